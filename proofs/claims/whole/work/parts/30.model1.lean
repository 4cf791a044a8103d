/-! by program (wip/whole/gen.py): pure functions and contracts -/
theorem dX12_within_0 : decode cX12_within 0 = .ok (.lload_n 0, 1) := by decide +kernel
theorem dX12_within_1 : decode cX12_within 1 = .ok (.lload_n 2, 1) := by decide +kernel
theorem dX12_within_2 : decode cX12_within 2 = .ok (.lcmp, 1) := by decide +kernel
theorem dX12_within_3 : decode cX12_within 3 = .ok (.ifCond .lt 14, 3) := by decide +kernel
theorem dX12_within_6 : decode cX12_within 6 = .ok (.lload_n 0, 1) := by decide +kernel
theorem dX12_within_7 : decode cX12_within 7 = .ok (.lload 4, 2) := by decide +kernel
theorem dX12_within_9 : decode cX12_within 9 = .ok (.lcmp, 1) := by decide +kernel
theorem dX12_within_10 : decode cX12_within 10 = .ok (.ifCond .gt 7, 3) := by decide +kernel
theorem dX12_within_13 : decode cX12_within 13 = .ok (.iconst 1, 1) := by decide +kernel
theorem dX12_within_14 : decode cX12_within 14 = .ok (.goto 4, 3) := by decide +kernel
theorem dX12_within_17 : decode cX12_within 17 = .ok (.iconst 0, 1) := by decide +kernel
theorem dX12_within_18 : decode cX12_within 18 = .ok (.ireturn, 1) := by decide +kernel
theorem dX12_isIn_0 : decode cX12_isIn 0 = .ok (.iload_n 0, 1) := by decide +kernel
theorem dX12_isIn_1 : decode cX12_isIn 1 = .ok (.iload_n 1, 1) := by decide +kernel
theorem dX12_isIn_2 : decode cX12_isIn 2 = .ok (.ishr, 1) := by decide +kernel
theorem dX12_isIn_3 : decode cX12_isIn 3 = .ok (.iconst 1, 1) := by decide +kernel
theorem dX12_isIn_4 : decode cX12_isIn 4 = .ok (.iand, 1) := by decide +kernel
theorem dX12_isIn_5 : decode cX12_isIn 5 = .ok (.iconst 1, 1) := by decide +kernel
theorem dX12_isIn_6 : decode cX12_isIn 6 = .ok (.if_icmp .ne 7, 3) := by decide +kernel
theorem dX12_isIn_9 : decode cX12_isIn 9 = .ok (.iconst 1, 1) := by decide +kernel
theorem dX12_isIn_10 : decode cX12_isIn 10 = .ok (.goto 4, 3) := by decide +kernel
theorem dX12_isIn_13 : decode cX12_isIn 13 = .ok (.iconst 0, 1) := by decide +kernel
theorem dX12_isIn_14 : decode cX12_isIn 14 = .ok (.ireturn, 1) := by decide +kernel
theorem dX12_isPerson_0 : decode cX12_isPerson 0 = .ok (.iload_n 1, 1) := by decide +kernel
theorem dX12_isPerson_1 : decode cX12_isPerson 1 = .ok (.i2l, 1) := by decide +kernel
theorem dX12_isPerson_2 : decode cX12_isPerson 2 = .ok (.lconst 0, 1) := by decide +kernel
theorem dX12_isPerson_3 : decode cX12_isPerson 3 = .ok (.aload_n 0, 1) := by decide +kernel
theorem dX12_isPerson_4 : decode cX12_isPerson 4 = .ok (.getfield 93, 3) := by decide +kernel
theorem dX12_isPerson_7 : decode cX12_isPerson 7 = .ok (.iconst 1, 1) := by decide +kernel
theorem dX12_isPerson_8 : decode cX12_isPerson 8 = .ok (.isub, 1) := by decide +kernel
theorem dX12_isPerson_9 : decode cX12_isPerson 9 = .ok (.i2l, 1) := by decide +kernel
theorem dX12_isPerson_10 : decode cX12_isPerson 10 = .ok (.invokestatic 96, 3) := by decide +kernel
theorem dX12_isPerson_13 : decode cX12_isPerson 13 = .ok (.ireturn, 1) := by decide +kernel
theorem dX12_isOthers_0 : decode cX12_isOthers 0 = .ok (.iconst 0, 1) := by decide +kernel
theorem dX12_isOthers_1 : decode cX12_isOthers 1 = .ok (.istore 4, 2) := by decide +kernel
theorem dX12_isOthers_3 : decode cX12_isOthers 3 = .ok (.iload 4, 2) := by decide +kernel
theorem dX12_isOthers_5 : decode cX12_isOthers 5 = .ok (.aload_n 0, 1) := by decide +kernel
theorem dX12_isOthers_6 : decode cX12_isOthers 6 = .ok (.getfield 93, 3) := by decide +kernel
theorem dX12_isOthers_9 : decode cX12_isOthers 9 = .ok (.if_icmp .ge 30, 3) := by decide +kernel
theorem dX12_isOthers_12 : decode cX12_isOthers 12 = .ok (.iload 4, 2) := by decide +kernel
theorem dX12_isOthers_14 : decode cX12_isOthers 14 = .ok (.iload_n 1, 1) := by decide +kernel
theorem dX12_isOthers_15 : decode cX12_isOthers 15 = .ok (.if_icmp .eq 18, 3) := by decide +kernel
theorem dX12_isOthers_18 : decode cX12_isOthers 18 = .ok (.aload_n 0, 1) := by decide +kernel
theorem dX12_isOthers_19 : decode cX12_isOthers 19 = .ok (.getfield 9, 3) := by decide +kernel
theorem dX12_isOthers_22 : decode cX12_isOthers 22 = .ok (.iload 4, 2) := by decide +kernel
theorem dX12_isOthers_24 : decode cX12_isOthers 24 = .ok (.iaload, 1) := by decide +kernel
theorem dX12_isOthers_25 : decode cX12_isOthers 25 = .ok (.i2l, 1) := by decide +kernel
theorem dX12_isOthers_26 : decode cX12_isOthers 26 = .ok (.lload_n 2, 1) := by decide +kernel
theorem dX12_isOthers_27 : decode cX12_isOthers 27 = .ok (.lcmp, 1) := by decide +kernel
theorem dX12_isOthers_28 : decode cX12_isOthers 28 = .ok (.ifCond .ne 5, 3) := by decide +kernel
theorem dX12_isOthers_31 : decode cX12_isOthers 31 = .ok (.iconst 1, 1) := by decide +kernel
theorem dX12_isOthers_32 : decode cX12_isOthers 32 = .ok (.ireturn, 1) := by decide +kernel
theorem dX12_isOthers_33 : decode cX12_isOthers 33 = .ok (.iinc 4 1, 3) := by decide +kernel
theorem dX12_isOthers_36 : decode cX12_isOthers 36 = .ok (.goto (-33), 3) := by decide +kernel
theorem dX12_isOthers_39 : decode cX12_isOthers 39 = .ok (.iconst 0, 1) := by decide +kernel
theorem dX12_isOthers_40 : decode cX12_isOthers 40 = .ok (.ireturn, 1) := by decide +kernel
theorem dX12_adds_0 : decode cX12_adds 0 = .ok (.aload_n 0, 1) := by decide +kernel
theorem dX12_adds_1 : decode cX12_adds 1 = .ok (.getfield 9, 3) := by decide +kernel
theorem dX12_adds_4 : decode cX12_adds 4 = .ok (.aload_n 0, 1) := by decide +kernel
theorem dX12_adds_5 : decode cX12_adds 5 = .ok (.getfield 93, 3) := by decide +kernel
theorem dX12_adds_8 : decode cX12_adds 8 = .ok (.iload_n 1, 1) := by decide +kernel
theorem dX12_adds_9 : decode cX12_adds 9 = .ok (.iastore, 1) := by decide +kernel
theorem dX12_adds_10 : decode cX12_adds 10 = .ok (.aload_n 0, 1) := by decide +kernel
theorem dX12_adds_11 : decode cX12_adds 11 = .ok (.getfield 31, 3) := by decide +kernel
theorem dX12_adds_14 : decode cX12_adds 14 = .ok (.aload_n 0, 1) := by decide +kernel
theorem dX12_adds_15 : decode cX12_adds 15 = .ok (.getfield 100, 3) := by decide +kernel
theorem dX12_adds_18 : decode cX12_adds 18 = .ok (.aload_n 0, 1) := by decide +kernel
theorem dX12_adds_19 : decode cX12_adds 19 = .ok (.getfield 93, 3) := by decide +kernel
theorem dX12_adds_22 : decode cX12_adds 22 = .ok (.iastore, 1) := by decide +kernel
theorem dX12_adds_23 : decode cX12_adds 23 = .ok (.aload_n 0, 1) := by decide +kernel
theorem dX12_adds_24 : decode cX12_adds 24 = .ok (.dup, 1) := by decide +kernel
theorem dX12_adds_25 : decode cX12_adds 25 = .ok (.getfield 100, 3) := by decide +kernel
theorem dX12_adds_28 : decode cX12_adds 28 = .ok (.iconst 1, 1) := by decide +kernel
theorem dX12_adds_29 : decode cX12_adds 29 = .ok (.iadd, 1) := by decide +kernel
theorem dX12_adds_30 : decode cX12_adds 30 = .ok (.putfield 100, 3) := by decide +kernel
theorem dX12_adds_33 : decode cX12_adds 33 = .ok (.aload_n 0, 1) := by decide +kernel
theorem dX12_adds_34 : decode cX12_adds 34 = .ok (.dup, 1) := by decide +kernel
theorem dX12_adds_35 : decode cX12_adds 35 = .ok (.getfield 93, 3) := by decide +kernel
theorem dX12_adds_38 : decode cX12_adds 38 = .ok (.iconst 1, 1) := by decide +kernel
theorem dX12_adds_39 : decode cX12_adds 39 = .ok (.iadd, 1) := by decide +kernel
theorem dX12_adds_40 : decode cX12_adds 40 = .ok (.putfield 93, 3) := by decide +kernel
theorem dX12_adds_43 : decode cX12_adds 43 = .ok (.return_, 1) := by decide +kernel
theorem dX12_person_0 : decode cX12_person 0 = .ok (.iload_n 1, 1) := by decide +kernel
theorem dX12_person_1 : decode cX12_person 1 = .ok (.i2l, 1) := by decide +kernel
theorem dX12_person_2 : decode cX12_person 2 = .ok (.lconst 1, 1) := by decide +kernel
theorem dX12_person_3 : decode cX12_person 3 = .ok (.ldc2_w 103, 3) := by decide +kernel
theorem dX12_person_6 : decode cX12_person 6 = .ok (.invokestatic 96, 3) := by decide +kernel
theorem dX12_person_9 : decode cX12_person 9 = .ok (.ifCond .eq 13, 3) := by decide +kernel
theorem dX12_person_12 : decode cX12_person 12 = .ok (.aload_n 0, 1) := by decide +kernel
theorem dX12_person_13 : decode cX12_person 13 = .ok (.iconst (-1), 1) := by decide +kernel
theorem dX12_person_14 : decode cX12_person 14 = .ok (.iload_n 1, 1) := by decide +kernel
theorem dX12_person_15 : decode cX12_person 15 = .ok (.i2l, 1) := by decide +kernel
theorem dX12_person_16 : decode cX12_person 16 = .ok (.invokevirtual 105, 3) := by decide +kernel
theorem dX12_person_19 : decode cX12_person 19 = .ok (.ifCond .eq 5, 3) := by decide +kernel
theorem dX12_person_22 : decode cX12_person 22 = .ok (.iconst (-1), 1) := by decide +kernel
theorem dX12_person_23 : decode cX12_person 23 = .ok (.ireturn, 1) := by decide +kernel
theorem dX12_person_24 : decode cX12_person 24 = .ok (.aload_n 0, 1) := by decide +kernel
theorem dX12_person_25 : decode cX12_person 25 = .ok (.getfield 93, 3) := by decide +kernel
theorem dX12_person_28 : decode cX12_person 28 = .ok (.bipush 9, 2) := by decide +kernel
theorem dX12_person_30 : decode cX12_person 30 = .ok (.if_icmp .ne 6, 3) := by decide +kernel
theorem dX12_person_33 : decode cX12_person 33 = .ok (.bipush (-3), 2) := by decide +kernel
theorem dX12_person_35 : decode cX12_person 35 = .ok (.ireturn, 1) := by decide +kernel
theorem dX12_person_36 : decode cX12_person 36 = .ok (.aload_n 0, 1) := by decide +kernel
theorem dX12_person_37 : decode cX12_person 37 = .ok (.iload_n 1, 1) := by decide +kernel
theorem dX12_person_38 : decode cX12_person 38 = .ok (.invokevirtual 109, 3) := by decide +kernel
theorem dX12_person_41 : decode cX12_person 41 = .ok (.aload_n 0, 1) := by decide +kernel
theorem dX12_person_42 : decode cX12_person 42 = .ok (.getfield 93, 3) := by decide +kernel
theorem dX12_person_45 : decode cX12_person 45 = .ok (.iconst 1, 1) := by decide +kernel
theorem dX12_person_46 : decode cX12_person 46 = .ok (.isub, 1) := by decide +kernel
theorem dX12_person_47 : decode cX12_person 47 = .ok (.ireturn, 1) := by decide +kernel
theorem dX12_isShelf_0 : decode cX12_isShelf 0 = .ok (.iload_n 0, 1) := by decide +kernel
theorem dX12_isShelf_1 : decode cX12_isShelf 1 = .ok (.i2l, 1) := by decide +kernel
theorem dX12_isShelf_2 : decode cX12_isShelf 2 = .ok (.lconst 0, 1) := by decide +kernel
theorem dX12_isShelf_3 : decode cX12_isShelf 3 = .ok (.ldc2_w 362, 3) := by decide +kernel
theorem dX12_isShelf_6 : decode cX12_isShelf 6 = .ok (.invokestatic 96, 3) := by decide +kernel
theorem dX12_isShelf_9 : decode cX12_isShelf 9 = .ok (.ireturn, 1) := by decide +kernel
theorem dX12_people_0 : decode cX12_people 0 = .ok (.iload_n 1, 1) := by decide +kernel
theorem dX12_people_1 : decode cX12_people 1 = .ok (.invokestatic 113, 3) := by decide +kernel
theorem dX12_people_4 : decode cX12_people 4 = .ok (.ifCond .eq 15, 3) := by decide +kernel
theorem dX12_people_7 : decode cX12_people 7 = .ok (.iload_n 3, 1) := by decide +kernel
theorem dX12_people_8 : decode cX12_people 8 = .ok (.i2l, 1) := by decide +kernel
theorem dX12_people_9 : decode cX12_people 9 = .ok (.lconst 1, 1) := by decide +kernel
theorem dX12_people_10 : decode cX12_people 10 = .ok (.ldc2_w 117, 3) := by decide +kernel
theorem dX12_people_13 : decode cX12_people 13 = .ok (.invokestatic 96, 3) := by decide +kernel
theorem dX12_people_16 : decode cX12_people 16 = .ok (.ifCond .ne 5, 3) := by decide +kernel
theorem dX12_people_19 : decode cX12_people 19 = .ok (.iconst (-1), 1) := by decide +kernel
theorem dX12_people_20 : decode cX12_people 20 = .ok (.ireturn, 1) := by decide +kernel
theorem dX12_people_21 : decode cX12_people 21 = .ok (.aload_n 0, 1) := by decide +kernel
theorem dX12_people_22 : decode cX12_people 22 = .ok (.getfield 76, 3) := by decide +kernel
theorem dX12_people_25 : decode cX12_people 25 = .ok (.iload_n 1, 1) := by decide +kernel
theorem dX12_people_26 : decode cX12_people 26 = .ok (.iaload, 1) := by decide +kernel
theorem dX12_people_27 : decode cX12_people 27 = .ok (.ifCond .lt 17, 3) := by decide +kernel
theorem dX12_people_30 : decode cX12_people 30 = .ok (.aload_n 0, 1) := by decide +kernel
theorem dX12_people_31 : decode cX12_people 31 = .ok (.getfield 76, 3) := by decide +kernel
theorem dX12_people_34 : decode cX12_people 34 = .ok (.iload_n 1, 1) := by decide +kernel
theorem dX12_people_35 : decode cX12_people 35 = .ok (.iaload, 1) := by decide +kernel
theorem dX12_people_36 : decode cX12_people 36 = .ok (.bipush 50, 2) := by decide +kernel
theorem dX12_people_38 : decode cX12_people 38 = .ok (.if_icmp .eq 6, 3) := by decide +kernel
theorem dX12_people_41 : decode cX12_people 41 = .ok (.bipush (-12), 2) := by decide +kernel
theorem dX12_people_43 : decode cX12_people 43 = .ok (.ireturn, 1) := by decide +kernel
theorem dX12_people_44 : decode cX12_people 44 = .ok (.iconst 0, 1) := by decide +kernel
theorem dX12_people_45 : decode cX12_people 45 = .ok (.istore 4, 2) := by decide +kernel
theorem dX12_people_47 : decode cX12_people 47 = .ok (.aload_n 0, 1) := by decide +kernel
theorem dX12_people_48 : decode cX12_people 48 = .ok (.getfield 76, 3) := by decide +kernel
theorem dX12_people_51 : decode cX12_people 51 = .ok (.iload_n 1, 1) := by decide +kernel
theorem dX12_people_52 : decode cX12_people 52 = .ok (.iaload, 1) := by decide +kernel
theorem dX12_people_53 : decode cX12_people 53 = .ok (.bipush 50, 2) := by decide +kernel
theorem dX12_people_55 : decode cX12_people 55 = .ok (.if_icmp .ne 11, 3) := by decide +kernel
theorem dX12_people_58 : decode cX12_people 58 = .ok (.iload_n 2, 1) := by decide +kernel
theorem dX12_people_59 : decode cX12_people 59 = .ok (.ifCond .lt 7, 3) := by decide +kernel
theorem dX12_people_62 : decode cX12_people 62 = .ok (.iconst 1, 1) := by decide +kernel
theorem dX12_people_63 : decode cX12_people 63 = .ok (.goto 4, 3) := by decide +kernel
theorem dX12_people_66 : decode cX12_people 66 = .ok (.iconst 0, 1) := by decide +kernel
theorem dX12_people_67 : decode cX12_people 67 = .ok (.istore 5, 2) := by decide +kernel
theorem dX12_people_69 : decode cX12_people 69 = .ok (.iload 5, 2) := by decide +kernel
theorem dX12_people_71 : decode cX12_people 71 = .ok (.ifCond .eq 118, 3) := by decide +kernel
theorem dX12_people_74 : decode cX12_people 74 = .ok (.iload 4, 2) := by decide +kernel
theorem dX12_people_76 : decode cX12_people 76 = .ok (.iload_n 3, 1) := by decide +kernel
theorem dX12_people_77 : decode cX12_people 77 = .ok (.if_icmp .ge 112, 3) := by decide +kernel
theorem dX12_people_80 : decode cX12_people 80 = .ok (.iload_n 2, 1) := by decide +kernel
theorem dX12_people_81 : decode cX12_people 81 = .ok (.aload_n 0, 1) := by decide +kernel
theorem dX12_people_82 : decode cX12_people 82 = .ok (.getfield 79, 3) := by decide +kernel
theorem dX12_people_85 : decode cX12_people 85 = .ok (.iload_n 1, 1) := by decide +kernel
theorem dX12_people_86 : decode cX12_people 86 = .ok (.iaload, 1) := by decide +kernel
theorem dX12_people_87 : decode cX12_people 87 = .ok (.iconst 1, 1) := by decide +kernel
theorem dX12_people_88 : decode cX12_people 88 = .ok (.isub, 1) := by decide +kernel
theorem dX12_people_89 : decode cX12_people 89 = .ok (.iload 4, 2) := by decide +kernel
theorem dX12_people_91 : decode cX12_people 91 = .ok (.isub, 1) := by decide +kernel
theorem dX12_people_92 : decode cX12_people 92 = .ok (.if_icmp .gt 16, 3) := by decide +kernel
theorem dX12_people_95 : decode cX12_people 95 = .ok (.aload_n 0, 1) := by decide +kernel
theorem dX12_people_96 : decode cX12_people 96 = .ok (.getfield 93, 3) := by decide +kernel
theorem dX12_people_99 : decode cX12_people 99 = .ok (.bipush 9, 2) := by decide +kernel
theorem dX12_people_101 : decode cX12_people 101 = .ok (.if_icmp .ge 7, 3) := by decide +kernel
theorem dX12_people_104 : decode cX12_people 104 = .ok (.iconst 1, 1) := by decide +kernel
theorem dX12_people_105 : decode cX12_people 105 = .ok (.goto 4, 3) := by decide +kernel
theorem dX12_people_108 : decode cX12_people 108 = .ok (.iconst 0, 1) := by decide +kernel
theorem dX12_people_109 : decode cX12_people 109 = .ok (.istore 5, 2) := by decide +kernel
theorem dX12_people_111 : decode cX12_people 111 = .ok (.bipush 60, 2) := by decide +kernel
theorem dX12_people_113 : decode cX12_people 113 = .ok (.iload_n 1, 1) := by decide +kernel
theorem dX12_people_114 : decode cX12_people 114 = .ok (.imul, 1) := by decide +kernel
theorem dX12_people_115 : decode cX12_people 115 = .ok (.iload_n 2, 1) := by decide +kernel
theorem dX12_people_116 : decode cX12_people 116 = .ok (.iadd, 1) := by decide +kernel
theorem dX12_people_117 : decode cX12_people 117 = .ok (.iload 4, 2) := by decide +kernel
theorem dX12_people_119 : decode cX12_people 119 = .ok (.iadd, 1) := by decide +kernel
theorem dX12_people_120 : decode cX12_people 120 = .ok (.istore 6, 2) := by decide +kernel
theorem dX12_people_122 : decode cX12_people 122 = .ok (.iload 5, 2) := by decide +kernel
theorem dX12_people_124 : decode cX12_people 124 = .ok (.ifCond .eq 39, 3) := by decide +kernel
theorem dX12_people_127 : decode cX12_people 127 = .ok (.aload_n 0, 1) := by decide +kernel
theorem dX12_people_128 : decode cX12_people 128 = .ok (.getfield 82, 3) := by decide +kernel
theorem dX12_people_131 : decode cX12_people 131 = .ok (.iload 6, 2) := by decide +kernel
theorem dX12_people_133 : decode cX12_people 133 = .ok (.laload, 1) := by decide +kernel
theorem dX12_people_134 : decode cX12_people 134 = .ok (.lconst 1, 1) := by decide +kernel
theorem dX12_people_135 : decode cX12_people 135 = .ok (.ldc2_w 103, 3) := by decide +kernel
theorem dX12_people_138 : decode cX12_people 138 = .ok (.invokestatic 96, 3) := by decide +kernel
theorem dX12_people_141 : decode cX12_people 141 = .ok (.ifCond .eq 22, 3) := by decide +kernel
theorem dX12_people_144 : decode cX12_people 144 = .ok (.aload_n 0, 1) := by decide +kernel
theorem dX12_people_145 : decode cX12_people 145 = .ok (.iconst (-1), 1) := by decide +kernel
theorem dX12_people_146 : decode cX12_people 146 = .ok (.aload_n 0, 1) := by decide +kernel
theorem dX12_people_147 : decode cX12_people 147 = .ok (.getfield 82, 3) := by decide +kernel
theorem dX12_people_150 : decode cX12_people 150 = .ok (.iload 6, 2) := by decide +kernel
theorem dX12_people_152 : decode cX12_people 152 = .ok (.laload, 1) := by decide +kernel
theorem dX12_people_153 : decode cX12_people 153 = .ok (.invokevirtual 105, 3) := by decide +kernel
theorem dX12_people_156 : decode cX12_people 156 = .ok (.ifCond .ne 7, 3) := by decide +kernel
theorem dX12_people_159 : decode cX12_people 159 = .ok (.iconst 1, 1) := by decide +kernel
theorem dX12_people_160 : decode cX12_people 160 = .ok (.goto 4, 3) := by decide +kernel
theorem dX12_people_163 : decode cX12_people 163 = .ok (.iconst 0, 1) := by decide +kernel
theorem dX12_people_164 : decode cX12_people 164 = .ok (.istore 5, 2) := by decide +kernel
theorem dX12_people_166 : decode cX12_people 166 = .ok (.iload 5, 2) := by decide +kernel
theorem dX12_people_168 : decode cX12_people 168 = .ok (.ifCond .eq 18, 3) := by decide +kernel
theorem dX12_people_171 : decode cX12_people 171 = .ok (.aload_n 0, 1) := by decide +kernel
theorem dX12_people_172 : decode cX12_people 172 = .ok (.aload_n 0, 1) := by decide +kernel
theorem dX12_people_173 : decode cX12_people 173 = .ok (.getfield 82, 3) := by decide +kernel
theorem dX12_people_176 : decode cX12_people 176 = .ok (.iload 6, 2) := by decide +kernel
theorem dX12_people_178 : decode cX12_people 178 = .ok (.laload, 1) := by decide +kernel
theorem dX12_people_179 : decode cX12_people 179 = .ok (.l2i, 1) := by decide +kernel
theorem dX12_people_180 : decode cX12_people 180 = .ok (.invokevirtual 109, 3) := by decide +kernel
theorem dX12_people_183 : decode cX12_people 183 = .ok (.iinc 4 1, 3) := by decide +kernel
theorem dX12_people_186 : decode cX12_people 186 = .ok (.goto (-117), 3) := by decide +kernel
theorem dX12_people_189 : decode cX12_people 189 = .ok (.iload 4, 2) := by decide +kernel
theorem dX12_people_191 : decode cX12_people 191 = .ok (.ireturn, 1) := by decide +kernel
theorem dX12_mend_0 : decode cX12_mend 0 = .ok (.aload_n 0, 1) := by decide +kernel
theorem dX12_mend_1 : decode cX12_mend 1 = .ok (.iload_n 1, 1) := by decide +kernel
theorem dX12_mend_2 : decode cX12_mend 2 = .ok (.invokevirtual 119, 3) := by decide +kernel
theorem dX12_mend_5 : decode cX12_mend 5 = .ok (.ifCond .eq 25, 3) := by decide +kernel
theorem dX12_mend_8 : decode cX12_mend 8 = .ok (.iload_n 2, 1) := by decide +kernel
theorem dX12_mend_9 : decode cX12_mend 9 = .ok (.i2l, 1) := by decide +kernel
theorem dX12_mend_10 : decode cX12_mend 10 = .ok (.lconst 1, 1) := by decide +kernel
theorem dX12_mend_11 : decode cX12_mend 11 = .ok (.ldc2_w 103, 3) := by decide +kernel
theorem dX12_mend_14 : decode cX12_mend 14 = .ok (.invokestatic 96, 3) := by decide +kernel
theorem dX12_mend_17 : decode cX12_mend 17 = .ok (.ifCond .eq 13, 3) := by decide +kernel
theorem dX12_mend_20 : decode cX12_mend 20 = .ok (.aload_n 0, 1) := by decide +kernel
theorem dX12_mend_21 : decode cX12_mend 21 = .ok (.iload_n 1, 1) := by decide +kernel
theorem dX12_mend_22 : decode cX12_mend 22 = .ok (.iload_n 2, 1) := by decide +kernel
theorem dX12_mend_23 : decode cX12_mend 23 = .ok (.i2l, 1) := by decide +kernel
theorem dX12_mend_24 : decode cX12_mend 24 = .ok (.invokevirtual 105, 3) := by decide +kernel
theorem dX12_mend_27 : decode cX12_mend 27 = .ok (.ifCond .eq 5, 3) := by decide +kernel
theorem dX12_mend_30 : decode cX12_mend 30 = .ok (.iconst (-1), 1) := by decide +kernel
theorem dX12_mend_31 : decode cX12_mend 31 = .ok (.ireturn, 1) := by decide +kernel
theorem dX12_mend_32 : decode cX12_mend 32 = .ok (.aload_n 0, 1) := by decide +kernel
theorem dX12_mend_33 : decode cX12_mend 33 = .ok (.getfield 9, 3) := by decide +kernel
theorem dX12_mend_36 : decode cX12_mend 36 = .ok (.iload_n 1, 1) := by decide +kernel
theorem dX12_mend_37 : decode cX12_mend 37 = .ok (.iaload, 1) := by decide +kernel
theorem dX12_mend_38 : decode cX12_mend 38 = .ok (.istore_n 3, 1) := by decide +kernel
theorem dX12_mend_39 : decode cX12_mend 39 = .ok (.iload_n 3, 1) := by decide +kernel
theorem dX12_mend_40 : decode cX12_mend 40 = .ok (.iload_n 2, 1) := by decide +kernel
theorem dX12_mend_41 : decode cX12_mend 41 = .ok (.if_icmp .ne 5, 3) := by decide +kernel
theorem dX12_mend_44 : decode cX12_mend 44 = .ok (.iload_n 3, 1) := by decide +kernel
theorem dX12_mend_45 : decode cX12_mend 45 = .ok (.ireturn, 1) := by decide +kernel
theorem dX12_mend_46 : decode cX12_mend 46 = .ok (.aload_n 0, 1) := by decide +kernel
theorem dX12_mend_47 : decode cX12_mend 47 = .ok (.getfield 122, 3) := by decide +kernel
theorem dX12_mend_50 : decode cX12_mend 50 = .ok (.bipush 40, 2) := by decide +kernel
theorem dX12_mend_52 : decode cX12_mend 52 = .ok (.if_icmp .ne 77, 3) := by decide +kernel
theorem dX12_mend_55 : decode cX12_mend 55 = .ok (.iconst 1, 1) := by decide +kernel
theorem dX12_mend_56 : decode cX12_mend 56 = .ok (.istore 4, 2) := by decide +kernel
theorem dX12_mend_58 : decode cX12_mend 58 = .ok (.iload 4, 2) := by decide +kernel
theorem dX12_mend_60 : decode cX12_mend 60 = .ok (.bipush 40, 2) := by decide +kernel
theorem dX12_mend_62 : decode cX12_mend 62 = .ok (.if_icmp .ge 57, 3) := by decide +kernel
theorem dX12_mend_65 : decode cX12_mend 65 = .ok (.aload_n 0, 1) := by decide +kernel
theorem dX12_mend_66 : decode cX12_mend 66 = .ok (.getfield 13, 3) := by decide +kernel
theorem dX12_mend_69 : decode cX12_mend 69 = .ok (.iload 4, 2) := by decide +kernel
theorem dX12_mend_71 : decode cX12_mend 71 = .ok (.iconst 1, 1) := by decide +kernel
theorem dX12_mend_72 : decode cX12_mend 72 = .ok (.isub, 1) := by decide +kernel
theorem dX12_mend_73 : decode cX12_mend 73 = .ok (.aload_n 0, 1) := by decide +kernel
theorem dX12_mend_74 : decode cX12_mend 74 = .ok (.getfield 13, 3) := by decide +kernel
theorem dX12_mend_77 : decode cX12_mend 77 = .ok (.iload 4, 2) := by decide +kernel
theorem dX12_mend_79 : decode cX12_mend 79 = .ok (.iaload, 1) := by decide +kernel
theorem dX12_mend_80 : decode cX12_mend 80 = .ok (.iastore, 1) := by decide +kernel
theorem dX12_mend_81 : decode cX12_mend 81 = .ok (.aload_n 0, 1) := by decide +kernel
theorem dX12_mend_82 : decode cX12_mend 82 = .ok (.getfield 16, 3) := by decide +kernel
theorem dX12_mend_85 : decode cX12_mend 85 = .ok (.iload 4, 2) := by decide +kernel
theorem dX12_mend_87 : decode cX12_mend 87 = .ok (.iconst 1, 1) := by decide +kernel
theorem dX12_mend_88 : decode cX12_mend 88 = .ok (.isub, 1) := by decide +kernel
theorem dX12_mend_89 : decode cX12_mend 89 = .ok (.aload_n 0, 1) := by decide +kernel
theorem dX12_mend_90 : decode cX12_mend 90 = .ok (.getfield 16, 3) := by decide +kernel
theorem dX12_mend_93 : decode cX12_mend 93 = .ok (.iload 4, 2) := by decide +kernel
theorem dX12_mend_95 : decode cX12_mend 95 = .ok (.iaload, 1) := by decide +kernel
theorem dX12_mend_96 : decode cX12_mend 96 = .ok (.iastore, 1) := by decide +kernel
theorem dX12_mend_97 : decode cX12_mend 97 = .ok (.aload_n 0, 1) := by decide +kernel
theorem dX12_mend_98 : decode cX12_mend 98 = .ok (.getfield 19, 3) := by decide +kernel
theorem dX12_mend_101 : decode cX12_mend 101 = .ok (.iload 4, 2) := by decide +kernel
theorem dX12_mend_103 : decode cX12_mend 103 = .ok (.iconst 1, 1) := by decide +kernel
theorem dX12_mend_104 : decode cX12_mend 104 = .ok (.isub, 1) := by decide +kernel
theorem dX12_mend_105 : decode cX12_mend 105 = .ok (.aload_n 0, 1) := by decide +kernel
theorem dX12_mend_106 : decode cX12_mend 106 = .ok (.getfield 19, 3) := by decide +kernel
theorem dX12_mend_109 : decode cX12_mend 109 = .ok (.iload 4, 2) := by decide +kernel
theorem dX12_mend_111 : decode cX12_mend 111 = .ok (.iaload, 1) := by decide +kernel
theorem dX12_mend_112 : decode cX12_mend 112 = .ok (.iastore, 1) := by decide +kernel
theorem dX12_mend_113 : decode cX12_mend 113 = .ok (.iinc 4 1, 3) := by decide +kernel
theorem dX12_mend_116 : decode cX12_mend 116 = .ok (.goto (-58), 3) := by decide +kernel
theorem dX12_mend_119 : decode cX12_mend 119 = .ok (.aload_n 0, 1) := by decide +kernel
theorem dX12_mend_120 : decode cX12_mend 120 = .ok (.dup, 1) := by decide +kernel
theorem dX12_mend_121 : decode cX12_mend 121 = .ok (.getfield 122, 3) := by decide +kernel
theorem dX12_mend_124 : decode cX12_mend 124 = .ok (.iconst 1, 1) := by decide +kernel
theorem dX12_mend_125 : decode cX12_mend 125 = .ok (.isub, 1) := by decide +kernel
theorem dX12_mend_126 : decode cX12_mend 126 = .ok (.putfield 122, 3) := by decide +kernel
theorem dX12_mend_129 : decode cX12_mend 129 = .ok (.aload_n 0, 1) := by decide +kernel
theorem dX12_mend_130 : decode cX12_mend 130 = .ok (.getfield 13, 3) := by decide +kernel
theorem dX12_mend_133 : decode cX12_mend 133 = .ok (.aload_n 0, 1) := by decide +kernel
theorem dX12_mend_134 : decode cX12_mend 134 = .ok (.getfield 122, 3) := by decide +kernel
theorem dX12_mend_137 : decode cX12_mend 137 = .ok (.iload_n 1, 1) := by decide +kernel
theorem dX12_mend_138 : decode cX12_mend 138 = .ok (.iastore, 1) := by decide +kernel
theorem dX12_mend_139 : decode cX12_mend 139 = .ok (.aload_n 0, 1) := by decide +kernel
theorem dX12_mend_140 : decode cX12_mend 140 = .ok (.getfield 16, 3) := by decide +kernel
theorem dX12_mend_143 : decode cX12_mend 143 = .ok (.aload_n 0, 1) := by decide +kernel
theorem dX12_mend_144 : decode cX12_mend 144 = .ok (.getfield 122, 3) := by decide +kernel
theorem dX12_mend_147 : decode cX12_mend 147 = .ok (.iload_n 3, 1) := by decide +kernel
theorem dX12_mend_148 : decode cX12_mend 148 = .ok (.iastore, 1) := by decide +kernel
theorem dX12_mend_149 : decode cX12_mend 149 = .ok (.aload_n 0, 1) := by decide +kernel
theorem dX12_mend_150 : decode cX12_mend 150 = .ok (.getfield 19, 3) := by decide +kernel
theorem dX12_mend_153 : decode cX12_mend 153 = .ok (.aload_n 0, 1) := by decide +kernel
theorem dX12_mend_154 : decode cX12_mend 154 = .ok (.getfield 122, 3) := by decide +kernel
theorem dX12_mend_157 : decode cX12_mend 157 = .ok (.iload_n 2, 1) := by decide +kernel
theorem dX12_mend_158 : decode cX12_mend 158 = .ok (.iastore, 1) := by decide +kernel
theorem dX12_mend_159 : decode cX12_mend 159 = .ok (.aload_n 0, 1) := by decide +kernel
theorem dX12_mend_160 : decode cX12_mend 160 = .ok (.dup, 1) := by decide +kernel
theorem dX12_mend_161 : decode cX12_mend 161 = .ok (.getfield 122, 3) := by decide +kernel
theorem dX12_mend_164 : decode cX12_mend 164 = .ok (.iconst 1, 1) := by decide +kernel
theorem dX12_mend_165 : decode cX12_mend 165 = .ok (.iadd, 1) := by decide +kernel
theorem dX12_mend_166 : decode cX12_mend 166 = .ok (.putfield 122, 3) := by decide +kernel
theorem dX12_mend_169 : decode cX12_mend 169 = .ok (.aload_n 0, 1) := by decide +kernel
theorem dX12_mend_170 : decode cX12_mend 170 = .ok (.aload_n 0, 1) := by decide +kernel
theorem dX12_mend_171 : decode cX12_mend 171 = .ok (.getfield 122, 3) := by decide +kernel
theorem dX12_mend_174 : decode cX12_mend 174 = .ok (.putfield 125, 3) := by decide +kernel
theorem dX12_mend_177 : decode cX12_mend 177 = .ok (.aload_n 0, 1) := by decide +kernel
theorem dX12_mend_178 : decode cX12_mend 178 = .ok (.getfield 9, 3) := by decide +kernel
theorem dX12_mend_181 : decode cX12_mend 181 = .ok (.iload_n 1, 1) := by decide +kernel
theorem dX12_mend_182 : decode cX12_mend 182 = .ok (.iload_n 2, 1) := by decide +kernel
theorem dX12_mend_183 : decode cX12_mend 183 = .ok (.iastore, 1) := by decide +kernel
theorem dX12_mend_184 : decode cX12_mend 184 = .ok (.iload_n 3, 1) := by decide +kernel
theorem dX12_mend_185 : decode cX12_mend 185 = .ok (.ireturn, 1) := by decide +kernel
theorem dX12_undo_0 : decode cX12_undo 0 = .ok (.aload_n 0, 1) := by decide +kernel
theorem dX12_undo_1 : decode cX12_undo 1 = .ok (.getfield 122, 3) := by decide +kernel
theorem dX12_undo_4 : decode cX12_undo 4 = .ok (.ifCond .eq 33, 3) := by decide +kernel
theorem dX12_undo_7 : decode cX12_undo 7 = .ok (.aload_n 0, 1) := by decide +kernel
theorem dX12_undo_8 : decode cX12_undo 8 = .ok (.aload_n 0, 1) := by decide +kernel
theorem dX12_undo_9 : decode cX12_undo 9 = .ok (.getfield 13, 3) := by decide +kernel
theorem dX12_undo_12 : decode cX12_undo 12 = .ok (.aload_n 0, 1) := by decide +kernel
theorem dX12_undo_13 : decode cX12_undo 13 = .ok (.getfield 122, 3) := by decide +kernel
theorem dX12_undo_16 : decode cX12_undo 16 = .ok (.iconst 1, 1) := by decide +kernel
theorem dX12_undo_17 : decode cX12_undo 17 = .ok (.isub, 1) := by decide +kernel
theorem dX12_undo_18 : decode cX12_undo 18 = .ok (.iaload, 1) := by decide +kernel
theorem dX12_undo_19 : decode cX12_undo 19 = .ok (.aload_n 0, 1) := by decide +kernel
theorem dX12_undo_20 : decode cX12_undo 20 = .ok (.getfield 16, 3) := by decide +kernel
theorem dX12_undo_23 : decode cX12_undo 23 = .ok (.aload_n 0, 1) := by decide +kernel
theorem dX12_undo_24 : decode cX12_undo 24 = .ok (.getfield 122, 3) := by decide +kernel
theorem dX12_undo_27 : decode cX12_undo 27 = .ok (.iconst 1, 1) := by decide +kernel
theorem dX12_undo_28 : decode cX12_undo 28 = .ok (.isub, 1) := by decide +kernel
theorem dX12_undo_29 : decode cX12_undo 29 = .ok (.iaload, 1) := by decide +kernel
theorem dX12_undo_30 : decode cX12_undo 30 = .ok (.i2l, 1) := by decide +kernel
theorem dX12_undo_31 : decode cX12_undo 31 = .ok (.invokevirtual 105, 3) := by decide +kernel
theorem dX12_undo_34 : decode cX12_undo 34 = .ok (.ifCond .eq 6, 3) := by decide +kernel
theorem dX12_undo_37 : decode cX12_undo 37 = .ok (.bipush (-5), 2) := by decide +kernel
theorem dX12_undo_39 : decode cX12_undo 39 = .ok (.ireturn, 1) := by decide +kernel
theorem dX12_undo_40 : decode cX12_undo 40 = .ok (.aload_n 0, 1) := by decide +kernel
theorem dX12_undo_41 : decode cX12_undo 41 = .ok (.dup, 1) := by decide +kernel
theorem dX12_undo_42 : decode cX12_undo 42 = .ok (.getfield 122, 3) := by decide +kernel
theorem dX12_undo_45 : decode cX12_undo 45 = .ok (.iconst 1, 1) := by decide +kernel
theorem dX12_undo_46 : decode cX12_undo 46 = .ok (.isub, 1) := by decide +kernel
theorem dX12_undo_47 : decode cX12_undo 47 = .ok (.putfield 122, 3) := by decide +kernel
theorem dX12_undo_50 : decode cX12_undo 50 = .ok (.aload_n 0, 1) := by decide +kernel
theorem dX12_undo_51 : decode cX12_undo 51 = .ok (.getfield 9, 3) := by decide +kernel
theorem dX12_undo_54 : decode cX12_undo 54 = .ok (.aload_n 0, 1) := by decide +kernel
theorem dX12_undo_55 : decode cX12_undo 55 = .ok (.getfield 13, 3) := by decide +kernel
theorem dX12_undo_58 : decode cX12_undo 58 = .ok (.aload_n 0, 1) := by decide +kernel
theorem dX12_undo_59 : decode cX12_undo 59 = .ok (.getfield 122, 3) := by decide +kernel
theorem dX12_undo_62 : decode cX12_undo 62 = .ok (.iaload, 1) := by decide +kernel
theorem dX12_undo_63 : decode cX12_undo 63 = .ok (.aload_n 0, 1) := by decide +kernel
theorem dX12_undo_64 : decode cX12_undo 64 = .ok (.getfield 16, 3) := by decide +kernel
theorem dX12_undo_67 : decode cX12_undo 67 = .ok (.aload_n 0, 1) := by decide +kernel
theorem dX12_undo_68 : decode cX12_undo 68 = .ok (.getfield 122, 3) := by decide +kernel
theorem dX12_undo_71 : decode cX12_undo 71 = .ok (.iaload, 1) := by decide +kernel
theorem dX12_undo_72 : decode cX12_undo 72 = .ok (.iastore, 1) := by decide +kernel
theorem dX12_undo_73 : decode cX12_undo 73 = .ok (.aload_n 0, 1) := by decide +kernel
theorem dX12_undo_74 : decode cX12_undo 74 = .ok (.getfield 122, 3) := by decide +kernel
theorem dX12_undo_77 : decode cX12_undo 77 = .ok (.ireturn, 1) := by decide +kernel
theorem dX12_redo_0 : decode cX12_redo 0 = .ok (.aload_n 0, 1) := by decide +kernel
theorem dX12_redo_1 : decode cX12_redo 1 = .ok (.getfield 122, 3) := by decide +kernel
theorem dX12_redo_4 : decode cX12_redo 4 = .ok (.aload_n 0, 1) := by decide +kernel
theorem dX12_redo_5 : decode cX12_redo 5 = .ok (.getfield 125, 3) := by decide +kernel
theorem dX12_redo_8 : decode cX12_redo 8 = .ok (.if_icmp .eq 29, 3) := by decide +kernel
theorem dX12_redo_11 : decode cX12_redo 11 = .ok (.aload_n 0, 1) := by decide +kernel
theorem dX12_redo_12 : decode cX12_redo 12 = .ok (.aload_n 0, 1) := by decide +kernel
theorem dX12_redo_13 : decode cX12_redo 13 = .ok (.getfield 13, 3) := by decide +kernel
theorem dX12_redo_16 : decode cX12_redo 16 = .ok (.aload_n 0, 1) := by decide +kernel
theorem dX12_redo_17 : decode cX12_redo 17 = .ok (.getfield 122, 3) := by decide +kernel
theorem dX12_redo_20 : decode cX12_redo 20 = .ok (.iaload, 1) := by decide +kernel
theorem dX12_redo_21 : decode cX12_redo 21 = .ok (.aload_n 0, 1) := by decide +kernel
theorem dX12_redo_22 : decode cX12_redo 22 = .ok (.getfield 19, 3) := by decide +kernel
theorem dX12_redo_25 : decode cX12_redo 25 = .ok (.aload_n 0, 1) := by decide +kernel
theorem dX12_redo_26 : decode cX12_redo 26 = .ok (.getfield 122, 3) := by decide +kernel
theorem dX12_redo_29 : decode cX12_redo 29 = .ok (.iaload, 1) := by decide +kernel
theorem dX12_redo_30 : decode cX12_redo 30 = .ok (.i2l, 1) := by decide +kernel
theorem dX12_redo_31 : decode cX12_redo 31 = .ok (.invokevirtual 105, 3) := by decide +kernel
theorem dX12_redo_34 : decode cX12_redo 34 = .ok (.ifCond .eq 6, 3) := by decide +kernel
theorem dX12_redo_37 : decode cX12_redo 37 = .ok (.bipush (-5), 2) := by decide +kernel
theorem dX12_redo_39 : decode cX12_redo 39 = .ok (.ireturn, 1) := by decide +kernel
theorem dX12_redo_40 : decode cX12_redo 40 = .ok (.aload_n 0, 1) := by decide +kernel
theorem dX12_redo_41 : decode cX12_redo 41 = .ok (.getfield 9, 3) := by decide +kernel
theorem dX12_redo_44 : decode cX12_redo 44 = .ok (.aload_n 0, 1) := by decide +kernel
theorem dX12_redo_45 : decode cX12_redo 45 = .ok (.getfield 13, 3) := by decide +kernel
theorem dX12_redo_48 : decode cX12_redo 48 = .ok (.aload_n 0, 1) := by decide +kernel
theorem dX12_redo_49 : decode cX12_redo 49 = .ok (.getfield 122, 3) := by decide +kernel
theorem dX12_redo_52 : decode cX12_redo 52 = .ok (.iaload, 1) := by decide +kernel
theorem dX12_redo_53 : decode cX12_redo 53 = .ok (.aload_n 0, 1) := by decide +kernel
theorem dX12_redo_54 : decode cX12_redo 54 = .ok (.getfield 19, 3) := by decide +kernel
theorem dX12_redo_57 : decode cX12_redo 57 = .ok (.aload_n 0, 1) := by decide +kernel
theorem dX12_redo_58 : decode cX12_redo 58 = .ok (.getfield 122, 3) := by decide +kernel
theorem dX12_redo_61 : decode cX12_redo 61 = .ok (.iaload, 1) := by decide +kernel
theorem dX12_redo_62 : decode cX12_redo 62 = .ok (.iastore, 1) := by decide +kernel
theorem dX12_redo_63 : decode cX12_redo 63 = .ok (.aload_n 0, 1) := by decide +kernel
theorem dX12_redo_64 : decode cX12_redo 64 = .ok (.dup, 1) := by decide +kernel
theorem dX12_redo_65 : decode cX12_redo 65 = .ok (.getfield 122, 3) := by decide +kernel
theorem dX12_redo_68 : decode cX12_redo 68 = .ok (.iconst 1, 1) := by decide +kernel
theorem dX12_redo_69 : decode cX12_redo 69 = .ok (.iadd, 1) := by decide +kernel
theorem dX12_redo_70 : decode cX12_redo 70 = .ok (.putfield 122, 3) := by decide +kernel
theorem dX12_redo_73 : decode cX12_redo 73 = .ok (.aload_n 0, 1) := by decide +kernel
theorem dX12_redo_74 : decode cX12_redo 74 = .ok (.getfield 125, 3) := by decide +kernel
theorem dX12_redo_77 : decode cX12_redo 77 = .ok (.aload_n 0, 1) := by decide +kernel
theorem dX12_redo_78 : decode cX12_redo 78 = .ok (.getfield 122, 3) := by decide +kernel
theorem dX12_redo_81 : decode cX12_redo 81 = .ok (.isub, 1) := by decide +kernel
theorem dX12_redo_82 : decode cX12_redo 82 = .ok (.ireturn, 1) := by decide +kernel
theorem dX12_feed_0 : decode cX12_feed 0 = .ok (.iload_n 1, 1) := by decide +kernel
theorem dX12_feed_1 : decode cX12_feed 1 = .ok (.i2l, 1) := by decide +kernel
theorem dX12_feed_2 : decode cX12_feed 2 = .ok (.lconst 0, 1) := by decide +kernel
theorem dX12_feed_3 : decode cX12_feed 3 = .ok (.ldc2_w 128, 3) := by decide +kernel
theorem dX12_feed_6 : decode cX12_feed 6 = .ok (.invokestatic 96, 3) := by decide +kernel
theorem dX12_feed_9 : decode cX12_feed 9 = .ok (.ifCond .ne 5, 3) := by decide +kernel
theorem dX12_feed_12 : decode cX12_feed 12 = .ok (.iconst (-1), 1) := by decide +kernel
theorem dX12_feed_13 : decode cX12_feed 13 = .ok (.ireturn, 1) := by decide +kernel
theorem dX12_feed_14 : decode cX12_feed 14 = .ok (.aload_n 0, 1) := by decide +kernel
theorem dX12_feed_15 : decode cX12_feed 15 = .ok (.getfield 130, 3) := by decide +kernel
theorem dX12_feed_18 : decode cX12_feed 18 = .ok (.bipush 120, 2) := by decide +kernel
theorem dX12_feed_20 : decode cX12_feed 20 = .ok (.if_icmp .ne 6, 3) := by decide +kernel
theorem dX12_feed_23 : decode cX12_feed 23 = .ok (.bipush (-3), 2) := by decide +kernel
theorem dX12_feed_25 : decode cX12_feed 25 = .ok (.ireturn, 1) := by decide +kernel
theorem dX12_feed_26 : decode cX12_feed 26 = .ok (.aload_n 0, 1) := by decide +kernel
theorem dX12_feed_27 : decode cX12_feed 27 = .ok (.getfield 22, 3) := by decide +kernel
theorem dX12_feed_30 : decode cX12_feed 30 = .ok (.aload_n 0, 1) := by decide +kernel
theorem dX12_feed_31 : decode cX12_feed 31 = .ok (.getfield 130, 3) := by decide +kernel
theorem dX12_feed_34 : decode cX12_feed 34 = .ok (.iload_n 1, 1) := by decide +kernel
theorem dX12_feed_35 : decode cX12_feed 35 = .ok (.iastore, 1) := by decide +kernel
theorem dX12_feed_36 : decode cX12_feed 36 = .ok (.aload_n 0, 1) := by decide +kernel
theorem dX12_feed_37 : decode cX12_feed 37 = .ok (.dup, 1) := by decide +kernel
theorem dX12_feed_38 : decode cX12_feed 38 = .ok (.getfield 130, 3) := by decide +kernel
theorem dX12_feed_41 : decode cX12_feed 41 = .ok (.iconst 1, 1) := by decide +kernel
theorem dX12_feed_42 : decode cX12_feed 42 = .ok (.iadd, 1) := by decide +kernel
theorem dX12_feed_43 : decode cX12_feed 43 = .ok (.putfield 130, 3) := by decide +kernel
theorem dX12_feed_46 : decode cX12_feed 46 = .ok (.aload_n 0, 1) := by decide +kernel
theorem dX12_feed_47 : decode cX12_feed 47 = .ok (.getfield 130, 3) := by decide +kernel
theorem dX12_feed_50 : decode cX12_feed 50 = .ok (.ireturn, 1) := by decide +kernel
theorem dX12_byteAt_0 : decode cX12_byteAt 0 = .ok (.aload_n 0, 1) := by decide +kernel
theorem dX12_byteAt_1 : decode cX12_byteAt 1 = .ok (.getfield 133, 3) := by decide +kernel
theorem dX12_byteAt_4 : decode cX12_byteAt 4 = .ok (.aload_n 0, 1) := by decide +kernel
theorem dX12_byteAt_5 : decode cX12_byteAt 5 = .ok (.getfield 136, 3) := by decide +kernel
theorem dX12_byteAt_8 : decode cX12_byteAt 8 = .ok (.if_icmp .ge 39, 3) := by decide +kernel
theorem dX12_byteAt_11 : decode cX12_byteAt 11 = .ok (.aload_n 0, 1) := by decide +kernel
theorem dX12_byteAt_12 : decode cX12_byteAt 12 = .ok (.getfield 139, 3) := by decide +kernel
theorem dX12_byteAt_15 : decode cX12_byteAt 15 = .ok (.ifCond .ge 15, 3) := by decide +kernel
theorem dX12_byteAt_18 : decode cX12_byteAt 18 = .ok (.aload_n 0, 1) := by decide +kernel
theorem dX12_byteAt_19 : decode cX12_byteAt 19 = .ok (.getfield 22, 3) := by decide +kernel
theorem dX12_byteAt_22 : decode cX12_byteAt 22 = .ok (.aload_n 0, 1) := by decide +kernel
theorem dX12_byteAt_23 : decode cX12_byteAt 23 = .ok (.getfield 133, 3) := by decide +kernel
theorem dX12_byteAt_26 : decode cX12_byteAt 26 = .ok (.iaload, 1) := by decide +kernel
theorem dX12_byteAt_27 : decode cX12_byteAt 27 = .ok (.goto 21, 3) := by decide +kernel
theorem dX12_byteAt_30 : decode cX12_byteAt 30 = .ok (.aload_n 0, 1) := by decide +kernel
theorem dX12_byteAt_31 : decode cX12_byteAt 31 = .ok (.getfield 25, 3) := by decide +kernel
theorem dX12_byteAt_34 : decode cX12_byteAt 34 = .ok (.aload_n 0, 1) := by decide +kernel
theorem dX12_byteAt_35 : decode cX12_byteAt 35 = .ok (.getfield 139, 3) := by decide +kernel
theorem dX12_byteAt_38 : decode cX12_byteAt 38 = .ok (.aload_n 0, 1) := by decide +kernel
theorem dX12_byteAt_39 : decode cX12_byteAt 39 = .ok (.getfield 133, 3) := by decide +kernel
theorem dX12_byteAt_42 : decode cX12_byteAt 42 = .ok (.iadd, 1) := by decide +kernel
theorem dX12_byteAt_43 : decode cX12_byteAt 43 = .ok (.iaload, 1) := by decide +kernel
theorem dX12_byteAt_44 : decode cX12_byteAt 44 = .ok (.goto 4, 3) := by decide +kernel
theorem dX12_byteAt_47 : decode cX12_byteAt 47 = .ok (.iconst 0, 1) := by decide +kernel
theorem dX12_byteAt_48 : decode cX12_byteAt 48 = .ok (.ireturn, 1) := by decide +kernel
theorem dX12_wrong_0 : decode cX12_wrong 0 = .ok (.aload_n 0, 1) := by decide +kernel
theorem dX12_wrong_1 : decode cX12_wrong 1 = .ok (.aload_n 0, 1) := by decide +kernel
theorem dX12_wrong_2 : decode cX12_wrong 2 = .ok (.getfield 142, 3) := by decide +kernel
theorem dX12_wrong_5 : decode cX12_wrong 5 = .ok (.ifCond .ge 10, 3) := by decide +kernel
theorem dX12_wrong_8 : decode cX12_wrong 8 = .ok (.aload_n 0, 1) := by decide +kernel
theorem dX12_wrong_9 : decode cX12_wrong 9 = .ok (.getfield 133, 3) := by decide +kernel
theorem dX12_wrong_12 : decode cX12_wrong 12 = .ok (.goto 7, 3) := by decide +kernel
theorem dX12_wrong_15 : decode cX12_wrong 15 = .ok (.aload_n 0, 1) := by decide +kernel
theorem dX12_wrong_16 : decode cX12_wrong 16 = .ok (.getfield 142, 3) := by decide +kernel
theorem dX12_wrong_19 : decode cX12_wrong 19 = .ok (.putfield 142, 3) := by decide +kernel
theorem dX12_wrong_22 : decode cX12_wrong 22 = .ok (.iconst 0, 1) := by decide +kernel
theorem dX12_wrong_23 : decode cX12_wrong 23 = .ok (.ireturn, 1) := by decide +kernel
theorem dX12_takes_0 : decode cX12_takes 0 = .ok (.aload_n 0, 1) := by decide +kernel
theorem dX12_takes_1 : decode cX12_takes 1 = .ok (.getfield 142, 3) := by decide +kernel
theorem dX12_takes_4 : decode cX12_takes 4 = .ok (.ifCond .ge 11, 3) := by decide +kernel
theorem dX12_takes_7 : decode cX12_takes 7 = .ok (.aload_n 0, 1) := by decide +kernel
theorem dX12_takes_8 : decode cX12_takes 8 = .ok (.invokevirtual 145, 3) := by decide +kernel
theorem dX12_takes_11 : decode cX12_takes 11 = .ok (.iload_n 1, 1) := by decide +kernel
theorem dX12_takes_12 : decode cX12_takes 12 = .ok (.if_icmp .eq 5, 3) := by decide +kernel
theorem dX12_takes_15 : decode cX12_takes 15 = .ok (.iconst 0, 1) := by decide +kernel
theorem dX12_takes_16 : decode cX12_takes 16 = .ok (.ireturn, 1) := by decide +kernel
theorem dX12_takes_17 : decode cX12_takes 17 = .ok (.aload_n 0, 1) := by decide +kernel
theorem dX12_takes_18 : decode cX12_takes 18 = .ok (.dup, 1) := by decide +kernel
theorem dX12_takes_19 : decode cX12_takes 19 = .ok (.getfield 133, 3) := by decide +kernel
theorem dX12_takes_22 : decode cX12_takes 22 = .ok (.iconst 1, 1) := by decide +kernel
theorem dX12_takes_23 : decode cX12_takes 23 = .ok (.iadd, 1) := by decide +kernel
theorem dX12_takes_24 : decode cX12_takes 24 = .ok (.putfield 133, 3) := by decide +kernel
theorem dX12_takes_27 : decode cX12_takes 27 = .ok (.iconst 1, 1) := by decide +kernel
theorem dX12_takes_28 : decode cX12_takes 28 = .ok (.ireturn, 1) := by decide +kernel
theorem dX12_product_0 : decode cX12_product 0 = .ok (.aload_n 0, 1) := by decide +kernel
theorem dX12_product_1 : decode cX12_product 1 = .ok (.invokevirtual 164, 3) := by decide +kernel
theorem dX12_product_4 : decode cX12_product 4 = .ok (.istore_n 1, 1) := by decide +kernel
theorem dX12_product_5 : decode cX12_product 5 = .ok (.aload_n 0, 1) := by decide +kernel
theorem dX12_product_6 : decode cX12_product 6 = .ok (.invokevirtual 145, 3) := by decide +kernel
theorem dX12_product_9 : decode cX12_product 9 = .ok (.istore_n 2, 1) := by decide +kernel
theorem dX12_product_10 : decode cX12_product 10 = .ok (.aload_n 0, 1) := by decide +kernel
theorem dX12_product_11 : decode cX12_product 11 = .ok (.getfield 142, 3) := by decide +kernel
theorem dX12_product_14 : decode cX12_product 14 = .ok (.ifCond .ge 80, 3) := by decide +kernel
theorem dX12_product_17 : decode cX12_product 17 = .ok (.iload_n 2, 1) := by decide +kernel
theorem dX12_product_18 : decode cX12_product 18 = .ok (.bipush 42, 2) := by decide +kernel
theorem dX12_product_20 : decode cX12_product 20 = .ok (.if_icmp .eq 15, 3) := by decide +kernel
theorem dX12_product_23 : decode cX12_product 23 = .ok (.iload_n 2, 1) := by decide +kernel
theorem dX12_product_24 : decode cX12_product 24 = .ok (.bipush 47, 2) := by decide +kernel
theorem dX12_product_26 : decode cX12_product 26 = .ok (.if_icmp .eq 9, 3) := by decide +kernel
theorem dX12_product_29 : decode cX12_product 29 = .ok (.iload_n 2, 1) := by decide +kernel
theorem dX12_product_30 : decode cX12_product 30 = .ok (.bipush 37, 2) := by decide +kernel
theorem dX12_product_32 : decode cX12_product 32 = .ok (.if_icmp .ne 62, 3) := by decide +kernel
theorem dX12_product_35 : decode cX12_product 35 = .ok (.aload_n 0, 1) := by decide +kernel
theorem dX12_product_36 : decode cX12_product 36 = .ok (.dup, 1) := by decide +kernel
theorem dX12_product_37 : decode cX12_product 37 = .ok (.getfield 133, 3) := by decide +kernel
theorem dX12_product_40 : decode cX12_product 40 = .ok (.iconst 1, 1) := by decide +kernel
theorem dX12_product_41 : decode cX12_product 41 = .ok (.iadd, 1) := by decide +kernel
theorem dX12_product_42 : decode cX12_product 42 = .ok (.putfield 133, 3) := by decide +kernel
theorem dX12_product_45 : decode cX12_product 45 = .ok (.aload_n 0, 1) := by decide +kernel
theorem dX12_product_46 : decode cX12_product 46 = .ok (.invokevirtual 164, 3) := by decide +kernel
theorem dX12_product_49 : decode cX12_product 49 = .ok (.istore_n 3, 1) := by decide +kernel
theorem dX12_product_50 : decode cX12_product 50 = .ok (.iload_n 2, 1) := by decide +kernel
theorem dX12_product_51 : decode cX12_product 51 = .ok (.bipush 42, 2) := by decide +kernel
theorem dX12_product_53 : decode cX12_product 53 = .ok (.if_icmp .ne 9, 3) := by decide +kernel
theorem dX12_product_56 : decode cX12_product 56 = .ok (.iload_n 1, 1) := by decide +kernel
theorem dX12_product_57 : decode cX12_product 57 = .ok (.iload_n 3, 1) := by decide +kernel
theorem dX12_product_58 : decode cX12_product 58 = .ok (.imul, 1) := by decide +kernel
theorem dX12_product_59 : decode cX12_product 59 = .ok (.goto 26, 3) := by decide +kernel
theorem dX12_product_62 : decode cX12_product 62 = .ok (.iload_n 3, 1) := by decide +kernel
theorem dX12_product_63 : decode cX12_product 63 = .ok (.ifCond .ne 7, 3) := by decide +kernel
theorem dX12_product_66 : decode cX12_product 66 = .ok (.iconst 0, 1) := by decide +kernel
theorem dX12_product_67 : decode cX12_product 67 = .ok (.goto 18, 3) := by decide +kernel
theorem dX12_product_70 : decode cX12_product 70 = .ok (.iload_n 2, 1) := by decide +kernel
theorem dX12_product_71 : decode cX12_product 71 = .ok (.bipush 47, 2) := by decide +kernel
theorem dX12_product_73 : decode cX12_product 73 = .ok (.if_icmp .ne 9, 3) := by decide +kernel
theorem dX12_product_76 : decode cX12_product 76 = .ok (.iload_n 1, 1) := by decide +kernel
theorem dX12_product_77 : decode cX12_product 77 = .ok (.iload_n 3, 1) := by decide +kernel
theorem dX12_product_78 : decode cX12_product 78 = .ok (.idiv, 1) := by decide +kernel
theorem dX12_product_79 : decode cX12_product 79 = .ok (.goto 6, 3) := by decide +kernel
theorem dX12_product_82 : decode cX12_product 82 = .ok (.iload_n 1, 1) := by decide +kernel
theorem dX12_product_83 : decode cX12_product 83 = .ok (.iload_n 3, 1) := by decide +kernel
theorem dX12_product_84 : decode cX12_product 84 = .ok (.irem, 1) := by decide +kernel
theorem dX12_product_85 : decode cX12_product 85 = .ok (.istore_n 1, 1) := by decide +kernel
theorem dX12_product_86 : decode cX12_product 86 = .ok (.aload_n 0, 1) := by decide +kernel
theorem dX12_product_87 : decode cX12_product 87 = .ok (.invokevirtual 145, 3) := by decide +kernel
theorem dX12_product_90 : decode cX12_product 90 = .ok (.istore_n 2, 1) := by decide +kernel
theorem dX12_product_91 : decode cX12_product 91 = .ok (.goto (-81), 3) := by decide +kernel
theorem dX12_product_94 : decode cX12_product 94 = .ok (.iload_n 1, 1) := by decide +kernel
theorem dX12_product_95 : decode cX12_product 95 = .ok (.ireturn, 1) := by decide +kernel
theorem fl_X12_100 : Cond.fieldLink RX12 100 (TX12 18).1 (TX12 18).2.1 (TX12 18).2.2.1 ∈ wsL_law := (uw10 _ (List.mem_of_getElem? (i := 20) rfl))
theorem fl_X12_122 : Cond.fieldLink RX12 122 (TX12 6).1 (TX12 6).2.1 (TX12 6).2.2.1 ∈ wsL_law := (uw14 _ (List.mem_of_getElem? (i := 12) rfl))
theorem fl_X12_125 : Cond.fieldLink RX12 125 (TX12 5).1 (TX12 5).2.1 (TX12 5).2.2.1 ∈ wsL_law := (uw14 _ (List.mem_of_getElem? (i := 13) rfl))
theorem fl_X12_13 : Cond.fieldLink RX12 13 (TX12 2).1 (TX12 2).2.1 (TX12 2).2.2.1 ∈ wsL_law := (uw7 _ (List.mem_of_getElem? (i := 23) rfl))
theorem fl_X12_130 : Cond.fieldLink RX12 130 (TX12 8).1 (TX12 8).2.1 (TX12 8).2.2.1 ∈ wsL_law := (uw22 _ (List.mem_of_getElem? (i := 12) rfl))
theorem fl_X12_133 : Cond.fieldLink RX12 133 (TX12 12).1 (TX12 12).2.1 (TX12 12).2.2.1 ∈ wsL_law := (uw19 _ (List.mem_of_getElem? (i := 19) rfl))
theorem fl_X12_136 : Cond.fieldLink RX12 136 (TX12 13).1 (TX12 13).2.1 (TX12 13).2.2.1 ∈ wsL_law := (uw19 _ (List.mem_of_getElem? (i := 20) rfl))
theorem fl_X12_139 : Cond.fieldLink RX12 139 (TX12 11).1 (TX12 11).2.1 (TX12 11).2.2.1 ∈ wsL_law := (uw19 _ (List.mem_of_getElem? (i := 18) rfl))
theorem fl_X12_142 : Cond.fieldLink RX12 142 (TX12 14).1 (TX12 14).2.1 (TX12 14).2.2.1 ∈ wsL_law := (uw19 _ (List.mem_of_getElem? (i := 21) rfl))
theorem fl_X12_16 : Cond.fieldLink RX12 16 (TX12 3).1 (TX12 3).2.1 (TX12 3).2.2.1 ∈ wsL_law := (uw8 _ (List.mem_of_getElem? (i := 0) rfl))
theorem fl_X12_19 : Cond.fieldLink RX12 19 (TX12 4).1 (TX12 4).2.1 (TX12 4).2.2.1 ∈ wsL_law := (uw8 _ (List.mem_of_getElem? (i := 1) rfl))
theorem fl_X12_22 : Cond.fieldLink RX12 22 (TX12 7).1 (TX12 7).2.1 (TX12 7).2.2.1 ∈ wsL_law := (uw8 _ (List.mem_of_getElem? (i := 2) rfl))
theorem fl_X12_25 : Cond.fieldLink RX12 25 (TX12 9).1 (TX12 9).2.1 (TX12 9).2.2.1 ∈ wsL_law := (uw8 _ (List.mem_of_getElem? (i := 3) rfl))
theorem fl_X12_31 : Cond.fieldLink RX12 31 (TX12 17).1 (TX12 17).2.1 (TX12 17).2.2.1 ∈ wsL_law := (uw8 _ (List.mem_of_getElem? (i := 5) rfl))
theorem fl_X12_76 : Cond.fieldLink RX12 76 (TX12 43).1 (TX12 43).2.1 (TX12 43).2.2.1 ∈ wsL_law := (uw8 _ (List.mem_of_getElem? (i := 20) rfl))
theorem fl_X12_79 : Cond.fieldLink RX12 79 (TX12 44).1 (TX12 44).2.1 (TX12 44).2.2.1 ∈ wsL_law := (uw8 _ (List.mem_of_getElem? (i := 21) rfl))
theorem fl_X12_82 : Cond.fieldLink RX12 82 (TX12 45).1 (TX12 45).2.1 (TX12 45).2.2.1 ∈ wsL_law := (uw8 _ (List.mem_of_getElem? (i := 22) rfl))
theorem fl_X12_9 : Cond.fieldLink RX12 9 (TX12 1).1 (TX12 1).2.1 (TX12 1).2.2.1 ∈ wsL_law := (uw7 _ (List.mem_of_getElem? (i := 22) rfl))
theorem fl_X12_93 : Cond.fieldLink RX12 93 (TX12 0).1 (TX12 0).2.1 (TX12 0).2.2.1 ∈ wsL_law := (uw10 _ (List.mem_of_getElem? (i := 8) rfl))
theorem hy_X12_adds : Cond.code yX12_adds cX12_adds 2 none ∈ wsL_law ∧ Cond.initialized yX12_adds.cls ∈ wsL_law ∧ Cond.instanceMethod yX12_adds ∈ wsL_law ∧ Cond.selects yX12_adds.cls yX12_adds yX12_adds ∈ wsL_law := ⟨(uw10 _ (List.mem_of_getElem? (i := 19) rfl)), (uw1 _ (List.mem_of_getElem? (i := 5) rfl)), (uw10 _ (List.mem_of_getElem? (i := 17) rfl)), (uw10 _ (List.mem_of_getElem? (i := 18) rfl))⟩
theorem hd_X12_adds : yX12_adds.cls ≠ "java/lang/invoke/MethodHandle" ∧ yX12_adds.cls ≠ "java/lang/invoke/VarHandle" ∧ (parseMethodDescriptor yX12_adds.desc).map (fun d => d.parameters.length) = some 1 := ⟨by decide +kernel, by decide +kernel, by decide +kernel⟩
theorem hy_X12_byteAt : Cond.code yX12_byteAt cX12_byteAt 1 (some .int) ∈ wsL_law ∧ Cond.initialized yX12_byteAt.cls ∈ wsL_law ∧ Cond.instanceMethod yX12_byteAt ∈ wsL_law ∧ Cond.selects yX12_byteAt.cls yX12_byteAt yX12_byteAt ∈ wsL_law := ⟨(uw20 _ (List.mem_of_getElem? (i := 13) rfl)), (uw1 _ (List.mem_of_getElem? (i := 5) rfl)), (uw20 _ (List.mem_of_getElem? (i := 11) rfl)), (uw20 _ (List.mem_of_getElem? (i := 12) rfl))⟩
theorem hd_X12_byteAt : yX12_byteAt.cls ≠ "java/lang/invoke/MethodHandle" ∧ yX12_byteAt.cls ≠ "java/lang/invoke/VarHandle" ∧ (parseMethodDescriptor yX12_byteAt.desc).map (fun d => d.parameters.length) = some 0 := ⟨by decide +kernel, by decide +kernel, by decide +kernel⟩
theorem hy_X12_isOthers : Cond.code yX12_isOthers cX12_isOthers 5 (some .boolean) ∈ wsL_law ∧ Cond.initialized yX12_isOthers.cls ∈ wsL_law ∧ Cond.instanceMethod yX12_isOthers ∈ wsL_law ∧ Cond.selects yX12_isOthers.cls yX12_isOthers yX12_isOthers ∈ wsL_law := ⟨(uw10 _ (List.mem_of_getElem? (i := 15) rfl)), (uw1 _ (List.mem_of_getElem? (i := 5) rfl)), (uw10 _ (List.mem_of_getElem? (i := 13) rfl)), (uw10 _ (List.mem_of_getElem? (i := 14) rfl))⟩
theorem hd_X12_isOthers : yX12_isOthers.cls ≠ "java/lang/invoke/MethodHandle" ∧ yX12_isOthers.cls ≠ "java/lang/invoke/VarHandle" ∧ (parseMethodDescriptor yX12_isOthers.desc).map (fun d => d.parameters.length) = some 2 := ⟨by decide +kernel, by decide +kernel, by decide +kernel⟩
theorem hy_X12_isPerson : Cond.code yX12_isPerson cX12_isPerson 2 (some .boolean) ∈ wsL_law ∧ Cond.initialized yX12_isPerson.cls ∈ wsL_law ∧ Cond.instanceMethod yX12_isPerson ∈ wsL_law ∧ Cond.selects yX12_isPerson.cls yX12_isPerson yX12_isPerson ∈ wsL_law := ⟨(uw14 _ (List.mem_of_getElem? (i := 17) rfl)), (uw1 _ (List.mem_of_getElem? (i := 5) rfl)), (uw14 _ (List.mem_of_getElem? (i := 15) rfl)), (uw14 _ (List.mem_of_getElem? (i := 16) rfl))⟩
theorem hd_X12_isPerson : yX12_isPerson.cls ≠ "java/lang/invoke/MethodHandle" ∧ yX12_isPerson.cls ≠ "java/lang/invoke/VarHandle" ∧ (parseMethodDescriptor yX12_isPerson.desc).map (fun d => d.parameters.length) = some 1 := ⟨by decide +kernel, by decide +kernel, by decide +kernel⟩
theorem hy_X12_isShelf : Cond.code yX12_isShelf cX12_isShelf 1 (some .boolean) ∈ wsL_law ∧ Cond.initialized yX12_isShelf.cls ∈ wsL_law ∧ Cond.static yX12_isShelf ∈ wsL_law := ⟨(uw12 _ (List.mem_of_getElem? (i := 11) rfl)), (uw1 _ (List.mem_of_getElem? (i := 5) rfl)), (uw12 _ (List.mem_of_getElem? (i := 10) rfl))⟩
theorem hd_X12_isShelf : yX12_isShelf.cls ≠ "java/lang/invoke/MethodHandle" ∧ yX12_isShelf.cls ≠ "java/lang/invoke/VarHandle" ∧ (parseMethodDescriptor yX12_isShelf.desc).map (fun d => d.parameters.length) = some 1 := ⟨by decide +kernel, by decide +kernel, by decide +kernel⟩
theorem hy_X12_one : Cond.code yX12_one cX12_one 5 (some .int) ∈ wsL_law ∧ Cond.initialized yX12_one.cls ∈ wsL_law ∧ Cond.instanceMethod yX12_one ∈ wsL_law ∧ Cond.selects yX12_one.cls yX12_one yX12_one ∈ wsL_law := ⟨(uw20 _ (List.mem_of_getElem? (i := 22) rfl)), (uw1 _ (List.mem_of_getElem? (i := 5) rfl)), (uw21 _ (List.mem_of_getElem? (i := 4) rfl)), (uw21 _ (List.mem_of_getElem? (i := 5) rfl))⟩
theorem hd_X12_one : yX12_one.cls ≠ "java/lang/invoke/MethodHandle" ∧ yX12_one.cls ≠ "java/lang/invoke/VarHandle" ∧ (parseMethodDescriptor yX12_one.desc).map (fun d => d.parameters.length) = some 0 := ⟨by decide +kernel, by decide +kernel, by decide +kernel⟩
theorem hy_X12_within : Cond.code yX12_within cX12_within 6 (some .boolean) ∈ wsL_law ∧ Cond.initialized yX12_within.cls ∈ wsL_law ∧ Cond.static yX12_within ∈ wsL_law := ⟨(uw10 _ (List.mem_of_getElem? (i := 11) rfl)), (uw1 _ (List.mem_of_getElem? (i := 5) rfl)), (uw10 _ (List.mem_of_getElem? (i := 10) rfl))⟩
theorem hd_X12_within : yX12_within.cls ≠ "java/lang/invoke/MethodHandle" ∧ yX12_within.cls ≠ "java/lang/invoke/VarHandle" ∧ (parseMethodDescriptor yX12_within.desc).map (fun d => d.parameters.length) = some 3 := ⟨by decide +kernel, by decide +kernel, by decide +kernel⟩
theorem ml_X12_105 : Cond.methodLink RX12 105 yX12_isOthers ∈ wsL_law := (uw10 _ (List.mem_of_getElem? (i := 12) rfl))
theorem ml_X12_109 : Cond.methodLink RX12 109 yX12_adds ∈ wsL_law := (uw10 _ (List.mem_of_getElem? (i := 16) rfl))
theorem ml_X12_113 : Cond.methodLink RX12 113 yX12_isShelf ∈ wsL_law := (uw12 _ (List.mem_of_getElem? (i := 9) rfl))
theorem ml_X12_119 : Cond.methodLink RX12 119 yX12_isPerson ∈ wsL_law := (uw14 _ (List.mem_of_getElem? (i := 14) rfl))
theorem ml_X12_145 : Cond.methodLink RX12 145 yX12_byteAt ∈ wsL_law := (uw20 _ (List.mem_of_getElem? (i := 10) rfl))
theorem ml_X12_164 : Cond.methodLink RX12 164 yX12_one ∈ wsL_law := (uw21 _ (List.mem_of_getElem? (i := 3) rfl))
theorem ml_X12_96 : Cond.methodLink RX12 96 yX12_within ∈ wsL_law := (uw10 _ (List.mem_of_getElem? (i := 9) rfl))
abbrev w_M_within (G : zG) : va_W := []
def f_M_within (x0 : Int64) (x2 : Int64) (x4 : Int64) : Int32 := (if (lg_cmp x0 x2) < 0 then 0 else (if (0 : Int32) < (lg_cmp x0 x4) then 0 else 1))
set_option maxRecDepth 100000 in
set_option maxHeartbeats 4000000 in
theorem c_M_within (l : Launch) (G : zG) (x0 : Int64) (x2 : Int64) (x4 : Int64) (r_ : Int32) (hf : f_M_within x0 x2 x4 = r_) : zM l yX12_within cX12_within 6 (some .boolean) 0 0 G [.long x0, .long x2, .long x4] (w_M_within G) (some (.int r_)) (w_M_within G) := by
  refine zM.of [(0, .long x0), (2, .long x2), (4, .long x4)] (own := RX12) rfl (by decide +kernel) (Nat.le_of_ble_eq_true rfl) rfl rfl fun X hX F => ?_
  subst hX
  replace hf := (f_M_within.eq_1 ..).symm.trans hf
  refine z_lload_n F 0 dX12_within_0 rfl rfl ?_
  refine z_lload_n F 1 dX12_within_1 rfl rfl ?_
  refine z_lcmp F dX12_within_2 ?_
  refine z_if_lt F 17 dX12_within_3 (by decide) hf (fun hf _ => ?_) (fun hf _ => ?_)
  · refine z_iconst F (0) dX12_within_17 rfl ?_
    subst hf
    exact z_iret F rfl rfl rfl rfl dX12_within_18
  · refine z_lload_n F 0 dX12_within_6 rfl rfl ?_
    refine z_lload F 2 dX12_within_7 rfl ?_
    refine z_lcmp F dX12_within_9 ?_
    refine z_if_gt F 17 dX12_within_10 (by decide) hf (fun hf _ => ?_) (fun hf _ => ?_)
    · refine z_iconst F (0) dX12_within_17 rfl ?_
      subst hf
      exact z_iret F rfl rfl rfl rfl dX12_within_18
    · refine z_iconst F (1) dX12_within_13 rfl ?_
      refine z_goto F 18 dX12_within_14 (by decide) ?_
      subst hf
      exact z_iret F rfl rfl rfl rfl dX12_within_18

abbrev w_M_isIn (G : zG) : va_W := []
def f_M_isIn (x0 : Int32) (x1 : Int32) : Int32 := (if ((x0 >>> (x1 &&& 31)) &&& (1 : Int32)) = 1 then 1 else 0)
set_option maxRecDepth 100000 in
set_option maxHeartbeats 4000000 in
theorem c_M_isIn (l : Launch) (G : zG) (x0 : Int32) (x1 : Int32) (r_ : Int32) (hf : f_M_isIn x0 x1 = r_) : zM l yX12_isIn cX12_isIn 2 (some .boolean) 0 0 G [.int x0, .int x1] (w_M_isIn G) (some (.int r_)) (w_M_isIn G) := by
  refine zM.of [(0, .int x0), (1, .int x1)] (own := RX12) rfl (by decide +kernel) (Nat.le_of_ble_eq_true rfl) rfl rfl fun X hX F => ?_
  subst hX
  replace hf := (f_M_isIn.eq_1 ..).symm.trans hf
  refine z_iload_n F 0 dX12_isIn_0 rfl rfl ?_
  refine z_iload_n F 1 dX12_isIn_1 rfl rfl ?_
  refine z_ishr F dX12_isIn_2 ?_
  refine z_iconst F (1) dX12_isIn_3 rfl ?_
  refine z_iand F dX12_isIn_4 ?_
  refine z_iconst F (1) dX12_isIn_5 rfl ?_
  refine z_icmp_ne F 13 dX12_isIn_6 (by decide) hf (fun hf _ => ?_) (fun hf _ => ?_)
  · refine z_iconst F (0) dX12_isIn_13 rfl ?_
    subst hf
    exact z_iret F rfl rfl rfl rfl dX12_isIn_14
  · refine z_iconst F (1) dX12_isIn_9 rfl ?_
    refine z_goto F 14 dX12_isIn_10 (by decide) ?_
    subst hf
    exact z_iret F rfl rfl rfl rfl dX12_isIn_14

abbrev w_M_isPerson (G : zG) (a_this : Nat) (a_height : Nat) (a_changeAt : Nat) (a_changeWas : Nat) (a_changeIs : Nat) (a_tape : Nat) (a_text : Nat) (a_names : Nat) (a_line : Nat) (a_row : Nat) (a_pastMany : Nat) (a_past : Nat) (a_changed : Nat) (a_greatest : Nat) (a_numbersWere : Nat) (a_told : Nat) (a_waysOf : Nat) (a_waysWere : Nat) (a_blocks : Nat) (a_ordersOf : Nat) (a_imageLine : Nat) (a_bodyKind : Nat) (a_trace : Nat) (a_shelf : Nat) (a_many : Nat) (a_items : Nat) (a_carried : Nat) (people : Int32) (keptMany : Int32) (done : Int32) (tapeMany : Int32) (textMany : Int32) (base : Int32) (at_ : Int32) (ends : Int32) (fault : Int32) (opened : Int32) (lineMany : Int32) (rowMany : Int32) (taller : Int32) (tallerBy : Int32) (pasts : Int32) (isKept : Int32) (imageMany : Int32) (bodies : Int32) (ran : Int32) (ownKind : Int32) (ownNumber : Int32) : va_W := [(a_this, cO 12 [.int people, .ref a_height, .ref a_changeAt, .ref a_changeWas, .ref a_changeIs, .int keptMany, .int done, .ref a_tape, .int tapeMany, .ref a_text, .int textMany, .int base, .int at_, .int ends, .int fault, .int opened, .ref a_names, .ref a_line, .int lineMany, .ref a_row, .int rowMany, .int taller, .int tallerBy, .ref a_pastMany, .ref a_past, .int pasts, .ref a_changed, .ref a_greatest, .ref a_numbersWere, .ref a_told, .ref a_waysOf, .ref a_waysWere, .ref a_blocks, .ref a_ordersOf, .int isKept, .int imageMany, .ref a_imageLine, .int bodies, .ref a_bodyKind, .ref a_trace, .int ran, .int ownKind, .int ownNumber, .ref a_shelf, .ref a_many, .ref a_items, .ref a_carried])]
def f_M_isPerson (people : Int32) (x1 : Int32) : Int32 := (f_M_within (Int32.toInt64 x1) 0 (Int32.toInt64 (people - (1 : Int32))))
set_option maxRecDepth 100000 in
set_option maxHeartbeats 4000000 in
theorem c_M_isPerson (l : Launch) (G : zG) (a_this : Nat) (a_height : Nat) (a_changeAt : Nat) (a_changeWas : Nat) (a_changeIs : Nat) (a_tape : Nat) (a_text : Nat) (a_names : Nat) (a_line : Nat) (a_row : Nat) (a_pastMany : Nat) (a_past : Nat) (a_changed : Nat) (a_greatest : Nat) (a_numbersWere : Nat) (a_told : Nat) (a_waysOf : Nat) (a_waysWere : Nat) (a_blocks : Nat) (a_ordersOf : Nat) (a_imageLine : Nat) (a_bodyKind : Nat) (a_trace : Nat) (a_shelf : Nat) (a_many : Nat) (a_items : Nat) (a_carried : Nat) (people : Int32) (keptMany : Int32) (done : Int32) (tapeMany : Int32) (textMany : Int32) (base : Int32) (at_ : Int32) (ends : Int32) (fault : Int32) (opened : Int32) (lineMany : Int32) (rowMany : Int32) (taller : Int32) (tallerBy : Int32) (pasts : Int32) (isKept : Int32) (imageMany : Int32) (bodies : Int32) (ran : Int32) (ownKind : Int32) (ownNumber : Int32) (x1 : Int32) (r_ : Int32) (hf : f_M_isPerson people x1 = r_) : zM l yX12_isPerson cX12_isPerson 2 (some .boolean) 1 25 G [.ref a_this, .int x1] (w_M_isPerson G a_this a_height a_changeAt a_changeWas a_changeIs a_tape a_text a_names a_line a_row a_pastMany a_past a_changed a_greatest a_numbersWere a_told a_waysOf a_waysWere a_blocks a_ordersOf a_imageLine a_bodyKind a_trace a_shelf a_many a_items a_carried people keptMany done tapeMany textMany base at_ ends fault opened lineMany rowMany taller tallerBy pasts isKept imageMany bodies ran ownKind ownNumber) (some (.int r_)) (w_M_isPerson G a_this a_height a_changeAt a_changeWas a_changeIs a_tape a_text a_names a_line a_row a_pastMany a_past a_changed a_greatest a_numbersWere a_told a_waysOf a_waysWere a_blocks a_ordersOf a_imageLine a_bodyKind a_trace a_shelf a_many a_items a_carried people keptMany done tapeMany textMany base at_ ends fault opened lineMany rowMany taller tallerBy pasts isKept imageMany bodies ran ownKind ownNumber) := by
  refine zM.of [(0, .ref a_this), (1, .int x1)] (own := RX12) rfl (by decide +kernel) (Nat.le_of_ble_eq_true rfl) rfl rfl fun X hX F => ?_
  subst hX
  replace hf := (f_M_isPerson.eq_1 ..).symm.trans hf
  refine z_iload_n F 1 dX12_isPerson_0 rfl rfl ?_
  refine z_i2l F dX12_isPerson_1 ?_
  refine z_lconst F (0) dX12_isPerson_2 rfl ?_
  refine z_aload_n F 0 dX12_isPerson_3 rfl rfl ?_
  refine z_get F 0 12 0 inlX12 rfl rfl (by decide) fl_X12_93 rfl dX12_isPerson_4 ?_
  refine z_iconst F (1) dX12_isPerson_7 rfl ?_
  refine z_isub F dX12_isPerson_8 ?_
  refine z_i2l F dX12_isPerson_9 ?_
  refine z_callSm (rest := []) F (c_M_within (xL X) G (Int32.toInt64 x1) 0 (Int32.toInt64 (people - (1 : Int32))) _ rfl) hy_X12_within ml_X12_96 hd_X12_within ⟨by omega, by omega⟩ rfl [] rfl rfl (w_M_isPerson G a_this a_height a_changeAt a_changeWas a_changeIs a_tape a_text a_names a_line a_row a_pastMany a_past a_changed a_greatest a_numbersWere a_told a_waysOf a_waysWere a_blocks a_ordersOf a_imageLine a_bodyKind a_trace a_shelf a_many a_items a_carried people keptMany done tapeMany textMany base at_ ends fault opened lineMany rowMany taller tallerBy pasts isKept imageMany bodies ran ownKind ownNumber) [none] rfl (by decide +kernel) rfl rfl (Nat.le_of_ble_eq_true rfl) dX12_isPerson_10 (fun hz_1 => ?_)
  subst hf
  exact z_iret F rfl (hz_1 _ _ rfl rfl) rfl rfl dX12_isPerson_13

abbrev w_M_isOthers (G : zG) (a_this : Nat) (a_height : Nat) (a_changeAt : Nat) (a_changeWas : Nat) (a_changeIs : Nat) (a_tape : Nat) (a_text : Nat) (a_names : Nat) (a_line : Nat) (a_row : Nat) (a_pastMany : Nat) (a_past : Nat) (a_changed : Nat) (a_greatest : Nat) (a_numbersWere : Nat) (a_told : Nat) (a_waysOf : Nat) (a_waysWere : Nat) (a_blocks : Nat) (a_ordersOf : Nat) (a_imageLine : Nat) (a_bodyKind : Nat) (a_trace : Nat) (a_shelf : Nat) (a_many : Nat) (a_items : Nat) (a_carried : Nat) (people : Int32) (keptMany : Int32) (done : Int32) (tapeMany : Int32) (textMany : Int32) (base : Int32) (at_ : Int32) (ends : Int32) (fault : Int32) (opened : Int32) (lineMany : Int32) (rowMany : Int32) (taller : Int32) (tallerBy : Int32) (pasts : Int32) (isKept : Int32) (imageMany : Int32) (bodies : Int32) (ran : Int32) (ownKind : Int32) (ownNumber : Int32) (height : Nat → Int32) : va_W := [(a_this, cO 12 [.int people, .ref a_height, .ref a_changeAt, .ref a_changeWas, .ref a_changeIs, .int keptMany, .int done, .ref a_tape, .int tapeMany, .ref a_text, .int textMany, .int base, .int at_, .int ends, .int fault, .int opened, .ref a_names, .ref a_line, .int lineMany, .ref a_row, .int rowMany, .int taller, .int tallerBy, .ref a_pastMany, .ref a_past, .int pasts, .ref a_changed, .ref a_greatest, .ref a_numbersWere, .ref a_told, .ref a_waysOf, .ref a_waysWere, .ref a_blocks, .ref a_ordersOf, .int isKept, .int imageMany, .ref a_imageLine, .int bodies, .ref a_bodyKind, .ref a_trace, .int ran, .int ownKind, .int ownNumber, .ref a_shelf, .ref a_many, .ref a_items, .ref a_carried]), (a_height, cI G 9 height)]
def f_M_isOthers_L3 (people : Int32) (height : Nat → Int32) (v1 : Int32) (v2 : Int64) : Nat → Int32 → Option (((Unit) ⊕ (Int32)))
  | 0, _ => none
  | fuel + 1, v4 => (if people ≤ v4 then (some (.inl ())) else (if v4 = v1 then (f_M_isOthers_L3 people height v1 v2 fuel (v4 + 1)) else (zg height 9 v4 fun v_1 => (if (lg_cmp (Int32.toInt64 v_1) v2) = 0 then (some (.inr 1)) else (f_M_isOthers_L3 people height v1 v2 fuel (v4 + 1))))))
def f_M_isOthers (people : Int32) (height : Nat → Int32) (x1 : Int32) (x2 : Int64) : Option Int32 := (zbs0 (f_M_isOthers_L3 people height x1 x2 FU 0) ((some 0)) some)
set_option maxRecDepth 100000 in
set_option maxHeartbeats 4000000 in
theorem l_M_isOthers_3 {X : zX} (G : zG) (a_this : Nat) (a_height : Nat) (a_changeAt : Nat) (a_changeWas : Nat) (a_changeIs : Nat) (a_tape : Nat) (a_text : Nat) (a_names : Nat) (a_line : Nat) (a_row : Nat) (a_pastMany : Nat) (a_past : Nat) (a_changed : Nat) (a_greatest : Nat) (a_numbersWere : Nat) (a_told : Nat) (a_waysOf : Nat) (a_waysWere : Nat) (a_blocks : Nat) (a_ordersOf : Nat) (a_imageLine : Nat) (a_bodyKind : Nat) (a_trace : Nat) (a_shelf : Nat) (a_many : Nat) (a_items : Nat) (a_carried : Nat) (people : Int32) (keptMany : Int32) (done : Int32) (tapeMany : Int32) (textMany : Int32) (base : Int32) (at_ : Int32) (ends : Int32) (fault : Int32) (opened : Int32) (lineMany : Int32) (rowMany : Int32) (taller : Int32) (tallerBy : Int32) (pasts : Int32) (isKept : Int32) (imageMany : Int32) (bodies : Int32) (ran : Int32) (ownKind : Int32) (ownNumber : Int32) (height : Nat → Int32) (v1 : Int32) (v2 : Int64) {v0 : Option Value} {w0 : va_W} (F : zF X G cX12_isOthers RX12 5 (some .boolean) 0 0 v0 w0) (out : ((Unit) ⊕ (Int32))) (hk : out = .inl () → Z X G 5 (w_M_isOthers G a_this a_height a_changeAt a_changeWas a_changeIs a_tape a_text a_names a_line a_row a_pastMany a_past a_changed a_greatest a_numbersWere a_told a_waysOf a_waysWere a_blocks a_ordersOf a_imageLine a_bodyKind a_trace a_shelf a_many a_items a_carried people keptMany done tapeMany textMany base at_ ends fault opened lineMany rowMany taller tallerBy pasts isKept imageMany bodies ran ownKind ownNumber height) [] 39 []) (hr : ∀ q : Int32, out = .inr q → v0 = some (.int q) ∧ w0 = (w_M_isOthers G a_this a_height a_changeAt a_changeWas a_changeIs a_tape a_text a_names a_line a_row a_pastMany a_past a_changed a_greatest a_numbersWere a_told a_waysOf a_waysWere a_blocks a_ordersOf a_imageLine a_bodyKind a_trace a_shelf a_many a_items a_carried people keptMany done tapeMany textMany base at_ ends fault opened lineMany rowMany taller tallerBy pasts isKept imageMany bodies ran ownKind ownNumber height)) :
    ∀ (fuel : Nat) (v4 : Int32), f_M_isOthers_L3 people height v1 v2 fuel v4 = some out → Z X G 5 (w_M_isOthers G a_this a_height a_changeAt a_changeWas a_changeIs a_tape a_text a_names a_line a_row a_pastMany a_past a_changed a_greatest a_numbersWere a_told a_waysOf a_waysWere a_blocks a_ordersOf a_imageLine a_bodyKind a_trace a_shelf a_many a_items a_carried people keptMany done tapeMany textMany base at_ ends fault opened lineMany rowMany taller tallerBy pasts isKept imageMany bodies ran ownKind ownNumber height) [(0, .ref a_this), (1, .int v1), (2, .long v2), (4, .int v4)] 3 [] := by
  intro fuel
  induction fuel with
  | zero => intro v4 hf; exact absurd ((f_M_isOthers_L3.eq_1 ..).symm.trans hf) (fun h => by cases h)
  | succ fuel ih =>
    intro v4 hf
    replace hf := (f_M_isOthers_L3.eq_2 ..).symm.trans hf
    refine z_iload F 3 dX12_isOthers_3 rfl ?_
    refine z_aload_n F 0 dX12_isOthers_5 rfl rfl ?_
    refine z_get F 0 12 0 inlX12 rfl rfl (by decide) fl_X12_93 rfl dX12_isOthers_6 ?_
    refine z_icmp_ge F 39 dX12_isOthers_9 (by decide) hf (fun hf _ => ?_) (fun hf _ => ?_)
    · exact z_sub [] rfl (hk  (Option.some.inj hf).symm)
    · refine z_iload F 3 dX12_isOthers_12 rfl ?_
      refine z_iload_n F 1 dX12_isOthers_14 rfl rfl ?_
      refine z_icmp_eq F 33 dX12_isOthers_15 (by decide) hf (fun hf _ => ?_) (fun hf _ => ?_)
      · refine z_iinc F [(4, .int (v4 + 1)), (0, .ref a_this), (1, .int v1), (2, .long v2)] dX12_isOthers_33 3 rfl rfl (by decide) rfl ?_
        refine z_goto F 3 dX12_isOthers_36 (by decide) ?_
        exact z_sub [1, 2, 3, 0] rfl (ih (v4 + 1) hf)
      · refine z_aload_n F 0 dX12_isOthers_18 rfl rfl ?_
        refine z_get F 0 12 1 inlX12 rfl rfl (by decide) fl_X12_9 rfl dX12_isOthers_19 ?_
        refine z_iload F 3 dX12_isOthers_22 rfl ?_
        refine z_iald F 1 rfl hf dX12_isOthers_24 (fun v_1 hf => ?_)
        refine z_i2l F dX12_isOthers_25 ?_
        refine z_lload_n F 2 dX12_isOthers_26 rfl rfl ?_
        refine z_lcmp F dX12_isOthers_27 ?_
        refine z_if_ne F 33 dX12_isOthers_28 (by decide) hf (fun hf _ => ?_) (fun hf _ => ?_)
        · refine z_iinc F [(4, .int (v4 + 1)), (0, .ref a_this), (1, .int v1), (2, .long v2)] dX12_isOthers_33 3 rfl rfl (by decide) rfl ?_
          refine z_goto F 3 dX12_isOthers_36 (by decide) ?_
          exact z_sub [1, 2, 3, 0] rfl (ih (v4 + 1) hf)
        · refine z_iconst F (1) dX12_isOthers_31 rfl ?_
          obtain ⟨e1, e2⟩ := hr _ (Option.some.inj hf).symm
          exact z_iret F rfl rfl e1.symm e2.symm dX12_isOthers_32

set_option maxRecDepth 100000 in
set_option maxHeartbeats 4000000 in
theorem c_M_isOthers (l : Launch) (G : zG) (a_this : Nat) (a_height : Nat) (a_changeAt : Nat) (a_changeWas : Nat) (a_changeIs : Nat) (a_tape : Nat) (a_text : Nat) (a_names : Nat) (a_line : Nat) (a_row : Nat) (a_pastMany : Nat) (a_past : Nat) (a_changed : Nat) (a_greatest : Nat) (a_numbersWere : Nat) (a_told : Nat) (a_waysOf : Nat) (a_waysWere : Nat) (a_blocks : Nat) (a_ordersOf : Nat) (a_imageLine : Nat) (a_bodyKind : Nat) (a_trace : Nat) (a_shelf : Nat) (a_many : Nat) (a_items : Nat) (a_carried : Nat) (people : Int32) (keptMany : Int32) (done : Int32) (tapeMany : Int32) (textMany : Int32) (base : Int32) (at_ : Int32) (ends : Int32) (fault : Int32) (opened : Int32) (lineMany : Int32) (rowMany : Int32) (taller : Int32) (tallerBy : Int32) (pasts : Int32) (isKept : Int32) (imageMany : Int32) (bodies : Int32) (ran : Int32) (ownKind : Int32) (ownNumber : Int32) (height : Nat → Int32) (x1 : Int32) (x2 : Int64) (r_ : Int32) (hf : f_M_isOthers people height x1 x2 = some r_) : zM l yX12_isOthers cX12_isOthers 5 (some .boolean) 0 0 G [.ref a_this, .int x1, .long x2] (w_M_isOthers G a_this a_height a_changeAt a_changeWas a_changeIs a_tape a_text a_names a_line a_row a_pastMany a_past a_changed a_greatest a_numbersWere a_told a_waysOf a_waysWere a_blocks a_ordersOf a_imageLine a_bodyKind a_trace a_shelf a_many a_items a_carried people keptMany done tapeMany textMany base at_ ends fault opened lineMany rowMany taller tallerBy pasts isKept imageMany bodies ran ownKind ownNumber height) (some (.int r_)) (w_M_isOthers G a_this a_height a_changeAt a_changeWas a_changeIs a_tape a_text a_names a_line a_row a_pastMany a_past a_changed a_greatest a_numbersWere a_told a_waysOf a_waysWere a_blocks a_ordersOf a_imageLine a_bodyKind a_trace a_shelf a_many a_items a_carried people keptMany done tapeMany textMany base at_ ends fault opened lineMany rowMany taller tallerBy pasts isKept imageMany bodies ran ownKind ownNumber height) := by
  refine zM.of [(0, .ref a_this), (1, .int x1), (2, .long x2)] (own := RX12) rfl (by decide +kernel) (Nat.le_of_ble_eq_true rfl) rfl rfl fun X hX F => ?_
  subst hX
  replace hf := (f_M_isOthers.eq_1 ..).symm.trans hf
  refine z_iconst F (0) dX12_isOthers_0 rfl ?_
  refine z_istore F [(4, .int 0), (0, .ref a_this), (1, .int x1), (2, .long x2)] dX12_isOthers_1 (by decide) rfl ?_
  obtain ⟨z_2, hg, hf1_3, hf2_4⟩ := zbs0_some hf
  refine z_sub [1, 2, 3, 0] rfl ?_
  refine l_M_isOthers_3 G a_this a_height a_changeAt a_changeWas a_changeIs a_tape a_text a_names a_line a_row a_pastMany a_past a_changed a_greatest a_numbersWere a_told a_waysOf a_waysWere a_blocks a_ordersOf a_imageLine a_bodyKind a_trace a_shelf a_many a_items a_carried people keptMany done tapeMany textMany base at_ ends fault opened lineMany rowMany taller tallerBy pasts isKept imageMany bodies ran ownKind ownNumber height x1 x2 F z_2 (fun e => ?_) (fun q e => ?_) FU 0 hg
  · have hf := hf1_3 e
    refine z_iconst F (0) dX12_isOthers_39 rfl ?_
    have ee1 := Option.some.inj hf
    subst ee1
    exact z_iret F rfl rfl rfl rfl dX12_isOthers_40
  · have hf := hf2_4 _ e
    cases hf
    exact ⟨rfl, rfl⟩

abbrev w_M_adds (G : zG) (a_this : Nat) (a_height : Nat) (a_changeAt : Nat) (a_changeWas : Nat) (a_changeIs : Nat) (a_tape : Nat) (a_text : Nat) (a_names : Nat) (a_line : Nat) (a_row : Nat) (a_pastMany : Nat) (a_past : Nat) (a_changed : Nat) (a_greatest : Nat) (a_numbersWere : Nat) (a_told : Nat) (a_waysOf : Nat) (a_waysWere : Nat) (a_blocks : Nat) (a_ordersOf : Nat) (a_imageLine : Nat) (a_bodyKind : Nat) (a_trace : Nat) (a_shelf : Nat) (a_many : Nat) (a_items : Nat) (a_carried : Nat) (people : Int32) (keptMany : Int32) (done : Int32) (tapeMany : Int32) (textMany : Int32) (base : Int32) (at_ : Int32) (ends : Int32) (fault : Int32) (opened : Int32) (lineMany : Int32) (rowMany : Int32) (taller : Int32) (tallerBy : Int32) (pasts : Int32) (isKept : Int32) (imageMany : Int32) (bodies : Int32) (ran : Int32) (ownKind : Int32) (ownNumber : Int32) (height : Nat → Int32) (line : Nat → Int32) : va_W := [(a_this, cO 12 [.int people, .ref a_height, .ref a_changeAt, .ref a_changeWas, .ref a_changeIs, .int keptMany, .int done, .ref a_tape, .int tapeMany, .ref a_text, .int textMany, .int base, .int at_, .int ends, .int fault, .int opened, .ref a_names, .ref a_line, .int lineMany, .ref a_row, .int rowMany, .int taller, .int tallerBy, .ref a_pastMany, .ref a_past, .int pasts, .ref a_changed, .ref a_greatest, .ref a_numbersWere, .ref a_told, .ref a_waysOf, .ref a_waysWere, .ref a_blocks, .ref a_ordersOf, .int isKept, .int imageMany, .ref a_imageLine, .int bodies, .ref a_bodyKind, .ref a_trace, .int ran, .int ownKind, .int ownNumber, .ref a_shelf, .ref a_many, .ref a_items, .ref a_carried]), (a_height, cI G 9 height), (a_line, cI G 9 line)]
def f_M_adds (people : Int32) (lineMany : Int32) (height : Nat → Int32) (line : Nat → Int32) (x1 : Int32) : Option (Int32 × Int32 × (Nat → Int32) × (Nat → Int32)) := (zs height 9 people x1 fun height_1 => (zs line 9 lineMany people fun line_2 => (some ((people + (1 : Int32)), (lineMany + (1 : Int32)), height_1, line_2))))
set_option maxRecDepth 100000 in
set_option maxHeartbeats 4000000 in
theorem c_M_adds (l : Launch) (G : zG) (a_this : Nat) (a_height : Nat) (a_changeAt : Nat) (a_changeWas : Nat) (a_changeIs : Nat) (a_tape : Nat) (a_text : Nat) (a_names : Nat) (a_line : Nat) (a_row : Nat) (a_pastMany : Nat) (a_past : Nat) (a_changed : Nat) (a_greatest : Nat) (a_numbersWere : Nat) (a_told : Nat) (a_waysOf : Nat) (a_waysWere : Nat) (a_blocks : Nat) (a_ordersOf : Nat) (a_imageLine : Nat) (a_bodyKind : Nat) (a_trace : Nat) (a_shelf : Nat) (a_many : Nat) (a_items : Nat) (a_carried : Nat) (people : Int32) (keptMany : Int32) (done : Int32) (tapeMany : Int32) (textMany : Int32) (base : Int32) (at_ : Int32) (ends : Int32) (fault : Int32) (opened : Int32) (lineMany : Int32) (rowMany : Int32) (taller : Int32) (tallerBy : Int32) (pasts : Int32) (isKept : Int32) (imageMany : Int32) (bodies : Int32) (ran : Int32) (ownKind : Int32) (ownNumber : Int32) (height : Nat → Int32) (line : Nat → Int32) (x1 : Int32) (o_people : Int32) (o_lineMany : Int32) (o_height : Nat → Int32) (o_line : Nat → Int32) (hf : f_M_adds people lineMany height line x1 = some (o_people, o_lineMany, o_height, o_line)) : zM l yX12_adds cX12_adds 2 none 0 0 G [.ref a_this, .int x1] (w_M_adds G a_this a_height a_changeAt a_changeWas a_changeIs a_tape a_text a_names a_line a_row a_pastMany a_past a_changed a_greatest a_numbersWere a_told a_waysOf a_waysWere a_blocks a_ordersOf a_imageLine a_bodyKind a_trace a_shelf a_many a_items a_carried people keptMany done tapeMany textMany base at_ ends fault opened lineMany rowMany taller tallerBy pasts isKept imageMany bodies ran ownKind ownNumber height line) (none) (w_M_adds G a_this a_height a_changeAt a_changeWas a_changeIs a_tape a_text a_names a_line a_row a_pastMany a_past a_changed a_greatest a_numbersWere a_told a_waysOf a_waysWere a_blocks a_ordersOf a_imageLine a_bodyKind a_trace a_shelf a_many a_items a_carried o_people keptMany done tapeMany textMany base at_ ends fault opened o_lineMany rowMany taller tallerBy pasts isKept imageMany bodies ran ownKind ownNumber o_height o_line) := by
  refine zM.of [(0, .ref a_this), (1, .int x1)] (own := RX12) rfl (by decide +kernel) (Nat.le_of_ble_eq_true rfl) rfl rfl fun X hX F => ?_
  subst hX
  replace hf := (f_M_adds.eq_1 ..).symm.trans hf
  refine z_aload_n F 0 dX12_adds_0 rfl rfl ?_
  refine z_get F 0 12 1 inlX12 rfl rfl (by decide) fl_X12_9 rfl dX12_adds_1 ?_
  refine z_aload_n F 0 dX12_adds_4 rfl rfl ?_
  refine z_get F 0 12 0 inlX12 rfl rfl (by decide) fl_X12_93 rfl dX12_adds_5 ?_
  refine z_iload_n F 1 dX12_adds_8 rfl rfl ?_
  refine z_iast F 1 (fun height_1 => (w_M_adds G a_this a_height a_changeAt a_changeWas a_changeIs a_tape a_text a_names a_line a_row a_pastMany a_past a_changed a_greatest a_numbersWere a_told a_waysOf a_waysWere a_blocks a_ordersOf a_imageLine a_bodyKind a_trace a_shelf a_many a_items a_carried people keptMany done tapeMany textMany base at_ ends fault opened lineMany rowMany taller tallerBy pasts isKept imageMany bodies ran ownKind ownNumber height_1 line)) rfl hf (fun _ => rfl) dX12_adds_9 (fun height_1 hf => ?_)
  refine z_aload_n F 0 dX12_adds_10 rfl rfl ?_
  refine z_get F 0 12 17 inlX12 rfl rfl (by decide) fl_X12_31 rfl dX12_adds_11 ?_
  refine z_aload_n F 0 dX12_adds_14 rfl rfl ?_
  refine z_get F 0 12 18 inlX12 rfl rfl (by decide) fl_X12_100 rfl dX12_adds_15 ?_
  refine z_aload_n F 0 dX12_adds_18 rfl rfl ?_
  refine z_get F 0 12 0 inlX12 rfl rfl (by decide) fl_X12_93 rfl dX12_adds_19 ?_
  refine z_iast F 2 (fun line_2 => (w_M_adds G a_this a_height a_changeAt a_changeWas a_changeIs a_tape a_text a_names a_line a_row a_pastMany a_past a_changed a_greatest a_numbersWere a_told a_waysOf a_waysWere a_blocks a_ordersOf a_imageLine a_bodyKind a_trace a_shelf a_many a_items a_carried people keptMany done tapeMany textMany base at_ ends fault opened lineMany rowMany taller tallerBy pasts isKept imageMany bodies ran ownKind ownNumber height_1 line_2)) rfl hf (fun _ => rfl) dX12_adds_22 (fun line_2 hf => ?_)
  refine z_aload_n F 0 dX12_adds_23 rfl rfl ?_
  refine z_dup F rfl dX12_adds_24 ?_
  refine z_get F 0 12 18 inlX12 rfl rfl (by decide) fl_X12_100 rfl dX12_adds_25 ?_
  refine z_iconst F (1) dX12_adds_28 rfl ?_
  refine z_iadd F dX12_adds_29 ?_
  refine z_put F 0 12 18 (w_M_adds G a_this a_height a_changeAt a_changeWas a_changeIs a_tape a_text a_names a_line a_row a_pastMany a_past a_changed a_greatest a_numbersWere a_told a_waysOf a_waysWere a_blocks a_ordersOf a_imageLine a_bodyKind a_trace a_shelf a_many a_items a_carried people keptMany done tapeMany textMany base at_ ends fault opened (lineMany + (1 : Int32)) rowMany taller tallerBy pasts isKept imageMany bodies ran ownKind ownNumber height_1 line_2) inlX12 tyX12 tyX12_ok nmX12 rfl rfl (by decide) fl_X12_100 rfl rfl rfl (Nat.le_of_ble_eq_true rfl) rfl dX12_adds_30 ?_
  refine z_aload_n F 0 dX12_adds_33 rfl rfl ?_
  refine z_dup F rfl dX12_adds_34 ?_
  refine z_get F 0 12 0 inlX12 rfl rfl (by decide) fl_X12_93 rfl dX12_adds_35 ?_
  refine z_iconst F (1) dX12_adds_38 rfl ?_
  refine z_iadd F dX12_adds_39 ?_
  refine z_put F 0 12 0 (w_M_adds G a_this a_height a_changeAt a_changeWas a_changeIs a_tape a_text a_names a_line a_row a_pastMany a_past a_changed a_greatest a_numbersWere a_told a_waysOf a_waysWere a_blocks a_ordersOf a_imageLine a_bodyKind a_trace a_shelf a_many a_items a_carried (people + (1 : Int32)) keptMany done tapeMany textMany base at_ ends fault opened (lineMany + (1 : Int32)) rowMany taller tallerBy pasts isKept imageMany bodies ran ownKind ownNumber height_1 line_2) inlX12 tyX12 tyX12_ok nmX12 rfl rfl (by decide) fl_X12_93 rfl rfl rfl (Nat.le_of_ble_eq_true rfl) rfl dX12_adds_40 ?_
  have eq1 := Option.some.inj hf
  obtain ⟨ee1, eq2⟩ := Prod.mk.inj eq1
  obtain ⟨ee2, eq3⟩ := Prod.mk.inj eq2
  obtain ⟨ee3, ee4⟩ := Prod.mk.inj eq3
  subst ee1
  subst ee2
  subst ee3
  subst ee4
  exact z_vret F rfl rfl rfl dX12_adds_43

abbrev w_M_person (G : zG) (a_this : Nat) (a_height : Nat) (a_changeAt : Nat) (a_changeWas : Nat) (a_changeIs : Nat) (a_tape : Nat) (a_text : Nat) (a_names : Nat) (a_line : Nat) (a_row : Nat) (a_pastMany : Nat) (a_past : Nat) (a_changed : Nat) (a_greatest : Nat) (a_numbersWere : Nat) (a_told : Nat) (a_waysOf : Nat) (a_waysWere : Nat) (a_blocks : Nat) (a_ordersOf : Nat) (a_imageLine : Nat) (a_bodyKind : Nat) (a_trace : Nat) (a_shelf : Nat) (a_many : Nat) (a_items : Nat) (a_carried : Nat) (people : Int32) (keptMany : Int32) (done : Int32) (tapeMany : Int32) (textMany : Int32) (base : Int32) (at_ : Int32) (ends : Int32) (fault : Int32) (opened : Int32) (lineMany : Int32) (rowMany : Int32) (taller : Int32) (tallerBy : Int32) (pasts : Int32) (isKept : Int32) (imageMany : Int32) (bodies : Int32) (ran : Int32) (ownKind : Int32) (ownNumber : Int32) (height : Nat → Int32) (line : Nat → Int32) : va_W := [(a_this, cO 12 [.int people, .ref a_height, .ref a_changeAt, .ref a_changeWas, .ref a_changeIs, .int keptMany, .int done, .ref a_tape, .int tapeMany, .ref a_text, .int textMany, .int base, .int at_, .int ends, .int fault, .int opened, .ref a_names, .ref a_line, .int lineMany, .ref a_row, .int rowMany, .int taller, .int tallerBy, .ref a_pastMany, .ref a_past, .int pasts, .ref a_changed, .ref a_greatest, .ref a_numbersWere, .ref a_told, .ref a_waysOf, .ref a_waysWere, .ref a_blocks, .ref a_ordersOf, .int isKept, .int imageMany, .ref a_imageLine, .int bodies, .ref a_bodyKind, .ref a_trace, .int ran, .int ownKind, .int ownNumber, .ref a_shelf, .ref a_many, .ref a_items, .ref a_carried]), (a_height, cI G 9 height), (a_line, cI G 9 line)]
def f_M_person (people : Int32) (lineMany : Int32) (height : Nat → Int32) (line : Nat → Int32) (x1 : Int32) : Option (Int32 × Int32 × Int32 × (Nat → Int32) × (Nat → Int32)) := (if (f_M_within (Int32.toInt64 x1) 1 99) = 0 then (some ((-1), people, lineMany, height, line)) else (zb1 (f_M_isOthers people height ((-1) : Int32) (Int32.toInt64 x1)) fun r_2 => (if r_2 = 0 then (if people = 9 then (some ((-3), people, lineMany, height, line)) else (zb4 (f_M_adds people lineMany height line x1) fun people_4 lineMany_5 height_6 line_7 => (some ((people_4 - (1 : Int32)), people_4, lineMany_5, height_6, line_7)))) else (some ((-1), people, lineMany, height, line)))))
set_option maxRecDepth 100000 in
set_option maxHeartbeats 4000000 in
theorem c_M_person (l : Launch) (G : zG) (a_this : Nat) (a_height : Nat) (a_changeAt : Nat) (a_changeWas : Nat) (a_changeIs : Nat) (a_tape : Nat) (a_text : Nat) (a_names : Nat) (a_line : Nat) (a_row : Nat) (a_pastMany : Nat) (a_past : Nat) (a_changed : Nat) (a_greatest : Nat) (a_numbersWere : Nat) (a_told : Nat) (a_waysOf : Nat) (a_waysWere : Nat) (a_blocks : Nat) (a_ordersOf : Nat) (a_imageLine : Nat) (a_bodyKind : Nat) (a_trace : Nat) (a_shelf : Nat) (a_many : Nat) (a_items : Nat) (a_carried : Nat) (people : Int32) (keptMany : Int32) (done : Int32) (tapeMany : Int32) (textMany : Int32) (base : Int32) (at_ : Int32) (ends : Int32) (fault : Int32) (opened : Int32) (lineMany : Int32) (rowMany : Int32) (taller : Int32) (tallerBy : Int32) (pasts : Int32) (isKept : Int32) (imageMany : Int32) (bodies : Int32) (ran : Int32) (ownKind : Int32) (ownNumber : Int32) (height : Nat → Int32) (line : Nat → Int32) (x1 : Int32) (r_ : Int32) (o_people : Int32) (o_lineMany : Int32) (o_height : Nat → Int32) (o_line : Nat → Int32) (hf : f_M_person people lineMany height line x1 = some (r_, o_people, o_lineMany, o_height, o_line)) : zM l yX12_person cX12_person 2 (some .int) 1 25 G [.ref a_this, .int x1] (w_M_person G a_this a_height a_changeAt a_changeWas a_changeIs a_tape a_text a_names a_line a_row a_pastMany a_past a_changed a_greatest a_numbersWere a_told a_waysOf a_waysWere a_blocks a_ordersOf a_imageLine a_bodyKind a_trace a_shelf a_many a_items a_carried people keptMany done tapeMany textMany base at_ ends fault opened lineMany rowMany taller tallerBy pasts isKept imageMany bodies ran ownKind ownNumber height line) (some (.int r_)) (w_M_person G a_this a_height a_changeAt a_changeWas a_changeIs a_tape a_text a_names a_line a_row a_pastMany a_past a_changed a_greatest a_numbersWere a_told a_waysOf a_waysWere a_blocks a_ordersOf a_imageLine a_bodyKind a_trace a_shelf a_many a_items a_carried o_people keptMany done tapeMany textMany base at_ ends fault opened o_lineMany rowMany taller tallerBy pasts isKept imageMany bodies ran ownKind ownNumber o_height o_line) := by
  refine zM.of [(0, .ref a_this), (1, .int x1)] (own := RX12) rfl (by decide +kernel) (Nat.le_of_ble_eq_true rfl) rfl rfl fun X hX F => ?_
  subst hX
  replace hf := (f_M_person.eq_1 ..).symm.trans hf
  refine z_iload_n F 1 dX12_person_0 rfl rfl ?_
  refine z_i2l F dX12_person_1 ?_
  refine z_lconst F (1) dX12_person_2 rfl ?_
  refine z_ldc2 F (99) (uw10 _ (List.mem_of_getElem? (i := 7) rfl)) dX12_person_3 ?_
  refine z_callSm (rest := []) F (c_M_within (xL X) G (Int32.toInt64 x1) 1 99 _ rfl) hy_X12_within ml_X12_96 hd_X12_within ⟨by omega, by omega⟩ rfl [] rfl rfl (w_M_person G a_this a_height a_changeAt a_changeWas a_changeIs a_tape a_text a_names a_line a_row a_pastMany a_past a_changed a_greatest a_numbersWere a_told a_waysOf a_waysWere a_blocks a_ordersOf a_imageLine a_bodyKind a_trace a_shelf a_many a_items a_carried people keptMany done tapeMany textMany base at_ ends fault opened lineMany rowMany taller tallerBy pasts isKept imageMany bodies ran ownKind ownNumber height line) [none, none, none] rfl (by decide +kernel) rfl rfl (Nat.le_of_ble_eq_true rfl) dX12_person_6 (fun hz_1 => ?_)
  refine z_if_eq F 22 dX12_person_9 (by decide) hf (fun hf _ => ?_) (fun hf _ => ?_)
  · refine z_iconst F (-1) dX12_person_22 rfl ?_
    have eq1 := Option.some.inj hf
    obtain ⟨ee1, eq2⟩ := Prod.mk.inj eq1
    obtain ⟨ee2, eq3⟩ := Prod.mk.inj eq2
    obtain ⟨ee3, eq4⟩ := Prod.mk.inj eq3
    obtain ⟨ee4, ee5⟩ := Prod.mk.inj eq4
    subst ee1
    subst ee2
    subst ee3
    subst ee4
    subst ee5
    exact z_iret F rfl rfl rfl rfl dX12_person_23
  · refine z_aload_n F 0 dX12_person_12 rfl rfl ?_
    refine z_iconst F (-1) dX12_person_13 rfl ?_
    refine z_iload_n F 1 dX12_person_14 rfl rfl ?_
    refine z_i2l F dX12_person_15 ?_
    obtain ⟨r_2, hg, hf⟩ := zb1_some hf
    refine z_callVm (rest := []) F 12 (c_M_isOthers (xL X) G a_this a_height a_changeAt a_changeWas a_changeIs a_tape a_text a_names a_line a_row a_pastMany a_past a_changed a_greatest a_numbersWere a_told a_waysOf a_waysWere a_blocks a_ordersOf a_imageLine a_bodyKind a_trace a_shelf a_many a_items a_carried people keptMany done tapeMany textMany base at_ ends fault opened lineMany rowMany taller tallerBy pasts isKept imageMany bodies ran ownKind ownNumber height (-1) (Int32.toInt64 x1) r_2 hg) hy_X12_isOthers ml_X12_105 hd_X12_isOthers ⟨by omega, by omega⟩ rfl [0, 1] rfl rfl 0 rfl rfl (w_M_person G a_this a_height a_changeAt a_changeWas a_changeIs a_tape a_text a_names a_line a_row a_pastMany a_past a_changed a_greatest a_numbersWere a_told a_waysOf a_waysWere a_blocks a_ordersOf a_imageLine a_bodyKind a_trace a_shelf a_many a_items a_carried people keptMany done tapeMany textMany base at_ ends fault opened lineMany rowMany taller tallerBy pasts isKept imageMany bodies ran ownKind ownNumber height line) [some 0, some 1, none] rfl (by decide +kernel) rfl rfl (Nat.le_of_ble_eq_true rfl) dX12_person_16 (fun hz_3 => ?_)
    refine z_if_eq F 24 dX12_person_19 (by decide) hf (fun hf _ => ?_) (fun hf _ => ?_)
    · refine z_aload_n F 0 dX12_person_24 rfl rfl ?_
      refine z_get F 0 12 0 inlX12 rfl rfl (by decide) fl_X12_93 rfl dX12_person_25 ?_
      refine z_bipush F (9) dX12_person_28 rfl ?_
      refine z_icmp_ne F 36 dX12_person_30 (by decide) hf (fun hf _ => ?_) (fun hf _ => ?_)
      · refine z_aload_n F 0 dX12_person_36 rfl rfl ?_
        refine z_iload_n F 1 dX12_person_37 rfl rfl ?_
        obtain ⟨people_4, lineMany_5, height_6, line_7, hg, hf⟩ := zb4_some hf
        refine z_callVm (rest := []) F 12 (c_M_adds (xL X) G a_this a_height a_changeAt a_changeWas a_changeIs a_tape a_text a_names a_line a_row a_pastMany a_past a_changed a_greatest a_numbersWere a_told a_waysOf a_waysWere a_blocks a_ordersOf a_imageLine a_bodyKind a_trace a_shelf a_many a_items a_carried people keptMany done tapeMany textMany base at_ ends fault opened lineMany rowMany taller tallerBy pasts isKept imageMany bodies ran ownKind ownNumber height line x1 people_4 lineMany_5 height_6 line_7 hg) hy_X12_adds ml_X12_109 hd_X12_adds ⟨by omega, by omega⟩ rfl [0, 1, 2] rfl rfl 0 rfl rfl (w_M_person G a_this a_height a_changeAt a_changeWas a_changeIs a_tape a_text a_names a_line a_row a_pastMany a_past a_changed a_greatest a_numbersWere a_told a_waysOf a_waysWere a_blocks a_ordersOf a_imageLine a_bodyKind a_trace a_shelf a_many a_items a_carried people_4 keptMany done tapeMany textMany base at_ ends fault opened lineMany_5 rowMany taller tallerBy pasts isKept imageMany bodies ran ownKind ownNumber height_6 line_7) [some 0, some 1, some 2] rfl (by decide +kernel) rfl rfl (Nat.le_of_ble_eq_true rfl) dX12_person_38 (fun hz_8 => ?_)
        refine z_aload_n F 0 dX12_person_41 rfl rfl ?_
        refine z_get F 0 12 0 inlX12 rfl rfl (by decide) fl_X12_93 rfl dX12_person_42 ?_
        refine z_iconst F (1) dX12_person_45 rfl ?_
        refine z_isub F dX12_person_46 ?_
        have eq1 := Option.some.inj hf
        obtain ⟨ee1, eq2⟩ := Prod.mk.inj eq1
        obtain ⟨ee2, eq3⟩ := Prod.mk.inj eq2
        obtain ⟨ee3, eq4⟩ := Prod.mk.inj eq3
        obtain ⟨ee4, ee5⟩ := Prod.mk.inj eq4
        subst ee1
        subst ee2
        subst ee3
        subst ee4
        subst ee5
        exact z_iret F rfl rfl rfl rfl dX12_person_47
      · refine z_bipush F (-3) dX12_person_33 rfl ?_
        have eq1 := Option.some.inj hf
        obtain ⟨ee1, eq2⟩ := Prod.mk.inj eq1
        obtain ⟨ee2, eq3⟩ := Prod.mk.inj eq2
        obtain ⟨ee3, eq4⟩ := Prod.mk.inj eq3
        obtain ⟨ee4, ee5⟩ := Prod.mk.inj eq4
        subst ee1
        subst ee2
        subst ee3
        subst ee4
        subst ee5
        exact z_iret F rfl rfl rfl rfl dX12_person_35
    · refine z_iconst F (-1) dX12_person_22 rfl ?_
      have eq1 := Option.some.inj hf
      obtain ⟨ee1, eq2⟩ := Prod.mk.inj eq1
      obtain ⟨ee2, eq3⟩ := Prod.mk.inj eq2
      obtain ⟨ee3, eq4⟩ := Prod.mk.inj eq3
      obtain ⟨ee4, ee5⟩ := Prod.mk.inj eq4
      subst ee1
      subst ee2
      subst ee3
      subst ee4
      subst ee5
      exact z_iret F rfl rfl rfl rfl dX12_person_23

abbrev w_M_isShelf (G : zG) : va_W := []
def f_M_isShelf (x0 : Int32) : Int32 := (f_M_within (Int32.toInt64 x0) 0 5)
set_option maxRecDepth 100000 in
set_option maxHeartbeats 4000000 in
theorem c_M_isShelf (l : Launch) (G : zG) (x0 : Int32) (r_ : Int32) (hf : f_M_isShelf x0 = r_) : zM l yX12_isShelf cX12_isShelf 1 (some .boolean) 1 25 G [.int x0] (w_M_isShelf G) (some (.int r_)) (w_M_isShelf G) := by
  refine zM.of [(0, .int x0)] (own := RX12) rfl (by decide +kernel) (Nat.le_of_ble_eq_true rfl) rfl rfl fun X hX F => ?_
  subst hX
  replace hf := (f_M_isShelf.eq_1 ..).symm.trans hf
  refine z_iload_n F 0 dX12_isShelf_0 rfl rfl ?_
  refine z_i2l F dX12_isShelf_1 ?_
  refine z_lconst F (0) dX12_isShelf_2 rfl ?_
  refine z_ldc2 F (5) (uw12 _ (List.mem_of_getElem? (i := 12) rfl)) dX12_isShelf_3 ?_
  refine z_callSm (rest := []) F (c_M_within (xL X) G (Int32.toInt64 x0) 0 5 _ rfl) hy_X12_within ml_X12_96 hd_X12_within ⟨by omega, by omega⟩ rfl [] rfl rfl (w_M_isShelf G) [] rfl (by decide +kernel) rfl rfl (Nat.le_of_ble_eq_true rfl) dX12_isShelf_6 (fun hz_1 => ?_)
  subst hf
  exact z_iret F rfl (hz_1 _ _ rfl rfl) rfl rfl dX12_isShelf_9

abbrev w_M_people (G : zG) (a_this : Nat) (a_height : Nat) (a_changeAt : Nat) (a_changeWas : Nat) (a_changeIs : Nat) (a_tape : Nat) (a_text : Nat) (a_names : Nat) (a_line : Nat) (a_row : Nat) (a_pastMany : Nat) (a_past : Nat) (a_changed : Nat) (a_greatest : Nat) (a_numbersWere : Nat) (a_told : Nat) (a_waysOf : Nat) (a_waysWere : Nat) (a_blocks : Nat) (a_ordersOf : Nat) (a_imageLine : Nat) (a_bodyKind : Nat) (a_trace : Nat) (a_shelf : Nat) (a_many : Nat) (a_items : Nat) (a_carried : Nat) (people : Int32) (keptMany : Int32) (done : Int32) (tapeMany : Int32) (textMany : Int32) (base : Int32) (at_ : Int32) (ends : Int32) (fault : Int32) (opened : Int32) (lineMany : Int32) (rowMany : Int32) (taller : Int32) (tallerBy : Int32) (pasts : Int32) (isKept : Int32) (imageMany : Int32) (bodies : Int32) (ran : Int32) (ownKind : Int32) (ownNumber : Int32) (height : Nat → Int32) (line : Nat → Int32) (shelf : Nat → Int32) (many : Nat → Int32) (items : Nat → Int64) : va_W := [(a_this, cO 12 [.int people, .ref a_height, .ref a_changeAt, .ref a_changeWas, .ref a_changeIs, .int keptMany, .int done, .ref a_tape, .int tapeMany, .ref a_text, .int textMany, .int base, .int at_, .int ends, .int fault, .int opened, .ref a_names, .ref a_line, .int lineMany, .ref a_row, .int rowMany, .int taller, .int tallerBy, .ref a_pastMany, .ref a_past, .int pasts, .ref a_changed, .ref a_greatest, .ref a_numbersWere, .ref a_told, .ref a_waysOf, .ref a_waysWere, .ref a_blocks, .ref a_ordersOf, .int isKept, .int imageMany, .ref a_imageLine, .int bodies, .ref a_bodyKind, .ref a_trace, .int ran, .int ownKind, .int ownNumber, .ref a_shelf, .ref a_many, .ref a_items, .ref a_carried]), (a_height, cI G 9 height), (a_line, cI G 9 line), (a_shelf, cI G 6 shelf), (a_many, cI G 6 many), (a_items, cJ G 360 items)]
def f_M_people_L69 (many : Nat → Int32) (items : Nat → Int64) (v1 : Int32) (v2 : Int32) (v3 : Int32) : Nat → Int32 → Int32 → (Nat → Int32) → (Nat → Int32) → Int32 → Int32 → Option (Int32 × Int32 × (Nat → Int32) × (Nat → Int32) × Int32)
  | 0, _, _, _, _, _, _ => none
  | fuel + 1, people, lineMany, height, line, v4, v5 => (if v5 = 0 then (some (people, lineMany, height, line, v4)) else (if v3 ≤ v4 then (some (people, lineMany, height, line, v4)) else (zg many 6 v1 fun v_5 => (if ((v_5 - (1 : Int32)) - v4) < v2 then (f_M_people_L69 many items v1 v2 v3 fuel people lineMany height line v4 0) else (if (9 : Int32) ≤ people then (f_M_people_L69 many items v1 v2 v3 fuel people lineMany height line v4 0) else (zg items 360 ((((60 : Int32) * v1) + v2) + v4) fun v_6 => (if (f_M_within v_6 1 99) = 0 then (f_M_people_L69 many items v1 v2 v3 fuel people lineMany height line v4 0) else (zg items 360 ((((60 : Int32) * v1) + v2) + v4) fun v_8 => (zb1 (f_M_isOthers people height ((-1) : Int32) v_8) fun r_9 => (if r_9 = 0 then (zg items 360 ((((60 : Int32) * v1) + v2) + v4) fun v_11 => (zb4 (f_M_adds people lineMany height line (Int64.toInt32 v_11)) fun people_12 lineMany_13 height_14 line_15 => (f_M_people_L69 many items v1 v2 v3 fuel people_12 lineMany_13 height_14 line_15 (v4 + 1) 1))) else (f_M_people_L69 many items v1 v2 v3 fuel people lineMany height line v4 0)))))))))))
def f_M_people (people : Int32) (lineMany : Int32) (height : Nat → Int32) (line : Nat → Int32) (shelf : Nat → Int32) (many : Nat → Int32) (items : Nat → Int64) (x1 : Int32) (x2 : Int32) (x3 : Int32) : Option (Int32 × Int32 × Int32 × (Nat → Int32) × (Nat → Int32)) := (if (f_M_isShelf x1) = 0 then (some ((-1), people, lineMany, height, line)) else (if (f_M_within (Int32.toInt64 x3) 1 9) = 0 then (some ((-1), people, lineMany, height, line)) else (zg shelf 6 x1 fun v_3 => (if v_3 < 0 then (zg shelf 6 x1 fun v_4 => (if v_4 = 50 then (if x2 < 0 then (zb5 (f_M_people_L69 many items x1 x2 x3 FU people lineMany height line 0 0) fun people_22 lineMany_23 height_24 line_25 v4_26 => (some (v4_26, people_22, lineMany_23, height_24, line_25))) else (zb5 (f_M_people_L69 many items x1 x2 x3 FU people lineMany height line 0 1) fun people_27 lineMany_28 height_29 line_30 v4_31 => (some (v4_31, people_27, lineMany_28, height_29, line_30)))) else (zb5 (f_M_people_L69 many items x1 x2 x3 FU people lineMany height line 0 0) fun people_17 lineMany_18 height_19 line_20 v4_21 => (some (v4_21, people_17, lineMany_18, height_19, line_20))))) else (zg shelf 6 x1 fun v_32 => (if v_32 = 50 then (zg shelf 6 x1 fun v_33 => (if v_33 = 50 then (if x2 < 0 then (zb5 (f_M_people_L69 many items x1 x2 x3 FU people lineMany height line 0 0) fun people_39 lineMany_40 height_41 line_42 v4_43 => (some (v4_43, people_39, lineMany_40, height_41, line_42))) else (zb5 (f_M_people_L69 many items x1 x2 x3 FU people lineMany height line 0 1) fun people_44 lineMany_45 height_46 line_47 v4_48 => (some (v4_48, people_44, lineMany_45, height_46, line_47)))) else (zb5 (f_M_people_L69 many items x1 x2 x3 FU people lineMany height line 0 0) fun people_34 lineMany_35 height_36 line_37 v4_38 => (some (v4_38, people_34, lineMany_35, height_36, line_37))))) else (some ((-12), people, lineMany, height, line))))))))
set_option maxRecDepth 100000 in
set_option maxHeartbeats 4000000 in
theorem l_M_people_69 {X : zX} (G : zG) (a_this : Nat) (a_height : Nat) (a_changeAt : Nat) (a_changeWas : Nat) (a_changeIs : Nat) (a_tape : Nat) (a_text : Nat) (a_names : Nat) (a_line : Nat) (a_row : Nat) (a_pastMany : Nat) (a_past : Nat) (a_changed : Nat) (a_greatest : Nat) (a_numbersWere : Nat) (a_told : Nat) (a_waysOf : Nat) (a_waysWere : Nat) (a_blocks : Nat) (a_ordersOf : Nat) (a_imageLine : Nat) (a_bodyKind : Nat) (a_trace : Nat) (a_shelf : Nat) (a_many : Nat) (a_items : Nat) (a_carried : Nat) (keptMany : Int32) (done : Int32) (tapeMany : Int32) (textMany : Int32) (base : Int32) (at_ : Int32) (ends : Int32) (fault : Int32) (opened : Int32) (rowMany : Int32) (taller : Int32) (tallerBy : Int32) (pasts : Int32) (isKept : Int32) (imageMany : Int32) (bodies : Int32) (ran : Int32) (ownKind : Int32) (ownNumber : Int32) (shelf : Nat → Int32) (many : Nat → Int32) (items : Nat → Int64) (v1 : Int32) (v2 : Int32) (v3 : Int32) {v0 : Option Value} {w0 : va_W} (F : zF X G cX12_people RX12 7 (some .int) 2 45 v0 w0) (e_people : Int32) (e_lineMany : Int32) (e_height : Nat → Int32) (e_line : Nat → Int32) (e_v4 : Int32) (hk : Z X G 7 (w_M_people G a_this a_height a_changeAt a_changeWas a_changeIs a_tape a_text a_names a_line a_row a_pastMany a_past a_changed a_greatest a_numbersWere a_told a_waysOf a_waysWere a_blocks a_ordersOf a_imageLine a_bodyKind a_trace a_shelf a_many a_items a_carried e_people keptMany done tapeMany textMany base at_ ends fault opened e_lineMany rowMany taller tallerBy pasts isKept imageMany bodies ran ownKind ownNumber e_height e_line shelf many items) [(4, .int e_v4)] 189 []) :
    ∀ (fuel : Nat) (people : Int32) (lineMany : Int32) (height : Nat → Int32) (line : Nat → Int32) (v4 : Int32) (v5 : Int32), f_M_people_L69 many items v1 v2 v3 fuel people lineMany height line v4 v5 = some (e_people, e_lineMany, e_height, e_line, e_v4) → Z X G 7 (w_M_people G a_this a_height a_changeAt a_changeWas a_changeIs a_tape a_text a_names a_line a_row a_pastMany a_past a_changed a_greatest a_numbersWere a_told a_waysOf a_waysWere a_blocks a_ordersOf a_imageLine a_bodyKind a_trace a_shelf a_many a_items a_carried people keptMany done tapeMany textMany base at_ ends fault opened lineMany rowMany taller tallerBy pasts isKept imageMany bodies ran ownKind ownNumber height line shelf many items) [(0, .ref a_this), (1, .int v1), (2, .int v2), (3, .int v3), (4, .int v4), (5, .int v5)] 69 [] := by
  intro fuel
  induction fuel with
  | zero => intro people lineMany height line v4 v5 hf; exact absurd ((f_M_people_L69.eq_1 ..).symm.trans hf) (fun h => by cases h)
  | succ fuel ih =>
    intro people lineMany height line v4 v5 hf
    replace hf := (f_M_people_L69.eq_2 ..).symm.trans hf
    refine z_iload F 5 dX12_people_69 rfl ?_
    refine z_if_eq F 189 dX12_people_71 (by decide) hf (fun hf _ => ?_) (fun hf _ => ?_)
    · have eq1 := Option.some.inj hf
      obtain ⟨ee1, eq2⟩ := Prod.mk.inj eq1
      obtain ⟨ee2, eq3⟩ := Prod.mk.inj eq2
      obtain ⟨ee3, eq4⟩ := Prod.mk.inj eq3
      obtain ⟨ee4, ee5⟩ := Prod.mk.inj eq4
      subst ee1
      subst ee2
      subst ee3
      subst ee4
      subst ee5
      exact z_sub [4] rfl hk
    · refine z_iload F 4 dX12_people_74 rfl ?_
      refine z_iload_n F 3 dX12_people_76 rfl rfl ?_
      refine z_icmp_ge F 189 dX12_people_77 (by decide) hf (fun hf _ => ?_) (fun hf _ => ?_)
      · have eq1 := Option.some.inj hf
        obtain ⟨ee1, eq2⟩ := Prod.mk.inj eq1
        obtain ⟨ee2, eq3⟩ := Prod.mk.inj eq2
        obtain ⟨ee3, eq4⟩ := Prod.mk.inj eq3
        obtain ⟨ee4, ee5⟩ := Prod.mk.inj eq4
        subst ee1
        subst ee2
        subst ee3
        subst ee4
        subst ee5
        exact z_sub [4] rfl hk
      · refine z_iload_n F 2 dX12_people_80 rfl rfl ?_
        refine z_aload_n F 0 dX12_people_81 rfl rfl ?_
        refine z_get F 0 12 44 inlX12 rfl rfl (by decide) fl_X12_79 rfl dX12_people_82 ?_
        refine z_iload_n F 1 dX12_people_85 rfl rfl ?_
        refine z_iald F 4 rfl hf dX12_people_86 (fun v_5 hf => ?_)
        refine z_iconst F (1) dX12_people_87 rfl ?_
        refine z_isub F dX12_people_88 ?_
        refine z_iload F 4 dX12_people_89 rfl ?_
        refine z_isub F dX12_people_91 ?_
        refine z_icmp_gt F 108 dX12_people_92 (by decide) hf (fun hf _ => ?_) (fun hf _ => ?_)
        · refine z_iconst F (0) dX12_people_108 rfl ?_
          refine z_istore F [(5, .int 0), (0, .ref a_this), (1, .int v1), (2, .int v2), (3, .int v3), (4, .int v4)] dX12_people_109 (by decide) rfl ?_
          refine z_bipush F (60) dX12_people_111 rfl ?_
          refine z_iload_n F 2 dX12_people_113 rfl rfl ?_
          refine z_imul F dX12_people_114 ?_
          refine z_iload_n F 3 dX12_people_115 rfl rfl ?_
          refine z_iadd F dX12_people_116 ?_
          refine z_iload F 5 dX12_people_117 rfl ?_
          refine z_iadd F dX12_people_119 ?_
          refine z_istore F [(6, .int ((((60 : Int32) * v1) + v2) + v4)), (5, .int 0), (0, .ref a_this), (1, .int v1), (2, .int v2), (3, .int v3), (4, .int v4)] dX12_people_120 (by decide) rfl ?_
          refine z_iload F 1 dX12_people_122 rfl ?_
          refine z_if_eq_t F 163 dX12_people_124 (by decide) (by decide) ?_
          refine z_iconst F (0) dX12_people_163 rfl ?_
          refine z_istore F [(5, .int 0), (6, .int ((((60 : Int32) * v1) + v2) + v4)), (0, .ref a_this), (1, .int v1), (2, .int v2), (3, .int v3), (4, .int v4)] dX12_people_164 (by decide) rfl ?_
          refine z_iload F 0 dX12_people_166 rfl ?_
          refine z_if_eq_t F 186 dX12_people_168 (by decide) (by decide) ?_
          refine z_goto F 69 dX12_people_186 (by decide) ?_
          exact z_sub [2, 3, 4, 5, 6, 0] rfl (ih people lineMany height line v4 0 hf)
        · refine z_aload_n F 0 dX12_people_95 rfl rfl ?_
          refine z_get F 0 12 0 inlX12 rfl rfl (by decide) fl_X12_93 rfl dX12_people_96 ?_
          refine z_bipush F (9) dX12_people_99 rfl ?_
          refine z_icmp_ge F 108 dX12_people_101 (by decide) hf (fun hf _ => ?_) (fun hf _ => ?_)
          · refine z_iconst F (0) dX12_people_108 rfl ?_
            refine z_istore F [(5, .int 0), (0, .ref a_this), (1, .int v1), (2, .int v2), (3, .int v3), (4, .int v4)] dX12_people_109 (by decide) rfl ?_
            refine z_bipush F (60) dX12_people_111 rfl ?_
            refine z_iload_n F 2 dX12_people_113 rfl rfl ?_
            refine z_imul F dX12_people_114 ?_
            refine z_iload_n F 3 dX12_people_115 rfl rfl ?_
            refine z_iadd F dX12_people_116 ?_
            refine z_iload F 5 dX12_people_117 rfl ?_
            refine z_iadd F dX12_people_119 ?_
            refine z_istore F [(6, .int ((((60 : Int32) * v1) + v2) + v4)), (5, .int 0), (0, .ref a_this), (1, .int v1), (2, .int v2), (3, .int v3), (4, .int v4)] dX12_people_120 (by decide) rfl ?_
            refine z_iload F 1 dX12_people_122 rfl ?_
            refine z_if_eq_t F 163 dX12_people_124 (by decide) (by decide) ?_
            refine z_iconst F (0) dX12_people_163 rfl ?_
            refine z_istore F [(5, .int 0), (6, .int ((((60 : Int32) * v1) + v2) + v4)), (0, .ref a_this), (1, .int v1), (2, .int v2), (3, .int v3), (4, .int v4)] dX12_people_164 (by decide) rfl ?_
            refine z_iload F 0 dX12_people_166 rfl ?_
            refine z_if_eq_t F 186 dX12_people_168 (by decide) (by decide) ?_
            refine z_goto F 69 dX12_people_186 (by decide) ?_
            exact z_sub [2, 3, 4, 5, 6, 0] rfl (ih people lineMany height line v4 0 hf)
          · refine z_iconst F (1) dX12_people_104 rfl ?_
            refine z_goto F 109 dX12_people_105 (by decide) ?_
            refine z_istore F [(5, .int 1), (0, .ref a_this), (1, .int v1), (2, .int v2), (3, .int v3), (4, .int v4)] dX12_people_109 (by decide) rfl ?_
            refine z_bipush F (60) dX12_people_111 rfl ?_
            refine z_iload_n F 2 dX12_people_113 rfl rfl ?_
            refine z_imul F dX12_people_114 ?_
            refine z_iload_n F 3 dX12_people_115 rfl rfl ?_
            refine z_iadd F dX12_people_116 ?_
            refine z_iload F 5 dX12_people_117 rfl ?_
            refine z_iadd F dX12_people_119 ?_
            refine z_istore F [(6, .int ((((60 : Int32) * v1) + v2) + v4)), (5, .int 1), (0, .ref a_this), (1, .int v1), (2, .int v2), (3, .int v3), (4, .int v4)] dX12_people_120 (by decide) rfl ?_
            refine z_iload F 1 dX12_people_122 rfl ?_
            refine z_if_eq_f F 163 dX12_people_124 (by decide) (by decide) ?_
            refine z_aload_n F 2 dX12_people_127 rfl rfl ?_
            refine z_get F 0 12 45 inlX12 rfl rfl (by decide) fl_X12_82 rfl dX12_people_128 ?_
            refine z_iload F 0 dX12_people_131 rfl ?_
            refine z_lald F 5 rfl hf dX12_people_133 (fun v_6 hf => ?_)
            refine z_lconst F (1) dX12_people_134 rfl ?_
            refine z_ldc2 F (99) (uw10 _ (List.mem_of_getElem? (i := 7) rfl)) dX12_people_135 ?_
            refine z_callSm (rest := []) F (c_M_within (xL X) G v_6 1 99 _ rfl) hy_X12_within ml_X12_96 hd_X12_within ⟨by omega, by omega⟩ rfl [] rfl rfl (w_M_people G a_this a_height a_changeAt a_changeWas a_changeIs a_tape a_text a_names a_line a_row a_pastMany a_past a_changed a_greatest a_numbersWere a_told a_waysOf a_waysWere a_blocks a_ordersOf a_imageLine a_bodyKind a_trace a_shelf a_many a_items a_carried people keptMany done tapeMany textMany base at_ ends fault opened lineMany rowMany taller tallerBy pasts isKept imageMany bodies ran ownKind ownNumber height line shelf many items) [none, none, none, none, none, none] rfl (by decide +kernel) rfl rfl (Nat.le_of_ble_eq_true rfl) dX12_people_138 (fun hz_7 => ?_)
            refine z_if_eq F 163 dX12_people_141 (by decide) hf (fun hf _ => ?_) (fun hf _ => ?_)
            · refine z_iconst F (0) dX12_people_163 rfl ?_
              refine z_istore F [(5, .int 0), (6, .int ((((60 : Int32) * v1) + v2) + v4)), (0, .ref a_this), (1, .int v1), (2, .int v2), (3, .int v3), (4, .int v4)] dX12_people_164 (by decide) rfl ?_
              refine z_iload F 0 dX12_people_166 rfl ?_
              refine z_if_eq_t F 186 dX12_people_168 (by decide) (by decide) ?_
              refine z_goto F 69 dX12_people_186 (by decide) ?_
              exact z_sub [2, 3, 4, 5, 6, 0] rfl (ih people lineMany height line v4 0 hf)
            · refine z_aload_n F 2 dX12_people_144 rfl rfl ?_
              refine z_iconst F (-1) dX12_people_145 rfl ?_
              refine z_aload_n F 2 dX12_people_146 rfl rfl ?_
              refine z_get F 0 12 45 inlX12 rfl rfl (by decide) fl_X12_82 rfl dX12_people_147 ?_
              refine z_iload F 0 dX12_people_150 rfl ?_
              refine z_lald F 5 rfl hf dX12_people_152 (fun v_8 hf => ?_)
              obtain ⟨r_9, hg, hf⟩ := zb1_some hf
              refine z_callVm (rest := []) F 12 (c_M_isOthers (xL X) G a_this a_height a_changeAt a_changeWas a_changeIs a_tape a_text a_names a_line a_row a_pastMany a_past a_changed a_greatest a_numbersWere a_told a_waysOf a_waysWere a_blocks a_ordersOf a_imageLine a_bodyKind a_trace a_shelf a_many a_items a_carried people keptMany done tapeMany textMany base at_ ends fault opened lineMany rowMany taller tallerBy pasts isKept imageMany bodies ran ownKind ownNumber height (-1) v_8 r_9 hg) hy_X12_isOthers ml_X12_105 hd_X12_isOthers ⟨by omega, by omega⟩ rfl [0, 1] rfl rfl 0 rfl rfl (w_M_people G a_this a_height a_changeAt a_changeWas a_changeIs a_tape a_text a_names a_line a_row a_pastMany a_past a_changed a_greatest a_numbersWere a_told a_waysOf a_waysWere a_blocks a_ordersOf a_imageLine a_bodyKind a_trace a_shelf a_many a_items a_carried people keptMany done tapeMany textMany base at_ ends fault opened lineMany rowMany taller tallerBy pasts isKept imageMany bodies ran ownKind ownNumber height line shelf many items) [some 0, some 1, none, none, none, none] rfl (by decide +kernel) rfl rfl (Nat.le_of_ble_eq_true rfl) dX12_people_153 (fun hz_10 => ?_)
              refine z_if_ne F 163 dX12_people_156 (by decide) hf (fun hf _ => ?_) (fun hf _ => ?_)
              · refine z_iconst F (0) dX12_people_163 rfl ?_
                refine z_istore F [(5, .int 0), (6, .int ((((60 : Int32) * v1) + v2) + v4)), (0, .ref a_this), (1, .int v1), (2, .int v2), (3, .int v3), (4, .int v4)] dX12_people_164 (by decide) rfl ?_
                refine z_iload F 0 dX12_people_166 rfl ?_
                refine z_if_eq_t F 186 dX12_people_168 (by decide) (by decide) ?_
                refine z_goto F 69 dX12_people_186 (by decide) ?_
                exact z_sub [2, 3, 4, 5, 6, 0] rfl (ih people lineMany height line v4 0 hf)
              · refine z_iconst F (1) dX12_people_159 rfl ?_
                refine z_goto F 164 dX12_people_160 (by decide) ?_
                refine z_istore F [(5, .int 1), (6, .int ((((60 : Int32) * v1) + v2) + v4)), (0, .ref a_this), (1, .int v1), (2, .int v2), (3, .int v3), (4, .int v4)] dX12_people_164 (by decide) rfl ?_
                refine z_iload F 0 dX12_people_166 rfl ?_
                refine z_if_eq_f F 186 dX12_people_168 (by decide) (by decide) ?_
                refine z_aload_n F 2 dX12_people_171 rfl rfl ?_
                refine z_aload_n F 2 dX12_people_172 rfl rfl ?_
                refine z_get F 0 12 45 inlX12 rfl rfl (by decide) fl_X12_82 rfl dX12_people_173 ?_
                refine z_iload F 1 dX12_people_176 rfl ?_
                refine z_lald F 5 rfl hf dX12_people_178 (fun v_11 hf => ?_)
                refine z_l2i F dX12_people_179 ?_
                obtain ⟨people_12, lineMany_13, height_14, line_15, hg, hf⟩ := zb4_some hf
                refine z_callVm (rest := []) F 12 (c_M_adds (xL X) G a_this a_height a_changeAt a_changeWas a_changeIs a_tape a_text a_names a_line a_row a_pastMany a_past a_changed a_greatest a_numbersWere a_told a_waysOf a_waysWere a_blocks a_ordersOf a_imageLine a_bodyKind a_trace a_shelf a_many a_items a_carried people keptMany done tapeMany textMany base at_ ends fault opened lineMany rowMany taller tallerBy pasts isKept imageMany bodies ran ownKind ownNumber height line (Int64.toInt32 v_11) people_12 lineMany_13 height_14 line_15 hg) hy_X12_adds ml_X12_109 hd_X12_adds ⟨by omega, by omega⟩ rfl [0, 1, 2] rfl rfl 0 rfl rfl (w_M_people G a_this a_height a_changeAt a_changeWas a_changeIs a_tape a_text a_names a_line a_row a_pastMany a_past a_changed a_greatest a_numbersWere a_told a_waysOf a_waysWere a_blocks a_ordersOf a_imageLine a_bodyKind a_trace a_shelf a_many a_items a_carried people_12 keptMany done tapeMany textMany base at_ ends fault opened lineMany_13 rowMany taller tallerBy pasts isKept imageMany bodies ran ownKind ownNumber height_14 line_15 shelf many items) [some 0, some 1, some 2, none, none, none] rfl (by decide +kernel) rfl rfl (Nat.le_of_ble_eq_true rfl) dX12_people_180 (fun hz_16 => ?_)
                refine z_iinc F [(4, .int (v4 + 1)), (5, .int 1), (6, .int ((((60 : Int32) * v1) + v2) + v4)), (0, .ref a_this), (1, .int v1), (2, .int v2), (3, .int v3)] dX12_people_183 6 rfl rfl (by decide) rfl ?_
                refine z_goto F 69 dX12_people_186 (by decide) ?_
                exact z_sub [3, 4, 5, 6, 0, 1] rfl (ih people_12 lineMany_13 height_14 line_15 (v4 + 1) 1 hf)

set_option maxRecDepth 100000 in
set_option maxHeartbeats 4000000 in
theorem c_M_people (l : Launch) (G : zG) (a_this : Nat) (a_height : Nat) (a_changeAt : Nat) (a_changeWas : Nat) (a_changeIs : Nat) (a_tape : Nat) (a_text : Nat) (a_names : Nat) (a_line : Nat) (a_row : Nat) (a_pastMany : Nat) (a_past : Nat) (a_changed : Nat) (a_greatest : Nat) (a_numbersWere : Nat) (a_told : Nat) (a_waysOf : Nat) (a_waysWere : Nat) (a_blocks : Nat) (a_ordersOf : Nat) (a_imageLine : Nat) (a_bodyKind : Nat) (a_trace : Nat) (a_shelf : Nat) (a_many : Nat) (a_items : Nat) (a_carried : Nat) (people : Int32) (keptMany : Int32) (done : Int32) (tapeMany : Int32) (textMany : Int32) (base : Int32) (at_ : Int32) (ends : Int32) (fault : Int32) (opened : Int32) (lineMany : Int32) (rowMany : Int32) (taller : Int32) (tallerBy : Int32) (pasts : Int32) (isKept : Int32) (imageMany : Int32) (bodies : Int32) (ran : Int32) (ownKind : Int32) (ownNumber : Int32) (height : Nat → Int32) (line : Nat → Int32) (shelf : Nat → Int32) (many : Nat → Int32) (items : Nat → Int64) (x1 : Int32) (x2 : Int32) (x3 : Int32) (r_ : Int32) (o_people : Int32) (o_lineMany : Int32) (o_height : Nat → Int32) (o_line : Nat → Int32) (hf : f_M_people people lineMany height line shelf many items x1 x2 x3 = some (r_, o_people, o_lineMany, o_height, o_line)) : zM l yX12_people cX12_people 7 (some .int) 2 45 G [.ref a_this, .int x1, .int x2, .int x3] (w_M_people G a_this a_height a_changeAt a_changeWas a_changeIs a_tape a_text a_names a_line a_row a_pastMany a_past a_changed a_greatest a_numbersWere a_told a_waysOf a_waysWere a_blocks a_ordersOf a_imageLine a_bodyKind a_trace a_shelf a_many a_items a_carried people keptMany done tapeMany textMany base at_ ends fault opened lineMany rowMany taller tallerBy pasts isKept imageMany bodies ran ownKind ownNumber height line shelf many items) (some (.int r_)) (w_M_people G a_this a_height a_changeAt a_changeWas a_changeIs a_tape a_text a_names a_line a_row a_pastMany a_past a_changed a_greatest a_numbersWere a_told a_waysOf a_waysWere a_blocks a_ordersOf a_imageLine a_bodyKind a_trace a_shelf a_many a_items a_carried o_people keptMany done tapeMany textMany base at_ ends fault opened o_lineMany rowMany taller tallerBy pasts isKept imageMany bodies ran ownKind ownNumber o_height o_line shelf many items) := by
  refine zM.of [(0, .ref a_this), (1, .int x1), (2, .int x2), (3, .int x3)] (own := RX12) rfl (by decide +kernel) (Nat.le_of_ble_eq_true rfl) rfl rfl fun X hX F => ?_
  subst hX
  replace hf := (f_M_people.eq_1 ..).symm.trans hf
  refine z_iload_n F 1 dX12_people_0 rfl rfl ?_
  refine z_callSm (rest := []) F (c_M_isShelf (xL X) G x1 _ rfl) hy_X12_isShelf ml_X12_113 hd_X12_isShelf ⟨by omega, by omega⟩ rfl [] rfl rfl (w_M_people G a_this a_height a_changeAt a_changeWas a_changeIs a_tape a_text a_names a_line a_row a_pastMany a_past a_changed a_greatest a_numbersWere a_told a_waysOf a_waysWere a_blocks a_ordersOf a_imageLine a_bodyKind a_trace a_shelf a_many a_items a_carried people keptMany done tapeMany textMany base at_ ends fault opened lineMany rowMany taller tallerBy pasts isKept imageMany bodies ran ownKind ownNumber height line shelf many items) [none, none, none, none, none, none] rfl (by decide +kernel) rfl rfl (Nat.le_of_ble_eq_true rfl) dX12_people_1 (fun hz_1 => ?_)
  refine z_if_eq F 19 dX12_people_4 (by decide) hf (fun hf _ => ?_) (fun hf _ => ?_)
  · refine z_iconst F (-1) dX12_people_19 rfl ?_
    have eq1 := Option.some.inj hf
    obtain ⟨ee1, eq2⟩ := Prod.mk.inj eq1
    obtain ⟨ee2, eq3⟩ := Prod.mk.inj eq2
    obtain ⟨ee3, eq4⟩ := Prod.mk.inj eq3
    obtain ⟨ee4, ee5⟩ := Prod.mk.inj eq4
    subst ee1
    subst ee2
    subst ee3
    subst ee4
    subst ee5
    exact z_iret F rfl rfl rfl rfl dX12_people_20
  · refine z_iload_n F 3 dX12_people_7 rfl rfl ?_
    refine z_i2l F dX12_people_8 ?_
    refine z_lconst F (1) dX12_people_9 rfl ?_
    refine z_ldc2 F (9) (uw12 _ (List.mem_of_getElem? (i := 8) rfl)) dX12_people_10 ?_
    refine z_callSm (rest := []) F (c_M_within (xL X) G (Int32.toInt64 x3) 1 9 _ rfl) hy_X12_within ml_X12_96 hd_X12_within ⟨by omega, by omega⟩ rfl [] rfl rfl (w_M_people G a_this a_height a_changeAt a_changeWas a_changeIs a_tape a_text a_names a_line a_row a_pastMany a_past a_changed a_greatest a_numbersWere a_told a_waysOf a_waysWere a_blocks a_ordersOf a_imageLine a_bodyKind a_trace a_shelf a_many a_items a_carried people keptMany done tapeMany textMany base at_ ends fault opened lineMany rowMany taller tallerBy pasts isKept imageMany bodies ran ownKind ownNumber height line shelf many items) [none, none, none, none, none, none] rfl (by decide +kernel) rfl rfl (Nat.le_of_ble_eq_true rfl) dX12_people_13 (fun hz_2 => ?_)
    refine z_if_ne F 21 dX12_people_16 (by decide) hf (fun hf _ => ?_) (fun hf _ => ?_)
    · refine z_aload_n F 0 dX12_people_21 rfl rfl ?_
      refine z_get F 0 12 43 inlX12 rfl rfl (by decide) fl_X12_76 rfl dX12_people_22 ?_
      refine z_iload_n F 1 dX12_people_25 rfl rfl ?_
      refine z_iald F 3 rfl hf dX12_people_26 (fun v_3 hf => ?_)
      refine z_if_lt F 44 dX12_people_27 (by decide) hf (fun hf _ => ?_) (fun hf _ => ?_)
      · refine z_iconst F (0) dX12_people_44 rfl ?_
        refine z_istore F [(4, .int 0), (0, .ref a_this), (1, .int x1), (2, .int x2), (3, .int x3)] dX12_people_45 (by decide) rfl ?_
        refine z_aload_n F 1 dX12_people_47 rfl rfl ?_
        refine z_get F 0 12 43 inlX12 rfl rfl (by decide) fl_X12_76 rfl dX12_people_48 ?_
        refine z_iload_n F 2 dX12_people_51 rfl rfl ?_
        refine z_iald F 3 rfl hf dX12_people_52 (fun v_4 hf => ?_)
        refine z_bipush F (50) dX12_people_53 rfl ?_
        refine z_icmp_ne F 66 dX12_people_55 (by decide) hf (fun hf _ => ?_) (fun hf _ => ?_)
        · refine z_iconst F (0) dX12_people_66 rfl ?_
          refine z_istore F [(5, .int 0), (4, .int 0), (0, .ref a_this), (1, .int x1), (2, .int x2), (3, .int x3)] dX12_people_67 (by decide) rfl ?_
          obtain ⟨people_17, lineMany_18, height_19, line_20, v4_21, hg, hf⟩ := zb5_some hf
          refine z_sub [2, 3, 4, 5, 1, 0] rfl ?_
          refine l_M_people_69 G a_this a_height a_changeAt a_changeWas a_changeIs a_tape a_text a_names a_line a_row a_pastMany a_past a_changed a_greatest a_numbersWere a_told a_waysOf a_waysWere a_blocks a_ordersOf a_imageLine a_bodyKind a_trace a_shelf a_many a_items a_carried keptMany done tapeMany textMany base at_ ends fault opened rowMany taller tallerBy pasts isKept imageMany bodies ran ownKind ownNumber shelf many items x1 x2 x3 F people_17 lineMany_18 height_19 line_20 v4_21 ?_ FU people lineMany height line 0 0 hg
          refine z_iload F 0 dX12_people_189 rfl ?_
          have eq1 := Option.some.inj hf
          obtain ⟨ee1, eq2⟩ := Prod.mk.inj eq1
          obtain ⟨ee2, eq3⟩ := Prod.mk.inj eq2
          obtain ⟨ee3, eq4⟩ := Prod.mk.inj eq3
          obtain ⟨ee4, ee5⟩ := Prod.mk.inj eq4
          subst ee1
          subst ee2
          subst ee3
          subst ee4
          subst ee5
          exact z_iret F rfl rfl rfl rfl dX12_people_191
        · refine z_iload_n F 3 dX12_people_58 rfl rfl ?_
          refine z_if_lt F 66 dX12_people_59 (by decide) hf (fun hf _ => ?_) (fun hf _ => ?_)
          · refine z_iconst F (0) dX12_people_66 rfl ?_
            refine z_istore F [(5, .int 0), (4, .int 0), (0, .ref a_this), (1, .int x1), (2, .int x2), (3, .int x3)] dX12_people_67 (by decide) rfl ?_
            obtain ⟨people_22, lineMany_23, height_24, line_25, v4_26, hg, hf⟩ := zb5_some hf
            refine z_sub [2, 3, 4, 5, 1, 0] rfl ?_
            refine l_M_people_69 G a_this a_height a_changeAt a_changeWas a_changeIs a_tape a_text a_names a_line a_row a_pastMany a_past a_changed a_greatest a_numbersWere a_told a_waysOf a_waysWere a_blocks a_ordersOf a_imageLine a_bodyKind a_trace a_shelf a_many a_items a_carried keptMany done tapeMany textMany base at_ ends fault opened rowMany taller tallerBy pasts isKept imageMany bodies ran ownKind ownNumber shelf many items x1 x2 x3 F people_22 lineMany_23 height_24 line_25 v4_26 ?_ FU people lineMany height line 0 0 hg
            refine z_iload F 0 dX12_people_189 rfl ?_
            have eq1 := Option.some.inj hf
            obtain ⟨ee1, eq2⟩ := Prod.mk.inj eq1
            obtain ⟨ee2, eq3⟩ := Prod.mk.inj eq2
            obtain ⟨ee3, eq4⟩ := Prod.mk.inj eq3
            obtain ⟨ee4, ee5⟩ := Prod.mk.inj eq4
            subst ee1
            subst ee2
            subst ee3
            subst ee4
            subst ee5
            exact z_iret F rfl rfl rfl rfl dX12_people_191
          · refine z_iconst F (1) dX12_people_62 rfl ?_
            refine z_goto F 67 dX12_people_63 (by decide) ?_
            refine z_istore F [(5, .int 1), (4, .int 0), (0, .ref a_this), (1, .int x1), (2, .int x2), (3, .int x3)] dX12_people_67 (by decide) rfl ?_
            obtain ⟨people_27, lineMany_28, height_29, line_30, v4_31, hg, hf⟩ := zb5_some hf
            refine z_sub [2, 3, 4, 5, 1, 0] rfl ?_
            refine l_M_people_69 G a_this a_height a_changeAt a_changeWas a_changeIs a_tape a_text a_names a_line a_row a_pastMany a_past a_changed a_greatest a_numbersWere a_told a_waysOf a_waysWere a_blocks a_ordersOf a_imageLine a_bodyKind a_trace a_shelf a_many a_items a_carried keptMany done tapeMany textMany base at_ ends fault opened rowMany taller tallerBy pasts isKept imageMany bodies ran ownKind ownNumber shelf many items x1 x2 x3 F people_27 lineMany_28 height_29 line_30 v4_31 ?_ FU people lineMany height line 0 1 hg
            refine z_iload F 0 dX12_people_189 rfl ?_
            have eq1 := Option.some.inj hf
            obtain ⟨ee1, eq2⟩ := Prod.mk.inj eq1
            obtain ⟨ee2, eq3⟩ := Prod.mk.inj eq2
            obtain ⟨ee3, eq4⟩ := Prod.mk.inj eq3
            obtain ⟨ee4, ee5⟩ := Prod.mk.inj eq4
            subst ee1
            subst ee2
            subst ee3
            subst ee4
            subst ee5
            exact z_iret F rfl rfl rfl rfl dX12_people_191
      · refine z_aload_n F 0 dX12_people_30 rfl rfl ?_
        refine z_get F 0 12 43 inlX12 rfl rfl (by decide) fl_X12_76 rfl dX12_people_31 ?_
        refine z_iload_n F 1 dX12_people_34 rfl rfl ?_
        refine z_iald F 3 rfl hf dX12_people_35 (fun v_32 hf => ?_)
        refine z_bipush F (50) dX12_people_36 rfl ?_
        refine z_icmp_eq F 44 dX12_people_38 (by decide) hf (fun hf _ => ?_) (fun hf _ => ?_)
        · refine z_iconst F (0) dX12_people_44 rfl ?_
          refine z_istore F [(4, .int 0), (0, .ref a_this), (1, .int x1), (2, .int x2), (3, .int x3)] dX12_people_45 (by decide) rfl ?_
          refine z_aload_n F 1 dX12_people_47 rfl rfl ?_
          refine z_get F 0 12 43 inlX12 rfl rfl (by decide) fl_X12_76 rfl dX12_people_48 ?_
          refine z_iload_n F 2 dX12_people_51 rfl rfl ?_
          refine z_iald F 3 rfl hf dX12_people_52 (fun v_33 hf => ?_)
          refine z_bipush F (50) dX12_people_53 rfl ?_
          refine z_icmp_ne F 66 dX12_people_55 (by decide) hf (fun hf _ => ?_) (fun hf _ => ?_)
          · refine z_iconst F (0) dX12_people_66 rfl ?_
            refine z_istore F [(5, .int 0), (4, .int 0), (0, .ref a_this), (1, .int x1), (2, .int x2), (3, .int x3)] dX12_people_67 (by decide) rfl ?_
            obtain ⟨people_34, lineMany_35, height_36, line_37, v4_38, hg, hf⟩ := zb5_some hf
            refine z_sub [2, 3, 4, 5, 1, 0] rfl ?_
            refine l_M_people_69 G a_this a_height a_changeAt a_changeWas a_changeIs a_tape a_text a_names a_line a_row a_pastMany a_past a_changed a_greatest a_numbersWere a_told a_waysOf a_waysWere a_blocks a_ordersOf a_imageLine a_bodyKind a_trace a_shelf a_many a_items a_carried keptMany done tapeMany textMany base at_ ends fault opened rowMany taller tallerBy pasts isKept imageMany bodies ran ownKind ownNumber shelf many items x1 x2 x3 F people_34 lineMany_35 height_36 line_37 v4_38 ?_ FU people lineMany height line 0 0 hg
            refine z_iload F 0 dX12_people_189 rfl ?_
            have eq1 := Option.some.inj hf
            obtain ⟨ee1, eq2⟩ := Prod.mk.inj eq1
            obtain ⟨ee2, eq3⟩ := Prod.mk.inj eq2
            obtain ⟨ee3, eq4⟩ := Prod.mk.inj eq3
            obtain ⟨ee4, ee5⟩ := Prod.mk.inj eq4
            subst ee1
            subst ee2
            subst ee3
            subst ee4
            subst ee5
            exact z_iret F rfl rfl rfl rfl dX12_people_191
          · refine z_iload_n F 3 dX12_people_58 rfl rfl ?_
            refine z_if_lt F 66 dX12_people_59 (by decide) hf (fun hf _ => ?_) (fun hf _ => ?_)
            · refine z_iconst F (0) dX12_people_66 rfl ?_
              refine z_istore F [(5, .int 0), (4, .int 0), (0, .ref a_this), (1, .int x1), (2, .int x2), (3, .int x3)] dX12_people_67 (by decide) rfl ?_
              obtain ⟨people_39, lineMany_40, height_41, line_42, v4_43, hg, hf⟩ := zb5_some hf
              refine z_sub [2, 3, 4, 5, 1, 0] rfl ?_
              refine l_M_people_69 G a_this a_height a_changeAt a_changeWas a_changeIs a_tape a_text a_names a_line a_row a_pastMany a_past a_changed a_greatest a_numbersWere a_told a_waysOf a_waysWere a_blocks a_ordersOf a_imageLine a_bodyKind a_trace a_shelf a_many a_items a_carried keptMany done tapeMany textMany base at_ ends fault opened rowMany taller tallerBy pasts isKept imageMany bodies ran ownKind ownNumber shelf many items x1 x2 x3 F people_39 lineMany_40 height_41 line_42 v4_43 ?_ FU people lineMany height line 0 0 hg
              refine z_iload F 0 dX12_people_189 rfl ?_
              have eq1 := Option.some.inj hf
              obtain ⟨ee1, eq2⟩ := Prod.mk.inj eq1
              obtain ⟨ee2, eq3⟩ := Prod.mk.inj eq2
              obtain ⟨ee3, eq4⟩ := Prod.mk.inj eq3
              obtain ⟨ee4, ee5⟩ := Prod.mk.inj eq4
              subst ee1
              subst ee2
              subst ee3
              subst ee4
              subst ee5
              exact z_iret F rfl rfl rfl rfl dX12_people_191
            · refine z_iconst F (1) dX12_people_62 rfl ?_
              refine z_goto F 67 dX12_people_63 (by decide) ?_
              refine z_istore F [(5, .int 1), (4, .int 0), (0, .ref a_this), (1, .int x1), (2, .int x2), (3, .int x3)] dX12_people_67 (by decide) rfl ?_
              obtain ⟨people_44, lineMany_45, height_46, line_47, v4_48, hg, hf⟩ := zb5_some hf
              refine z_sub [2, 3, 4, 5, 1, 0] rfl ?_
              refine l_M_people_69 G a_this a_height a_changeAt a_changeWas a_changeIs a_tape a_text a_names a_line a_row a_pastMany a_past a_changed a_greatest a_numbersWere a_told a_waysOf a_waysWere a_blocks a_ordersOf a_imageLine a_bodyKind a_trace a_shelf a_many a_items a_carried keptMany done tapeMany textMany base at_ ends fault opened rowMany taller tallerBy pasts isKept imageMany bodies ran ownKind ownNumber shelf many items x1 x2 x3 F people_44 lineMany_45 height_46 line_47 v4_48 ?_ FU people lineMany height line 0 1 hg
              refine z_iload F 0 dX12_people_189 rfl ?_
              have eq1 := Option.some.inj hf
              obtain ⟨ee1, eq2⟩ := Prod.mk.inj eq1
              obtain ⟨ee2, eq3⟩ := Prod.mk.inj eq2
              obtain ⟨ee3, eq4⟩ := Prod.mk.inj eq3
              obtain ⟨ee4, ee5⟩ := Prod.mk.inj eq4
              subst ee1
              subst ee2
              subst ee3
              subst ee4
              subst ee5
              exact z_iret F rfl rfl rfl rfl dX12_people_191
        · refine z_bipush F (-12) dX12_people_41 rfl ?_
          have eq1 := Option.some.inj hf
          obtain ⟨ee1, eq2⟩ := Prod.mk.inj eq1
          obtain ⟨ee2, eq3⟩ := Prod.mk.inj eq2
          obtain ⟨ee3, eq4⟩ := Prod.mk.inj eq3
          obtain ⟨ee4, ee5⟩ := Prod.mk.inj eq4
          subst ee1
          subst ee2
          subst ee3
          subst ee4
          subst ee5
          exact z_iret F rfl rfl rfl rfl dX12_people_43
    · refine z_iconst F (-1) dX12_people_19 rfl ?_
      have eq1 := Option.some.inj hf
      obtain ⟨ee1, eq2⟩ := Prod.mk.inj eq1
      obtain ⟨ee2, eq3⟩ := Prod.mk.inj eq2
      obtain ⟨ee3, eq4⟩ := Prod.mk.inj eq3
      obtain ⟨ee4, ee5⟩ := Prod.mk.inj eq4
      subst ee1
      subst ee2
      subst ee3
      subst ee4
      subst ee5
      exact z_iret F rfl rfl rfl rfl dX12_people_20

abbrev w_M_mend (G : zG) (a_this : Nat) (a_height : Nat) (a_changeAt : Nat) (a_changeWas : Nat) (a_changeIs : Nat) (a_tape : Nat) (a_text : Nat) (a_names : Nat) (a_line : Nat) (a_row : Nat) (a_pastMany : Nat) (a_past : Nat) (a_changed : Nat) (a_greatest : Nat) (a_numbersWere : Nat) (a_told : Nat) (a_waysOf : Nat) (a_waysWere : Nat) (a_blocks : Nat) (a_ordersOf : Nat) (a_imageLine : Nat) (a_bodyKind : Nat) (a_trace : Nat) (a_shelf : Nat) (a_many : Nat) (a_items : Nat) (a_carried : Nat) (people : Int32) (keptMany : Int32) (done : Int32) (tapeMany : Int32) (textMany : Int32) (base : Int32) (at_ : Int32) (ends : Int32) (fault : Int32) (opened : Int32) (lineMany : Int32) (rowMany : Int32) (taller : Int32) (tallerBy : Int32) (pasts : Int32) (isKept : Int32) (imageMany : Int32) (bodies : Int32) (ran : Int32) (ownKind : Int32) (ownNumber : Int32) (height : Nat → Int32) (changeAt : Nat → Int32) (changeWas : Nat → Int32) (changeIs : Nat → Int32) : va_W := [(a_this, cO 12 [.int people, .ref a_height, .ref a_changeAt, .ref a_changeWas, .ref a_changeIs, .int keptMany, .int done, .ref a_tape, .int tapeMany, .ref a_text, .int textMany, .int base, .int at_, .int ends, .int fault, .int opened, .ref a_names, .ref a_line, .int lineMany, .ref a_row, .int rowMany, .int taller, .int tallerBy, .ref a_pastMany, .ref a_past, .int pasts, .ref a_changed, .ref a_greatest, .ref a_numbersWere, .ref a_told, .ref a_waysOf, .ref a_waysWere, .ref a_blocks, .ref a_ordersOf, .int isKept, .int imageMany, .ref a_imageLine, .int bodies, .ref a_bodyKind, .ref a_trace, .int ran, .int ownKind, .int ownNumber, .ref a_shelf, .ref a_many, .ref a_items, .ref a_carried]), (a_height, cI G 9 height), (a_changeAt, cI G 40 changeAt), (a_changeWas, cI G 40 changeWas), (a_changeIs, cI G 40 changeIs)]
def f_M_mend_L58 : Nat → (Nat → Int32) → (Nat → Int32) → (Nat → Int32) → Int32 → Option ((Nat → Int32) × (Nat → Int32) × (Nat → Int32))
  | 0, _, _, _, _ => none
  | fuel + 1, changeAt, changeWas, changeIs, v4 => (if (40 : Int32) ≤ v4 then (some (changeAt, changeWas, changeIs)) else (zg changeAt 40 v4 fun v_10 => (zs changeAt 40 (v4 - (1 : Int32)) v_10 fun changeAt_11 => (zg changeWas 40 v4 fun v_12 => (zs changeWas 40 (v4 - (1 : Int32)) v_12 fun changeWas_13 => (zg changeIs 40 v4 fun v_14 => (zs changeIs 40 (v4 - (1 : Int32)) v_14 fun changeIs_15 => (f_M_mend_L58 fuel changeAt_11 changeWas_13 changeIs_15 (v4 + 1)))))))))
def f_M_mend (people : Int32) (keptMany : Int32) (done : Int32) (height : Nat → Int32) (changeAt : Nat → Int32) (changeWas : Nat → Int32) (changeIs : Nat → Int32) (x1 : Int32) (x2 : Int32) : Option (Int32 × Int32 × Int32 × (Nat → Int32) × (Nat → Int32) × (Nat → Int32) × (Nat → Int32)) := (if (f_M_isPerson people x1) = 0 then (some ((-1), keptMany, done, height, changeAt, changeWas, changeIs)) else (if (f_M_within (Int32.toInt64 x2) 1 99) = 0 then (some ((-1), keptMany, done, height, changeAt, changeWas, changeIs)) else (zb1 (f_M_isOthers people height x1 (Int32.toInt64 x2)) fun r_3 => (if r_3 = 0 then (zg height 9 x1 fun v_5 => (if v_5 = x2 then (some (v_5, keptMany, done, height, changeAt, changeWas, changeIs)) else (if done = 40 then (zb3 (f_M_mend_L58 FU changeAt changeWas changeIs 1) fun changeAt_16 changeWas_17 changeIs_18 => (zs changeAt_16 40 (done - (1 : Int32)) x1 fun changeAt_19 => (zs changeWas_17 40 (done - (1 : Int32)) v_5 fun changeWas_20 => (zs changeIs_18 40 (done - (1 : Int32)) x2 fun changeIs_21 => (zs height 9 x1 x2 fun height_22 => (some (v_5, ((done - (1 : Int32)) + (1 : Int32)), ((done - (1 : Int32)) + (1 : Int32)), height_22, changeAt_19, changeWas_20, changeIs_21))))))) else (zs changeAt 40 done x1 fun changeAt_6 => (zs changeWas 40 done v_5 fun changeWas_7 => (zs changeIs 40 done x2 fun changeIs_8 => (zs height 9 x1 x2 fun height_9 => (some (v_5, (done + (1 : Int32)), (done + (1 : Int32)), height_9, changeAt_6, changeWas_7, changeIs_8))))))))) else (some ((-1), keptMany, done, height, changeAt, changeWas, changeIs))))))
set_option maxRecDepth 100000 in
set_option maxHeartbeats 4000000 in
theorem l_M_mend_58 {X : zX} (G : zG) (a_this : Nat) (a_height : Nat) (a_changeAt : Nat) (a_changeWas : Nat) (a_changeIs : Nat) (a_tape : Nat) (a_text : Nat) (a_names : Nat) (a_line : Nat) (a_row : Nat) (a_pastMany : Nat) (a_past : Nat) (a_changed : Nat) (a_greatest : Nat) (a_numbersWere : Nat) (a_told : Nat) (a_waysOf : Nat) (a_waysWere : Nat) (a_blocks : Nat) (a_ordersOf : Nat) (a_imageLine : Nat) (a_bodyKind : Nat) (a_trace : Nat) (a_shelf : Nat) (a_many : Nat) (a_items : Nat) (a_carried : Nat) (people : Int32) (keptMany : Int32) (done : Int32) (tapeMany : Int32) (textMany : Int32) (base : Int32) (at_ : Int32) (ends : Int32) (fault : Int32) (opened : Int32) (lineMany : Int32) (rowMany : Int32) (taller : Int32) (tallerBy : Int32) (pasts : Int32) (isKept : Int32) (imageMany : Int32) (bodies : Int32) (ran : Int32) (ownKind : Int32) (ownNumber : Int32) (height : Nat → Int32) (v1 : Int32) (v2 : Int32) (v3 : Int32) {v0 : Option Value} {w0 : va_W} (F : zF X G cX12_mend RX12 5 (some .int) 2 46 v0 w0) (e_changeAt : Nat → Int32) (e_changeWas : Nat → Int32) (e_changeIs : Nat → Int32) (hk : Z X G 5 (w_M_mend G a_this a_height a_changeAt a_changeWas a_changeIs a_tape a_text a_names a_line a_row a_pastMany a_past a_changed a_greatest a_numbersWere a_told a_waysOf a_waysWere a_blocks a_ordersOf a_imageLine a_bodyKind a_trace a_shelf a_many a_items a_carried people keptMany done tapeMany textMany base at_ ends fault opened lineMany rowMany taller tallerBy pasts isKept imageMany bodies ran ownKind ownNumber height e_changeAt e_changeWas e_changeIs) [(0, .ref a_this), (1, .int v1), (2, .int v2), (3, .int v3)] 119 []) :
    ∀ (fuel : Nat) (changeAt : Nat → Int32) (changeWas : Nat → Int32) (changeIs : Nat → Int32) (v4 : Int32), f_M_mend_L58 fuel changeAt changeWas changeIs v4 = some (e_changeAt, e_changeWas, e_changeIs) → Z X G 5 (w_M_mend G a_this a_height a_changeAt a_changeWas a_changeIs a_tape a_text a_names a_line a_row a_pastMany a_past a_changed a_greatest a_numbersWere a_told a_waysOf a_waysWere a_blocks a_ordersOf a_imageLine a_bodyKind a_trace a_shelf a_many a_items a_carried people keptMany done tapeMany textMany base at_ ends fault opened lineMany rowMany taller tallerBy pasts isKept imageMany bodies ran ownKind ownNumber height changeAt changeWas changeIs) [(0, .ref a_this), (1, .int v1), (2, .int v2), (3, .int v3), (4, .int v4)] 58 [] := by
  intro fuel
  induction fuel with
  | zero => intro changeAt changeWas changeIs v4 hf; exact absurd ((f_M_mend_L58.eq_1 ..).symm.trans hf) (fun h => by cases h)
  | succ fuel ih =>
    intro changeAt changeWas changeIs v4 hf
    replace hf := (f_M_mend_L58.eq_2 ..).symm.trans hf
    refine z_iload F 4 dX12_mend_58 rfl ?_
    refine z_bipush F (40) dX12_mend_60 rfl ?_
    refine z_icmp_ge F 119 dX12_mend_62 (by decide) hf (fun hf _ => ?_) (fun hf _ => ?_)
    · have eq1 := Option.some.inj hf
      obtain ⟨ee1, eq2⟩ := Prod.mk.inj eq1
      obtain ⟨ee2, ee3⟩ := Prod.mk.inj eq2
      subst ee1
      subst ee2
      subst ee3
      exact z_sub [0, 1, 2, 3] rfl hk
    · refine z_aload_n F 0 dX12_mend_65 rfl rfl ?_
      refine z_get F 0 12 2 inlX12 rfl rfl (by decide) fl_X12_13 rfl dX12_mend_66 ?_
      refine z_iload F 4 dX12_mend_69 rfl ?_
      refine z_iconst F (1) dX12_mend_71 rfl ?_
      refine z_isub F dX12_mend_72 ?_
      refine z_aload_n F 0 dX12_mend_73 rfl rfl ?_
      refine z_get F 0 12 2 inlX12 rfl rfl (by decide) fl_X12_13 rfl dX12_mend_74 ?_
      refine z_iload F 4 dX12_mend_77 rfl ?_
      refine z_iald F 2 rfl hf dX12_mend_79 (fun v_10 hf => ?_)
      refine z_iast F 2 (fun changeAt_11 => (w_M_mend G a_this a_height a_changeAt a_changeWas a_changeIs a_tape a_text a_names a_line a_row a_pastMany a_past a_changed a_greatest a_numbersWere a_told a_waysOf a_waysWere a_blocks a_ordersOf a_imageLine a_bodyKind a_trace a_shelf a_many a_items a_carried people keptMany done tapeMany textMany base at_ ends fault opened lineMany rowMany taller tallerBy pasts isKept imageMany bodies ran ownKind ownNumber height changeAt_11 changeWas changeIs)) rfl hf (fun _ => rfl) dX12_mend_80 (fun changeAt_11 hf => ?_)
      refine z_aload_n F 0 dX12_mend_81 rfl rfl ?_
      refine z_get F 0 12 3 inlX12 rfl rfl (by decide) fl_X12_16 rfl dX12_mend_82 ?_
      refine z_iload F 4 dX12_mend_85 rfl ?_
      refine z_iconst F (1) dX12_mend_87 rfl ?_
      refine z_isub F dX12_mend_88 ?_
      refine z_aload_n F 0 dX12_mend_89 rfl rfl ?_
      refine z_get F 0 12 3 inlX12 rfl rfl (by decide) fl_X12_16 rfl dX12_mend_90 ?_
      refine z_iload F 4 dX12_mend_93 rfl ?_
      refine z_iald F 3 rfl hf dX12_mend_95 (fun v_12 hf => ?_)
      refine z_iast F 3 (fun changeWas_13 => (w_M_mend G a_this a_height a_changeAt a_changeWas a_changeIs a_tape a_text a_names a_line a_row a_pastMany a_past a_changed a_greatest a_numbersWere a_told a_waysOf a_waysWere a_blocks a_ordersOf a_imageLine a_bodyKind a_trace a_shelf a_many a_items a_carried people keptMany done tapeMany textMany base at_ ends fault opened lineMany rowMany taller tallerBy pasts isKept imageMany bodies ran ownKind ownNumber height changeAt_11 changeWas_13 changeIs)) rfl hf (fun _ => rfl) dX12_mend_96 (fun changeWas_13 hf => ?_)
      refine z_aload_n F 0 dX12_mend_97 rfl rfl ?_
      refine z_get F 0 12 4 inlX12 rfl rfl (by decide) fl_X12_19 rfl dX12_mend_98 ?_
      refine z_iload F 4 dX12_mend_101 rfl ?_
      refine z_iconst F (1) dX12_mend_103 rfl ?_
      refine z_isub F dX12_mend_104 ?_
      refine z_aload_n F 0 dX12_mend_105 rfl rfl ?_
      refine z_get F 0 12 4 inlX12 rfl rfl (by decide) fl_X12_19 rfl dX12_mend_106 ?_
      refine z_iload F 4 dX12_mend_109 rfl ?_
      refine z_iald F 4 rfl hf dX12_mend_111 (fun v_14 hf => ?_)
      refine z_iast F 4 (fun changeIs_15 => (w_M_mend G a_this a_height a_changeAt a_changeWas a_changeIs a_tape a_text a_names a_line a_row a_pastMany a_past a_changed a_greatest a_numbersWere a_told a_waysOf a_waysWere a_blocks a_ordersOf a_imageLine a_bodyKind a_trace a_shelf a_many a_items a_carried people keptMany done tapeMany textMany base at_ ends fault opened lineMany rowMany taller tallerBy pasts isKept imageMany bodies ran ownKind ownNumber height changeAt_11 changeWas_13 changeIs_15)) rfl hf (fun _ => rfl) dX12_mend_112 (fun changeIs_15 hf => ?_)
      refine z_iinc F [(4, .int (v4 + 1)), (0, .ref a_this), (1, .int v1), (2, .int v2), (3, .int v3)] dX12_mend_113 4 rfl rfl (by decide) rfl ?_
      refine z_goto F 58 dX12_mend_116 (by decide) ?_
      exact z_sub [1, 2, 3, 4, 0] rfl (ih changeAt_11 changeWas_13 changeIs_15 (v4 + 1) hf)

set_option maxRecDepth 100000 in
set_option maxHeartbeats 4000000 in
theorem c_M_mend (l : Launch) (G : zG) (a_this : Nat) (a_height : Nat) (a_changeAt : Nat) (a_changeWas : Nat) (a_changeIs : Nat) (a_tape : Nat) (a_text : Nat) (a_names : Nat) (a_line : Nat) (a_row : Nat) (a_pastMany : Nat) (a_past : Nat) (a_changed : Nat) (a_greatest : Nat) (a_numbersWere : Nat) (a_told : Nat) (a_waysOf : Nat) (a_waysWere : Nat) (a_blocks : Nat) (a_ordersOf : Nat) (a_imageLine : Nat) (a_bodyKind : Nat) (a_trace : Nat) (a_shelf : Nat) (a_many : Nat) (a_items : Nat) (a_carried : Nat) (people : Int32) (keptMany : Int32) (done : Int32) (tapeMany : Int32) (textMany : Int32) (base : Int32) (at_ : Int32) (ends : Int32) (fault : Int32) (opened : Int32) (lineMany : Int32) (rowMany : Int32) (taller : Int32) (tallerBy : Int32) (pasts : Int32) (isKept : Int32) (imageMany : Int32) (bodies : Int32) (ran : Int32) (ownKind : Int32) (ownNumber : Int32) (height : Nat → Int32) (changeAt : Nat → Int32) (changeWas : Nat → Int32) (changeIs : Nat → Int32) (x1 : Int32) (x2 : Int32) (r_ : Int32) (o_keptMany : Int32) (o_done : Int32) (o_height : Nat → Int32) (o_changeAt : Nat → Int32) (o_changeWas : Nat → Int32) (o_changeIs : Nat → Int32) (hf : f_M_mend people keptMany done height changeAt changeWas changeIs x1 x2 = some (r_, o_keptMany, o_done, o_height, o_changeAt, o_changeWas, o_changeIs)) : zM l yX12_mend cX12_mend 5 (some .int) 2 46 G [.ref a_this, .int x1, .int x2] (w_M_mend G a_this a_height a_changeAt a_changeWas a_changeIs a_tape a_text a_names a_line a_row a_pastMany a_past a_changed a_greatest a_numbersWere a_told a_waysOf a_waysWere a_blocks a_ordersOf a_imageLine a_bodyKind a_trace a_shelf a_many a_items a_carried people keptMany done tapeMany textMany base at_ ends fault opened lineMany rowMany taller tallerBy pasts isKept imageMany bodies ran ownKind ownNumber height changeAt changeWas changeIs) (some (.int r_)) (w_M_mend G a_this a_height a_changeAt a_changeWas a_changeIs a_tape a_text a_names a_line a_row a_pastMany a_past a_changed a_greatest a_numbersWere a_told a_waysOf a_waysWere a_blocks a_ordersOf a_imageLine a_bodyKind a_trace a_shelf a_many a_items a_carried people o_keptMany o_done tapeMany textMany base at_ ends fault opened lineMany rowMany taller tallerBy pasts isKept imageMany bodies ran ownKind ownNumber o_height o_changeAt o_changeWas o_changeIs) := by
  refine zM.of [(0, .ref a_this), (1, .int x1), (2, .int x2)] (own := RX12) rfl (by decide +kernel) (Nat.le_of_ble_eq_true rfl) rfl rfl fun X hX F => ?_
  subst hX
  replace hf := (f_M_mend.eq_1 ..).symm.trans hf
  refine z_aload_n F 0 dX12_mend_0 rfl rfl ?_
  refine z_iload_n F 1 dX12_mend_1 rfl rfl ?_
  refine z_callVm (rest := []) F 12 (c_M_isPerson (xL X) G a_this a_height a_changeAt a_changeWas a_changeIs a_tape a_text a_names a_line a_row a_pastMany a_past a_changed a_greatest a_numbersWere a_told a_waysOf a_waysWere a_blocks a_ordersOf a_imageLine a_bodyKind a_trace a_shelf a_many a_items a_carried people keptMany done tapeMany textMany base at_ ends fault opened lineMany rowMany taller tallerBy pasts isKept imageMany bodies ran ownKind ownNumber x1 _ rfl) hy_X12_isPerson ml_X12_119 hd_X12_isPerson ⟨by omega, by omega⟩ rfl [0] rfl rfl 0 rfl rfl (w_M_mend G a_this a_height a_changeAt a_changeWas a_changeIs a_tape a_text a_names a_line a_row a_pastMany a_past a_changed a_greatest a_numbersWere a_told a_waysOf a_waysWere a_blocks a_ordersOf a_imageLine a_bodyKind a_trace a_shelf a_many a_items a_carried people keptMany done tapeMany textMany base at_ ends fault opened lineMany rowMany taller tallerBy pasts isKept imageMany bodies ran ownKind ownNumber height changeAt changeWas changeIs) [some 0, none, none, none, none] rfl (by decide +kernel) rfl rfl (Nat.le_of_ble_eq_true rfl) dX12_mend_2 (fun hz_1 => ?_)
  refine z_if_eq F 30 dX12_mend_5 (by decide) hf (fun hf _ => ?_) (fun hf _ => ?_)
  · refine z_iconst F (-1) dX12_mend_30 rfl ?_
    have eq1 := Option.some.inj hf
    obtain ⟨ee1, eq2⟩ := Prod.mk.inj eq1
    obtain ⟨ee2, eq3⟩ := Prod.mk.inj eq2
    obtain ⟨ee3, eq4⟩ := Prod.mk.inj eq3
    obtain ⟨ee4, eq5⟩ := Prod.mk.inj eq4
    obtain ⟨ee5, eq6⟩ := Prod.mk.inj eq5
    obtain ⟨ee6, ee7⟩ := Prod.mk.inj eq6
    subst ee1
    subst ee2
    subst ee3
    subst ee4
    subst ee5
    subst ee6
    subst ee7
    exact z_iret F rfl rfl rfl rfl dX12_mend_31
  · refine z_iload_n F 2 dX12_mend_8 rfl rfl ?_
    refine z_i2l F dX12_mend_9 ?_
    refine z_lconst F (1) dX12_mend_10 rfl ?_
    refine z_ldc2 F (99) (uw10 _ (List.mem_of_getElem? (i := 7) rfl)) dX12_mend_11 ?_
    refine z_callSm (rest := []) F (c_M_within (xL X) G (Int32.toInt64 x2) 1 99 _ rfl) hy_X12_within ml_X12_96 hd_X12_within ⟨by omega, by omega⟩ rfl [] rfl rfl (w_M_mend G a_this a_height a_changeAt a_changeWas a_changeIs a_tape a_text a_names a_line a_row a_pastMany a_past a_changed a_greatest a_numbersWere a_told a_waysOf a_waysWere a_blocks a_ordersOf a_imageLine a_bodyKind a_trace a_shelf a_many a_items a_carried people keptMany done tapeMany textMany base at_ ends fault opened lineMany rowMany taller tallerBy pasts isKept imageMany bodies ran ownKind ownNumber height changeAt changeWas changeIs) [none, none, none, none, none] rfl (by decide +kernel) rfl rfl (Nat.le_of_ble_eq_true rfl) dX12_mend_14 (fun hz_2 => ?_)
    refine z_if_eq F 30 dX12_mend_17 (by decide) hf (fun hf _ => ?_) (fun hf _ => ?_)
    · refine z_iconst F (-1) dX12_mend_30 rfl ?_
      have eq1 := Option.some.inj hf
      obtain ⟨ee1, eq2⟩ := Prod.mk.inj eq1
      obtain ⟨ee2, eq3⟩ := Prod.mk.inj eq2
      obtain ⟨ee3, eq4⟩ := Prod.mk.inj eq3
      obtain ⟨ee4, eq5⟩ := Prod.mk.inj eq4
      obtain ⟨ee5, eq6⟩ := Prod.mk.inj eq5
      obtain ⟨ee6, ee7⟩ := Prod.mk.inj eq6
      subst ee1
      subst ee2
      subst ee3
      subst ee4
      subst ee5
      subst ee6
      subst ee7
      exact z_iret F rfl rfl rfl rfl dX12_mend_31
    · refine z_aload_n F 0 dX12_mend_20 rfl rfl ?_
      refine z_iload_n F 1 dX12_mend_21 rfl rfl ?_
      refine z_iload_n F 2 dX12_mend_22 rfl rfl ?_
      refine z_i2l F dX12_mend_23 ?_
      obtain ⟨r_3, hg, hf⟩ := zb1_some hf
      refine z_callVm (rest := []) F 12 (c_M_isOthers (xL X) G a_this a_height a_changeAt a_changeWas a_changeIs a_tape a_text a_names a_line a_row a_pastMany a_past a_changed a_greatest a_numbersWere a_told a_waysOf a_waysWere a_blocks a_ordersOf a_imageLine a_bodyKind a_trace a_shelf a_many a_items a_carried people keptMany done tapeMany textMany base at_ ends fault opened lineMany rowMany taller tallerBy pasts isKept imageMany bodies ran ownKind ownNumber height x1 (Int32.toInt64 x2) r_3 hg) hy_X12_isOthers ml_X12_105 hd_X12_isOthers ⟨by omega, by omega⟩ rfl [0, 1] rfl rfl 0 rfl rfl (w_M_mend G a_this a_height a_changeAt a_changeWas a_changeIs a_tape a_text a_names a_line a_row a_pastMany a_past a_changed a_greatest a_numbersWere a_told a_waysOf a_waysWere a_blocks a_ordersOf a_imageLine a_bodyKind a_trace a_shelf a_many a_items a_carried people keptMany done tapeMany textMany base at_ ends fault opened lineMany rowMany taller tallerBy pasts isKept imageMany bodies ran ownKind ownNumber height changeAt changeWas changeIs) [some 0, some 1, none, none, none] rfl (by decide +kernel) rfl rfl (Nat.le_of_ble_eq_true rfl) dX12_mend_24 (fun hz_4 => ?_)
      refine z_if_eq F 32 dX12_mend_27 (by decide) hf (fun hf _ => ?_) (fun hf _ => ?_)
      · refine z_aload_n F 0 dX12_mend_32 rfl rfl ?_
        refine z_get F 0 12 1 inlX12 rfl rfl (by decide) fl_X12_9 rfl dX12_mend_33 ?_
        refine z_iload_n F 1 dX12_mend_36 rfl rfl ?_
        refine z_iald F 1 rfl hf dX12_mend_37 (fun v_5 hf => ?_)
        refine z_istore_n F [(3, .int v_5), (0, .ref a_this), (1, .int x1), (2, .int x2)] dX12_mend_38 rfl (by decide) rfl ?_
        refine z_iload_n F 0 dX12_mend_39 rfl rfl ?_
        refine z_iload_n F 3 dX12_mend_40 rfl rfl ?_
        refine z_icmp_ne F 46 dX12_mend_41 (by decide) hf (fun hf _ => ?_) (fun hf _ => ?_)
        · refine z_aload_n F 1 dX12_mend_46 rfl rfl ?_
          refine z_get F 0 12 6 inlX12 rfl rfl (by decide) fl_X12_122 rfl dX12_mend_47 ?_
          refine z_bipush F (40) dX12_mend_50 rfl ?_
          refine z_icmp_ne F 129 dX12_mend_52 (by decide) hf (fun hf _ => ?_) (fun hf _ => ?_)
          · refine z_aload_n F 1 dX12_mend_129 rfl rfl ?_
            refine z_get F 0 12 2 inlX12 rfl rfl (by decide) fl_X12_13 rfl dX12_mend_130 ?_
            refine z_aload_n F 1 dX12_mend_133 rfl rfl ?_
            refine z_get F 0 12 6 inlX12 rfl rfl (by decide) fl_X12_122 rfl dX12_mend_134 ?_
            refine z_iload_n F 2 dX12_mend_137 rfl rfl ?_
            refine z_iast F 2 (fun changeAt_6 => (w_M_mend G a_this a_height a_changeAt a_changeWas a_changeIs a_tape a_text a_names a_line a_row a_pastMany a_past a_changed a_greatest a_numbersWere a_told a_waysOf a_waysWere a_blocks a_ordersOf a_imageLine a_bodyKind a_trace a_shelf a_many a_items a_carried people keptMany done tapeMany textMany base at_ ends fault opened lineMany rowMany taller tallerBy pasts isKept imageMany bodies ran ownKind ownNumber height changeAt_6 changeWas changeIs)) rfl hf (fun _ => rfl) dX12_mend_138 (fun changeAt_6 hf => ?_)
            refine z_aload_n F 1 dX12_mend_139 rfl rfl ?_
            refine z_get F 0 12 3 inlX12 rfl rfl (by decide) fl_X12_16 rfl dX12_mend_140 ?_
            refine z_aload_n F 1 dX12_mend_143 rfl rfl ?_
            refine z_get F 0 12 6 inlX12 rfl rfl (by decide) fl_X12_122 rfl dX12_mend_144 ?_
            refine z_iload_n F 0 dX12_mend_147 rfl rfl ?_
            refine z_iast F 3 (fun changeWas_7 => (w_M_mend G a_this a_height a_changeAt a_changeWas a_changeIs a_tape a_text a_names a_line a_row a_pastMany a_past a_changed a_greatest a_numbersWere a_told a_waysOf a_waysWere a_blocks a_ordersOf a_imageLine a_bodyKind a_trace a_shelf a_many a_items a_carried people keptMany done tapeMany textMany base at_ ends fault opened lineMany rowMany taller tallerBy pasts isKept imageMany bodies ran ownKind ownNumber height changeAt_6 changeWas_7 changeIs)) rfl hf (fun _ => rfl) dX12_mend_148 (fun changeWas_7 hf => ?_)
            refine z_aload_n F 1 dX12_mend_149 rfl rfl ?_
            refine z_get F 0 12 4 inlX12 rfl rfl (by decide) fl_X12_19 rfl dX12_mend_150 ?_
            refine z_aload_n F 1 dX12_mend_153 rfl rfl ?_
            refine z_get F 0 12 6 inlX12 rfl rfl (by decide) fl_X12_122 rfl dX12_mend_154 ?_
            refine z_iload_n F 3 dX12_mend_157 rfl rfl ?_
            refine z_iast F 4 (fun changeIs_8 => (w_M_mend G a_this a_height a_changeAt a_changeWas a_changeIs a_tape a_text a_names a_line a_row a_pastMany a_past a_changed a_greatest a_numbersWere a_told a_waysOf a_waysWere a_blocks a_ordersOf a_imageLine a_bodyKind a_trace a_shelf a_many a_items a_carried people keptMany done tapeMany textMany base at_ ends fault opened lineMany rowMany taller tallerBy pasts isKept imageMany bodies ran ownKind ownNumber height changeAt_6 changeWas_7 changeIs_8)) rfl hf (fun _ => rfl) dX12_mend_158 (fun changeIs_8 hf => ?_)
            refine z_aload_n F 1 dX12_mend_159 rfl rfl ?_
            refine z_dup F rfl dX12_mend_160 ?_
            refine z_get F 0 12 6 inlX12 rfl rfl (by decide) fl_X12_122 rfl dX12_mend_161 ?_
            refine z_iconst F (1) dX12_mend_164 rfl ?_
            refine z_iadd F dX12_mend_165 ?_
            refine z_put F 0 12 6 (w_M_mend G a_this a_height a_changeAt a_changeWas a_changeIs a_tape a_text a_names a_line a_row a_pastMany a_past a_changed a_greatest a_numbersWere a_told a_waysOf a_waysWere a_blocks a_ordersOf a_imageLine a_bodyKind a_trace a_shelf a_many a_items a_carried people keptMany (done + (1 : Int32)) tapeMany textMany base at_ ends fault opened lineMany rowMany taller tallerBy pasts isKept imageMany bodies ran ownKind ownNumber height changeAt_6 changeWas_7 changeIs_8) inlX12 tyX12 tyX12_ok nmX12 rfl rfl (by decide) fl_X12_122 rfl rfl rfl (Nat.le_of_ble_eq_true rfl) rfl dX12_mend_166 ?_
            refine z_aload_n F 1 dX12_mend_169 rfl rfl ?_
            refine z_aload_n F 1 dX12_mend_170 rfl rfl ?_
            refine z_get F 0 12 6 inlX12 rfl rfl (by decide) fl_X12_122 rfl dX12_mend_171 ?_
            refine z_put F 0 12 5 (w_M_mend G a_this a_height a_changeAt a_changeWas a_changeIs a_tape a_text a_names a_line a_row a_pastMany a_past a_changed a_greatest a_numbersWere a_told a_waysOf a_waysWere a_blocks a_ordersOf a_imageLine a_bodyKind a_trace a_shelf a_many a_items a_carried people (done + (1 : Int32)) (done + (1 : Int32)) tapeMany textMany base at_ ends fault opened lineMany rowMany taller tallerBy pasts isKept imageMany bodies ran ownKind ownNumber height changeAt_6 changeWas_7 changeIs_8) inlX12 tyX12 tyX12_ok nmX12 rfl rfl (by decide) fl_X12_125 rfl rfl rfl (Nat.le_of_ble_eq_true rfl) rfl dX12_mend_174 ?_
            refine z_aload_n F 1 dX12_mend_177 rfl rfl ?_
            refine z_get F 0 12 1 inlX12 rfl rfl (by decide) fl_X12_9 rfl dX12_mend_178 ?_
            refine z_iload_n F 2 dX12_mend_181 rfl rfl ?_
            refine z_iload_n F 3 dX12_mend_182 rfl rfl ?_
            refine z_iast F 1 (fun height_9 => (w_M_mend G a_this a_height a_changeAt a_changeWas a_changeIs a_tape a_text a_names a_line a_row a_pastMany a_past a_changed a_greatest a_numbersWere a_told a_waysOf a_waysWere a_blocks a_ordersOf a_imageLine a_bodyKind a_trace a_shelf a_many a_items a_carried people (done + (1 : Int32)) (done + (1 : Int32)) tapeMany textMany base at_ ends fault opened lineMany rowMany taller tallerBy pasts isKept imageMany bodies ran ownKind ownNumber height_9 changeAt_6 changeWas_7 changeIs_8)) rfl hf (fun _ => rfl) dX12_mend_183 (fun height_9 hf => ?_)
            refine z_iload_n F 0 dX12_mend_184 rfl rfl ?_
            have eq1 := Option.some.inj hf
            obtain ⟨ee1, eq2⟩ := Prod.mk.inj eq1
            obtain ⟨ee2, eq3⟩ := Prod.mk.inj eq2
            obtain ⟨ee3, eq4⟩ := Prod.mk.inj eq3
            obtain ⟨ee4, eq5⟩ := Prod.mk.inj eq4
            obtain ⟨ee5, eq6⟩ := Prod.mk.inj eq5
            obtain ⟨ee6, ee7⟩ := Prod.mk.inj eq6
            subst ee1
            subst ee2
            subst ee3
            subst ee4
            subst ee5
            subst ee6
            subst ee7
            exact z_iret F rfl rfl rfl rfl dX12_mend_185
          · refine z_iconst F (1) dX12_mend_55 rfl ?_
            refine z_istore F [(4, .int 1), (3, .int v_5), (0, .ref a_this), (1, .int x1), (2, .int x2)] dX12_mend_56 (by decide) rfl ?_
            obtain ⟨changeAt_16, changeWas_17, changeIs_18, hg, hf⟩ := zb3_some hf
            refine z_sub [2, 3, 4, 1, 0] rfl ?_
            refine l_M_mend_58 G a_this a_height a_changeAt a_changeWas a_changeIs a_tape a_text a_names a_line a_row a_pastMany a_past a_changed a_greatest a_numbersWere a_told a_waysOf a_waysWere a_blocks a_ordersOf a_imageLine a_bodyKind a_trace a_shelf a_many a_items a_carried people keptMany done tapeMany textMany base at_ ends fault opened lineMany rowMany taller tallerBy pasts isKept imageMany bodies ran ownKind ownNumber height x1 x2 v_5 F changeAt_16 changeWas_17 changeIs_18 ?_ FU changeAt changeWas changeIs 1 hg
            refine z_aload_n F 0 dX12_mend_119 rfl rfl ?_
            refine z_dup F rfl dX12_mend_120 ?_
            refine z_get F 0 12 6 inlX12 rfl rfl (by decide) fl_X12_122 rfl dX12_mend_121 ?_
            refine z_iconst F (1) dX12_mend_124 rfl ?_
            refine z_isub F dX12_mend_125 ?_
            refine z_put F 0 12 6 (w_M_mend G a_this a_height a_changeAt a_changeWas a_changeIs a_tape a_text a_names a_line a_row a_pastMany a_past a_changed a_greatest a_numbersWere a_told a_waysOf a_waysWere a_blocks a_ordersOf a_imageLine a_bodyKind a_trace a_shelf a_many a_items a_carried people keptMany (done - (1 : Int32)) tapeMany textMany base at_ ends fault opened lineMany rowMany taller tallerBy pasts isKept imageMany bodies ran ownKind ownNumber height changeAt_16 changeWas_17 changeIs_18) inlX12 tyX12 tyX12_ok nmX12 rfl rfl (by decide) fl_X12_122 rfl rfl rfl (Nat.le_of_ble_eq_true rfl) rfl dX12_mend_126 ?_
            refine z_aload_n F 0 dX12_mend_129 rfl rfl ?_
            refine z_get F 0 12 2 inlX12 rfl rfl (by decide) fl_X12_13 rfl dX12_mend_130 ?_
            refine z_aload_n F 0 dX12_mend_133 rfl rfl ?_
            refine z_get F 0 12 6 inlX12 rfl rfl (by decide) fl_X12_122 rfl dX12_mend_134 ?_
            refine z_iload_n F 1 dX12_mend_137 rfl rfl ?_
            refine z_iast F 2 (fun changeAt_19 => (w_M_mend G a_this a_height a_changeAt a_changeWas a_changeIs a_tape a_text a_names a_line a_row a_pastMany a_past a_changed a_greatest a_numbersWere a_told a_waysOf a_waysWere a_blocks a_ordersOf a_imageLine a_bodyKind a_trace a_shelf a_many a_items a_carried people keptMany (done - (1 : Int32)) tapeMany textMany base at_ ends fault opened lineMany rowMany taller tallerBy pasts isKept imageMany bodies ran ownKind ownNumber height changeAt_19 changeWas_17 changeIs_18)) rfl hf (fun _ => rfl) dX12_mend_138 (fun changeAt_19 hf => ?_)
            refine z_aload_n F 0 dX12_mend_139 rfl rfl ?_
            refine z_get F 0 12 3 inlX12 rfl rfl (by decide) fl_X12_16 rfl dX12_mend_140 ?_
            refine z_aload_n F 0 dX12_mend_143 rfl rfl ?_
            refine z_get F 0 12 6 inlX12 rfl rfl (by decide) fl_X12_122 rfl dX12_mend_144 ?_
            refine z_iload_n F 3 dX12_mend_147 rfl rfl ?_
            refine z_iast F 3 (fun changeWas_20 => (w_M_mend G a_this a_height a_changeAt a_changeWas a_changeIs a_tape a_text a_names a_line a_row a_pastMany a_past a_changed a_greatest a_numbersWere a_told a_waysOf a_waysWere a_blocks a_ordersOf a_imageLine a_bodyKind a_trace a_shelf a_many a_items a_carried people keptMany (done - (1 : Int32)) tapeMany textMany base at_ ends fault opened lineMany rowMany taller tallerBy pasts isKept imageMany bodies ran ownKind ownNumber height changeAt_19 changeWas_20 changeIs_18)) rfl hf (fun _ => rfl) dX12_mend_148 (fun changeWas_20 hf => ?_)
            refine z_aload_n F 0 dX12_mend_149 rfl rfl ?_
            refine z_get F 0 12 4 inlX12 rfl rfl (by decide) fl_X12_19 rfl dX12_mend_150 ?_
            refine z_aload_n F 0 dX12_mend_153 rfl rfl ?_
            refine z_get F 0 12 6 inlX12 rfl rfl (by decide) fl_X12_122 rfl dX12_mend_154 ?_
            refine z_iload_n F 2 dX12_mend_157 rfl rfl ?_
            refine z_iast F 4 (fun changeIs_21 => (w_M_mend G a_this a_height a_changeAt a_changeWas a_changeIs a_tape a_text a_names a_line a_row a_pastMany a_past a_changed a_greatest a_numbersWere a_told a_waysOf a_waysWere a_blocks a_ordersOf a_imageLine a_bodyKind a_trace a_shelf a_many a_items a_carried people keptMany (done - (1 : Int32)) tapeMany textMany base at_ ends fault opened lineMany rowMany taller tallerBy pasts isKept imageMany bodies ran ownKind ownNumber height changeAt_19 changeWas_20 changeIs_21)) rfl hf (fun _ => rfl) dX12_mend_158 (fun changeIs_21 hf => ?_)
            refine z_aload_n F 0 dX12_mend_159 rfl rfl ?_
            refine z_dup F rfl dX12_mend_160 ?_
            refine z_get F 0 12 6 inlX12 rfl rfl (by decide) fl_X12_122 rfl dX12_mend_161 ?_
            refine z_iconst F (1) dX12_mend_164 rfl ?_
            refine z_iadd F dX12_mend_165 ?_
            refine z_put F 0 12 6 (w_M_mend G a_this a_height a_changeAt a_changeWas a_changeIs a_tape a_text a_names a_line a_row a_pastMany a_past a_changed a_greatest a_numbersWere a_told a_waysOf a_waysWere a_blocks a_ordersOf a_imageLine a_bodyKind a_trace a_shelf a_many a_items a_carried people keptMany ((done - (1 : Int32)) + (1 : Int32)) tapeMany textMany base at_ ends fault opened lineMany rowMany taller tallerBy pasts isKept imageMany bodies ran ownKind ownNumber height changeAt_19 changeWas_20 changeIs_21) inlX12 tyX12 tyX12_ok nmX12 rfl rfl (by decide) fl_X12_122 rfl rfl rfl (Nat.le_of_ble_eq_true rfl) rfl dX12_mend_166 ?_
            refine z_aload_n F 0 dX12_mend_169 rfl rfl ?_
            refine z_aload_n F 0 dX12_mend_170 rfl rfl ?_
            refine z_get F 0 12 6 inlX12 rfl rfl (by decide) fl_X12_122 rfl dX12_mend_171 ?_
            refine z_put F 0 12 5 (w_M_mend G a_this a_height a_changeAt a_changeWas a_changeIs a_tape a_text a_names a_line a_row a_pastMany a_past a_changed a_greatest a_numbersWere a_told a_waysOf a_waysWere a_blocks a_ordersOf a_imageLine a_bodyKind a_trace a_shelf a_many a_items a_carried people ((done - (1 : Int32)) + (1 : Int32)) ((done - (1 : Int32)) + (1 : Int32)) tapeMany textMany base at_ ends fault opened lineMany rowMany taller tallerBy pasts isKept imageMany bodies ran ownKind ownNumber height changeAt_19 changeWas_20 changeIs_21) inlX12 tyX12 tyX12_ok nmX12 rfl rfl (by decide) fl_X12_125 rfl rfl rfl (Nat.le_of_ble_eq_true rfl) rfl dX12_mend_174 ?_
            refine z_aload_n F 0 dX12_mend_177 rfl rfl ?_
            refine z_get F 0 12 1 inlX12 rfl rfl (by decide) fl_X12_9 rfl dX12_mend_178 ?_
            refine z_iload_n F 1 dX12_mend_181 rfl rfl ?_
            refine z_iload_n F 2 dX12_mend_182 rfl rfl ?_
            refine z_iast F 1 (fun height_22 => (w_M_mend G a_this a_height a_changeAt a_changeWas a_changeIs a_tape a_text a_names a_line a_row a_pastMany a_past a_changed a_greatest a_numbersWere a_told a_waysOf a_waysWere a_blocks a_ordersOf a_imageLine a_bodyKind a_trace a_shelf a_many a_items a_carried people ((done - (1 : Int32)) + (1 : Int32)) ((done - (1 : Int32)) + (1 : Int32)) tapeMany textMany base at_ ends fault opened lineMany rowMany taller tallerBy pasts isKept imageMany bodies ran ownKind ownNumber height_22 changeAt_19 changeWas_20 changeIs_21)) rfl hf (fun _ => rfl) dX12_mend_183 (fun height_22 hf => ?_)
            refine z_iload_n F 3 dX12_mend_184 rfl rfl ?_
            have eq1 := Option.some.inj hf
            obtain ⟨ee1, eq2⟩ := Prod.mk.inj eq1
            obtain ⟨ee2, eq3⟩ := Prod.mk.inj eq2
            obtain ⟨ee3, eq4⟩ := Prod.mk.inj eq3
            obtain ⟨ee4, eq5⟩ := Prod.mk.inj eq4
            obtain ⟨ee5, eq6⟩ := Prod.mk.inj eq5
            obtain ⟨ee6, ee7⟩ := Prod.mk.inj eq6
            subst ee1
            subst ee2
            subst ee3
            subst ee4
            subst ee5
            subst ee6
            subst ee7
            exact z_iret F rfl rfl rfl rfl dX12_mend_185
        · refine z_iload_n F 0 dX12_mend_44 rfl rfl ?_
          have eq1 := Option.some.inj hf
          obtain ⟨ee1, eq2⟩ := Prod.mk.inj eq1
          obtain ⟨ee2, eq3⟩ := Prod.mk.inj eq2
          obtain ⟨ee3, eq4⟩ := Prod.mk.inj eq3
          obtain ⟨ee4, eq5⟩ := Prod.mk.inj eq4
          obtain ⟨ee5, eq6⟩ := Prod.mk.inj eq5
          obtain ⟨ee6, ee7⟩ := Prod.mk.inj eq6
          subst ee1
          subst ee2
          subst ee3
          subst ee4
          subst ee5
          subst ee6
          subst ee7
          exact z_iret F rfl rfl rfl rfl dX12_mend_45
      · refine z_iconst F (-1) dX12_mend_30 rfl ?_
        have eq1 := Option.some.inj hf
        obtain ⟨ee1, eq2⟩ := Prod.mk.inj eq1
        obtain ⟨ee2, eq3⟩ := Prod.mk.inj eq2
        obtain ⟨ee3, eq4⟩ := Prod.mk.inj eq3
        obtain ⟨ee4, eq5⟩ := Prod.mk.inj eq4
        obtain ⟨ee5, eq6⟩ := Prod.mk.inj eq5
        obtain ⟨ee6, ee7⟩ := Prod.mk.inj eq6
        subst ee1
        subst ee2
        subst ee3
        subst ee4
        subst ee5
        subst ee6
        subst ee7
        exact z_iret F rfl rfl rfl rfl dX12_mend_31

abbrev w_M_undo (G : zG) (a_this : Nat) (a_height : Nat) (a_changeAt : Nat) (a_changeWas : Nat) (a_changeIs : Nat) (a_tape : Nat) (a_text : Nat) (a_names : Nat) (a_line : Nat) (a_row : Nat) (a_pastMany : Nat) (a_past : Nat) (a_changed : Nat) (a_greatest : Nat) (a_numbersWere : Nat) (a_told : Nat) (a_waysOf : Nat) (a_waysWere : Nat) (a_blocks : Nat) (a_ordersOf : Nat) (a_imageLine : Nat) (a_bodyKind : Nat) (a_trace : Nat) (a_shelf : Nat) (a_many : Nat) (a_items : Nat) (a_carried : Nat) (people : Int32) (keptMany : Int32) (done : Int32) (tapeMany : Int32) (textMany : Int32) (base : Int32) (at_ : Int32) (ends : Int32) (fault : Int32) (opened : Int32) (lineMany : Int32) (rowMany : Int32) (taller : Int32) (tallerBy : Int32) (pasts : Int32) (isKept : Int32) (imageMany : Int32) (bodies : Int32) (ran : Int32) (ownKind : Int32) (ownNumber : Int32) (height : Nat → Int32) (changeAt : Nat → Int32) (changeWas : Nat → Int32) : va_W := [(a_this, cO 12 [.int people, .ref a_height, .ref a_changeAt, .ref a_changeWas, .ref a_changeIs, .int keptMany, .int done, .ref a_tape, .int tapeMany, .ref a_text, .int textMany, .int base, .int at_, .int ends, .int fault, .int opened, .ref a_names, .ref a_line, .int lineMany, .ref a_row, .int rowMany, .int taller, .int tallerBy, .ref a_pastMany, .ref a_past, .int pasts, .ref a_changed, .ref a_greatest, .ref a_numbersWere, .ref a_told, .ref a_waysOf, .ref a_waysWere, .ref a_blocks, .ref a_ordersOf, .int isKept, .int imageMany, .ref a_imageLine, .int bodies, .ref a_bodyKind, .ref a_trace, .int ran, .int ownKind, .int ownNumber, .ref a_shelf, .ref a_many, .ref a_items, .ref a_carried]), (a_height, cI G 9 height), (a_changeAt, cI G 40 changeAt), (a_changeWas, cI G 40 changeWas)]
def f_M_undo (people : Int32) (done : Int32) (height : Nat → Int32) (changeAt : Nat → Int32) (changeWas : Nat → Int32) : Option (Int32 × Int32 × (Nat → Int32)) := (if done = 0 then (some ((-5), done, height)) else (zg changeAt 40 (done - (1 : Int32)) fun v_1 => (zg changeWas 40 (done - (1 : Int32)) fun v_2 => (zb1 (f_M_isOthers people height v_1 (Int32.toInt64 v_2)) fun r_3 => (if r_3 = 0 then (zg changeAt 40 (done - (1 : Int32)) fun v_5 => (zg changeWas 40 (done - (1 : Int32)) fun v_6 => (zs height 9 v_5 v_6 fun height_7 => (some ((done - (1 : Int32)), (done - (1 : Int32)), height_7))))) else (some ((-5), done, height)))))))
set_option maxRecDepth 100000 in
set_option maxHeartbeats 4000000 in
theorem c_M_undo (l : Launch) (G : zG) (a_this : Nat) (a_height : Nat) (a_changeAt : Nat) (a_changeWas : Nat) (a_changeIs : Nat) (a_tape : Nat) (a_text : Nat) (a_names : Nat) (a_line : Nat) (a_row : Nat) (a_pastMany : Nat) (a_past : Nat) (a_changed : Nat) (a_greatest : Nat) (a_numbersWere : Nat) (a_told : Nat) (a_waysOf : Nat) (a_waysWere : Nat) (a_blocks : Nat) (a_ordersOf : Nat) (a_imageLine : Nat) (a_bodyKind : Nat) (a_trace : Nat) (a_shelf : Nat) (a_many : Nat) (a_items : Nat) (a_carried : Nat) (people : Int32) (keptMany : Int32) (done : Int32) (tapeMany : Int32) (textMany : Int32) (base : Int32) (at_ : Int32) (ends : Int32) (fault : Int32) (opened : Int32) (lineMany : Int32) (rowMany : Int32) (taller : Int32) (tallerBy : Int32) (pasts : Int32) (isKept : Int32) (imageMany : Int32) (bodies : Int32) (ran : Int32) (ownKind : Int32) (ownNumber : Int32) (height : Nat → Int32) (changeAt : Nat → Int32) (changeWas : Nat → Int32) (r_ : Int32) (o_done : Int32) (o_height : Nat → Int32) (hf : f_M_undo people done height changeAt changeWas = some (r_, o_done, o_height)) : zM l yX12_undo cX12_undo 1 (some .int) 1 24 G [.ref a_this] (w_M_undo G a_this a_height a_changeAt a_changeWas a_changeIs a_tape a_text a_names a_line a_row a_pastMany a_past a_changed a_greatest a_numbersWere a_told a_waysOf a_waysWere a_blocks a_ordersOf a_imageLine a_bodyKind a_trace a_shelf a_many a_items a_carried people keptMany done tapeMany textMany base at_ ends fault opened lineMany rowMany taller tallerBy pasts isKept imageMany bodies ran ownKind ownNumber height changeAt changeWas) (some (.int r_)) (w_M_undo G a_this a_height a_changeAt a_changeWas a_changeIs a_tape a_text a_names a_line a_row a_pastMany a_past a_changed a_greatest a_numbersWere a_told a_waysOf a_waysWere a_blocks a_ordersOf a_imageLine a_bodyKind a_trace a_shelf a_many a_items a_carried people keptMany o_done tapeMany textMany base at_ ends fault opened lineMany rowMany taller tallerBy pasts isKept imageMany bodies ran ownKind ownNumber o_height changeAt changeWas) := by
  refine zM.of [(0, .ref a_this)] (own := RX12) rfl (by decide +kernel) (Nat.le_of_ble_eq_true rfl) rfl rfl fun X hX F => ?_
  subst hX
  replace hf := (f_M_undo.eq_1 ..).symm.trans hf
  refine z_aload_n F 0 dX12_undo_0 rfl rfl ?_
  refine z_get F 0 12 6 inlX12 rfl rfl (by decide) fl_X12_122 rfl dX12_undo_1 ?_
  refine z_if_eq F 37 dX12_undo_4 (by decide) hf (fun hf _ => ?_) (fun hf _ => ?_)
  · refine z_bipush F (-5) dX12_undo_37 rfl ?_
    have eq1 := Option.some.inj hf
    obtain ⟨ee1, eq2⟩ := Prod.mk.inj eq1
    obtain ⟨ee2, ee3⟩ := Prod.mk.inj eq2
    subst ee1
    subst ee2
    subst ee3
    exact z_iret F rfl rfl rfl rfl dX12_undo_39
  · refine z_aload_n F 0 dX12_undo_7 rfl rfl ?_
    refine z_aload_n F 0 dX12_undo_8 rfl rfl ?_
    refine z_get F 0 12 2 inlX12 rfl rfl (by decide) fl_X12_13 rfl dX12_undo_9 ?_
    refine z_aload_n F 0 dX12_undo_12 rfl rfl ?_
    refine z_get F 0 12 6 inlX12 rfl rfl (by decide) fl_X12_122 rfl dX12_undo_13 ?_
    refine z_iconst F (1) dX12_undo_16 rfl ?_
    refine z_isub F dX12_undo_17 ?_
    refine z_iald F 2 rfl hf dX12_undo_18 (fun v_1 hf => ?_)
    refine z_aload_n F 0 dX12_undo_19 rfl rfl ?_
    refine z_get F 0 12 3 inlX12 rfl rfl (by decide) fl_X12_16 rfl dX12_undo_20 ?_
    refine z_aload_n F 0 dX12_undo_23 rfl rfl ?_
    refine z_get F 0 12 6 inlX12 rfl rfl (by decide) fl_X12_122 rfl dX12_undo_24 ?_
    refine z_iconst F (1) dX12_undo_27 rfl ?_
    refine z_isub F dX12_undo_28 ?_
    refine z_iald F 3 rfl hf dX12_undo_29 (fun v_2 hf => ?_)
    refine z_i2l F dX12_undo_30 ?_
    obtain ⟨r_3, hg, hf⟩ := zb1_some hf
    refine z_callVm (rest := []) F 12 (c_M_isOthers (xL X) G a_this a_height a_changeAt a_changeWas a_changeIs a_tape a_text a_names a_line a_row a_pastMany a_past a_changed a_greatest a_numbersWere a_told a_waysOf a_waysWere a_blocks a_ordersOf a_imageLine a_bodyKind a_trace a_shelf a_many a_items a_carried people keptMany done tapeMany textMany base at_ ends fault opened lineMany rowMany taller tallerBy pasts isKept imageMany bodies ran ownKind ownNumber height v_1 (Int32.toInt64 v_2) r_3 hg) hy_X12_isOthers ml_X12_105 hd_X12_isOthers ⟨by omega, by omega⟩ rfl [0, 1] rfl rfl 0 rfl rfl (w_M_undo G a_this a_height a_changeAt a_changeWas a_changeIs a_tape a_text a_names a_line a_row a_pastMany a_past a_changed a_greatest a_numbersWere a_told a_waysOf a_waysWere a_blocks a_ordersOf a_imageLine a_bodyKind a_trace a_shelf a_many a_items a_carried people keptMany done tapeMany textMany base at_ ends fault opened lineMany rowMany taller tallerBy pasts isKept imageMany bodies ran ownKind ownNumber height changeAt changeWas) [some 0, some 1, none, none] rfl (by decide +kernel) rfl rfl (Nat.le_of_ble_eq_true rfl) dX12_undo_31 (fun hz_4 => ?_)
    refine z_if_eq F 40 dX12_undo_34 (by decide) hf (fun hf _ => ?_) (fun hf _ => ?_)
    · refine z_aload_n F 0 dX12_undo_40 rfl rfl ?_
      refine z_dup F rfl dX12_undo_41 ?_
      refine z_get F 0 12 6 inlX12 rfl rfl (by decide) fl_X12_122 rfl dX12_undo_42 ?_
      refine z_iconst F (1) dX12_undo_45 rfl ?_
      refine z_isub F dX12_undo_46 ?_
      refine z_put F 0 12 6 (w_M_undo G a_this a_height a_changeAt a_changeWas a_changeIs a_tape a_text a_names a_line a_row a_pastMany a_past a_changed a_greatest a_numbersWere a_told a_waysOf a_waysWere a_blocks a_ordersOf a_imageLine a_bodyKind a_trace a_shelf a_many a_items a_carried people keptMany (done - (1 : Int32)) tapeMany textMany base at_ ends fault opened lineMany rowMany taller tallerBy pasts isKept imageMany bodies ran ownKind ownNumber height changeAt changeWas) inlX12 tyX12 tyX12_ok nmX12 rfl rfl (by decide) fl_X12_122 rfl rfl rfl (Nat.le_of_ble_eq_true rfl) rfl dX12_undo_47 ?_
      refine z_aload_n F 0 dX12_undo_50 rfl rfl ?_
      refine z_get F 0 12 1 inlX12 rfl rfl (by decide) fl_X12_9 rfl dX12_undo_51 ?_
      refine z_aload_n F 0 dX12_undo_54 rfl rfl ?_
      refine z_get F 0 12 2 inlX12 rfl rfl (by decide) fl_X12_13 rfl dX12_undo_55 ?_
      refine z_aload_n F 0 dX12_undo_58 rfl rfl ?_
      refine z_get F 0 12 6 inlX12 rfl rfl (by decide) fl_X12_122 rfl dX12_undo_59 ?_
      refine z_iald F 2 rfl hf dX12_undo_62 (fun v_5 hf => ?_)
      refine z_aload_n F 0 dX12_undo_63 rfl rfl ?_
      refine z_get F 0 12 3 inlX12 rfl rfl (by decide) fl_X12_16 rfl dX12_undo_64 ?_
      refine z_aload_n F 0 dX12_undo_67 rfl rfl ?_
      refine z_get F 0 12 6 inlX12 rfl rfl (by decide) fl_X12_122 rfl dX12_undo_68 ?_
      refine z_iald F 3 rfl hf dX12_undo_71 (fun v_6 hf => ?_)
      refine z_iast F 1 (fun height_7 => (w_M_undo G a_this a_height a_changeAt a_changeWas a_changeIs a_tape a_text a_names a_line a_row a_pastMany a_past a_changed a_greatest a_numbersWere a_told a_waysOf a_waysWere a_blocks a_ordersOf a_imageLine a_bodyKind a_trace a_shelf a_many a_items a_carried people keptMany (done - (1 : Int32)) tapeMany textMany base at_ ends fault opened lineMany rowMany taller tallerBy pasts isKept imageMany bodies ran ownKind ownNumber height_7 changeAt changeWas)) rfl hf (fun _ => rfl) dX12_undo_72 (fun height_7 hf => ?_)
      refine z_aload_n F 0 dX12_undo_73 rfl rfl ?_
      refine z_get F 0 12 6 inlX12 rfl rfl (by decide) fl_X12_122 rfl dX12_undo_74 ?_
      have eq1 := Option.some.inj hf
      obtain ⟨ee1, eq2⟩ := Prod.mk.inj eq1
      obtain ⟨ee2, ee3⟩ := Prod.mk.inj eq2
      subst ee1
      subst ee2
      subst ee3
      exact z_iret F rfl rfl rfl rfl dX12_undo_77
    · refine z_bipush F (-5) dX12_undo_37 rfl ?_
      have eq1 := Option.some.inj hf
      obtain ⟨ee1, eq2⟩ := Prod.mk.inj eq1
      obtain ⟨ee2, ee3⟩ := Prod.mk.inj eq2
      subst ee1
      subst ee2
      subst ee3
      exact z_iret F rfl rfl rfl rfl dX12_undo_39

abbrev w_M_redo (G : zG) (a_this : Nat) (a_height : Nat) (a_changeAt : Nat) (a_changeWas : Nat) (a_changeIs : Nat) (a_tape : Nat) (a_text : Nat) (a_names : Nat) (a_line : Nat) (a_row : Nat) (a_pastMany : Nat) (a_past : Nat) (a_changed : Nat) (a_greatest : Nat) (a_numbersWere : Nat) (a_told : Nat) (a_waysOf : Nat) (a_waysWere : Nat) (a_blocks : Nat) (a_ordersOf : Nat) (a_imageLine : Nat) (a_bodyKind : Nat) (a_trace : Nat) (a_shelf : Nat) (a_many : Nat) (a_items : Nat) (a_carried : Nat) (people : Int32) (keptMany : Int32) (done : Int32) (tapeMany : Int32) (textMany : Int32) (base : Int32) (at_ : Int32) (ends : Int32) (fault : Int32) (opened : Int32) (lineMany : Int32) (rowMany : Int32) (taller : Int32) (tallerBy : Int32) (pasts : Int32) (isKept : Int32) (imageMany : Int32) (bodies : Int32) (ran : Int32) (ownKind : Int32) (ownNumber : Int32) (height : Nat → Int32) (changeAt : Nat → Int32) (changeIs : Nat → Int32) : va_W := [(a_this, cO 12 [.int people, .ref a_height, .ref a_changeAt, .ref a_changeWas, .ref a_changeIs, .int keptMany, .int done, .ref a_tape, .int tapeMany, .ref a_text, .int textMany, .int base, .int at_, .int ends, .int fault, .int opened, .ref a_names, .ref a_line, .int lineMany, .ref a_row, .int rowMany, .int taller, .int tallerBy, .ref a_pastMany, .ref a_past, .int pasts, .ref a_changed, .ref a_greatest, .ref a_numbersWere, .ref a_told, .ref a_waysOf, .ref a_waysWere, .ref a_blocks, .ref a_ordersOf, .int isKept, .int imageMany, .ref a_imageLine, .int bodies, .ref a_bodyKind, .ref a_trace, .int ran, .int ownKind, .int ownNumber, .ref a_shelf, .ref a_many, .ref a_items, .ref a_carried]), (a_height, cI G 9 height), (a_changeAt, cI G 40 changeAt), (a_changeIs, cI G 40 changeIs)]
def f_M_redo (people : Int32) (keptMany : Int32) (done : Int32) (height : Nat → Int32) (changeAt : Nat → Int32) (changeIs : Nat → Int32) : Option (Int32 × Int32 × (Nat → Int32)) := (if done = keptMany then (some ((-5), done, height)) else (zg changeAt 40 done fun v_1 => (zg changeIs 40 done fun v_2 => (zb1 (f_M_isOthers people height v_1 (Int32.toInt64 v_2)) fun r_3 => (if r_3 = 0 then (zg changeAt 40 done fun v_5 => (zg changeIs 40 done fun v_6 => (zs height 9 v_5 v_6 fun height_7 => (some ((keptMany - (done + (1 : Int32))), (done + (1 : Int32)), height_7))))) else (some ((-5), done, height)))))))
set_option maxRecDepth 100000 in
set_option maxHeartbeats 4000000 in
theorem c_M_redo (l : Launch) (G : zG) (a_this : Nat) (a_height : Nat) (a_changeAt : Nat) (a_changeWas : Nat) (a_changeIs : Nat) (a_tape : Nat) (a_text : Nat) (a_names : Nat) (a_line : Nat) (a_row : Nat) (a_pastMany : Nat) (a_past : Nat) (a_changed : Nat) (a_greatest : Nat) (a_numbersWere : Nat) (a_told : Nat) (a_waysOf : Nat) (a_waysWere : Nat) (a_blocks : Nat) (a_ordersOf : Nat) (a_imageLine : Nat) (a_bodyKind : Nat) (a_trace : Nat) (a_shelf : Nat) (a_many : Nat) (a_items : Nat) (a_carried : Nat) (people : Int32) (keptMany : Int32) (done : Int32) (tapeMany : Int32) (textMany : Int32) (base : Int32) (at_ : Int32) (ends : Int32) (fault : Int32) (opened : Int32) (lineMany : Int32) (rowMany : Int32) (taller : Int32) (tallerBy : Int32) (pasts : Int32) (isKept : Int32) (imageMany : Int32) (bodies : Int32) (ran : Int32) (ownKind : Int32) (ownNumber : Int32) (height : Nat → Int32) (changeAt : Nat → Int32) (changeIs : Nat → Int32) (r_ : Int32) (o_done : Int32) (o_height : Nat → Int32) (hf : f_M_redo people keptMany done height changeAt changeIs = some (r_, o_done, o_height)) : zM l yX12_redo cX12_redo 1 (some .int) 1 24 G [.ref a_this] (w_M_redo G a_this a_height a_changeAt a_changeWas a_changeIs a_tape a_text a_names a_line a_row a_pastMany a_past a_changed a_greatest a_numbersWere a_told a_waysOf a_waysWere a_blocks a_ordersOf a_imageLine a_bodyKind a_trace a_shelf a_many a_items a_carried people keptMany done tapeMany textMany base at_ ends fault opened lineMany rowMany taller tallerBy pasts isKept imageMany bodies ran ownKind ownNumber height changeAt changeIs) (some (.int r_)) (w_M_redo G a_this a_height a_changeAt a_changeWas a_changeIs a_tape a_text a_names a_line a_row a_pastMany a_past a_changed a_greatest a_numbersWere a_told a_waysOf a_waysWere a_blocks a_ordersOf a_imageLine a_bodyKind a_trace a_shelf a_many a_items a_carried people keptMany o_done tapeMany textMany base at_ ends fault opened lineMany rowMany taller tallerBy pasts isKept imageMany bodies ran ownKind ownNumber o_height changeAt changeIs) := by
  refine zM.of [(0, .ref a_this)] (own := RX12) rfl (by decide +kernel) (Nat.le_of_ble_eq_true rfl) rfl rfl fun X hX F => ?_
  subst hX
  replace hf := (f_M_redo.eq_1 ..).symm.trans hf
  refine z_aload_n F 0 dX12_redo_0 rfl rfl ?_
  refine z_get F 0 12 6 inlX12 rfl rfl (by decide) fl_X12_122 rfl dX12_redo_1 ?_
  refine z_aload_n F 0 dX12_redo_4 rfl rfl ?_
  refine z_get F 0 12 5 inlX12 rfl rfl (by decide) fl_X12_125 rfl dX12_redo_5 ?_
  refine z_icmp_eq F 37 dX12_redo_8 (by decide) hf (fun hf _ => ?_) (fun hf _ => ?_)
  · refine z_bipush F (-5) dX12_redo_37 rfl ?_
    have eq1 := Option.some.inj hf
    obtain ⟨ee1, eq2⟩ := Prod.mk.inj eq1
    obtain ⟨ee2, ee3⟩ := Prod.mk.inj eq2
    subst ee1
    subst ee2
    subst ee3
    exact z_iret F rfl rfl rfl rfl dX12_redo_39
  · refine z_aload_n F 0 dX12_redo_11 rfl rfl ?_
    refine z_aload_n F 0 dX12_redo_12 rfl rfl ?_
    refine z_get F 0 12 2 inlX12 rfl rfl (by decide) fl_X12_13 rfl dX12_redo_13 ?_
    refine z_aload_n F 0 dX12_redo_16 rfl rfl ?_
    refine z_get F 0 12 6 inlX12 rfl rfl (by decide) fl_X12_122 rfl dX12_redo_17 ?_
    refine z_iald F 2 rfl hf dX12_redo_20 (fun v_1 hf => ?_)
    refine z_aload_n F 0 dX12_redo_21 rfl rfl ?_
    refine z_get F 0 12 4 inlX12 rfl rfl (by decide) fl_X12_19 rfl dX12_redo_22 ?_
    refine z_aload_n F 0 dX12_redo_25 rfl rfl ?_
    refine z_get F 0 12 6 inlX12 rfl rfl (by decide) fl_X12_122 rfl dX12_redo_26 ?_
    refine z_iald F 3 rfl hf dX12_redo_29 (fun v_2 hf => ?_)
    refine z_i2l F dX12_redo_30 ?_
    obtain ⟨r_3, hg, hf⟩ := zb1_some hf
    refine z_callVm (rest := []) F 12 (c_M_isOthers (xL X) G a_this a_height a_changeAt a_changeWas a_changeIs a_tape a_text a_names a_line a_row a_pastMany a_past a_changed a_greatest a_numbersWere a_told a_waysOf a_waysWere a_blocks a_ordersOf a_imageLine a_bodyKind a_trace a_shelf a_many a_items a_carried people keptMany done tapeMany textMany base at_ ends fault opened lineMany rowMany taller tallerBy pasts isKept imageMany bodies ran ownKind ownNumber height v_1 (Int32.toInt64 v_2) r_3 hg) hy_X12_isOthers ml_X12_105 hd_X12_isOthers ⟨by omega, by omega⟩ rfl [0, 1] rfl rfl 0 rfl rfl (w_M_redo G a_this a_height a_changeAt a_changeWas a_changeIs a_tape a_text a_names a_line a_row a_pastMany a_past a_changed a_greatest a_numbersWere a_told a_waysOf a_waysWere a_blocks a_ordersOf a_imageLine a_bodyKind a_trace a_shelf a_many a_items a_carried people keptMany done tapeMany textMany base at_ ends fault opened lineMany rowMany taller tallerBy pasts isKept imageMany bodies ran ownKind ownNumber height changeAt changeIs) [some 0, some 1, none, none] rfl (by decide +kernel) rfl rfl (Nat.le_of_ble_eq_true rfl) dX12_redo_31 (fun hz_4 => ?_)
    refine z_if_eq F 40 dX12_redo_34 (by decide) hf (fun hf _ => ?_) (fun hf _ => ?_)
    · refine z_aload_n F 0 dX12_redo_40 rfl rfl ?_
      refine z_get F 0 12 1 inlX12 rfl rfl (by decide) fl_X12_9 rfl dX12_redo_41 ?_
      refine z_aload_n F 0 dX12_redo_44 rfl rfl ?_
      refine z_get F 0 12 2 inlX12 rfl rfl (by decide) fl_X12_13 rfl dX12_redo_45 ?_
      refine z_aload_n F 0 dX12_redo_48 rfl rfl ?_
      refine z_get F 0 12 6 inlX12 rfl rfl (by decide) fl_X12_122 rfl dX12_redo_49 ?_
      refine z_iald F 2 rfl hf dX12_redo_52 (fun v_5 hf => ?_)
      refine z_aload_n F 0 dX12_redo_53 rfl rfl ?_
      refine z_get F 0 12 4 inlX12 rfl rfl (by decide) fl_X12_19 rfl dX12_redo_54 ?_
      refine z_aload_n F 0 dX12_redo_57 rfl rfl ?_
      refine z_get F 0 12 6 inlX12 rfl rfl (by decide) fl_X12_122 rfl dX12_redo_58 ?_
      refine z_iald F 3 rfl hf dX12_redo_61 (fun v_6 hf => ?_)
      refine z_iast F 1 (fun height_7 => (w_M_redo G a_this a_height a_changeAt a_changeWas a_changeIs a_tape a_text a_names a_line a_row a_pastMany a_past a_changed a_greatest a_numbersWere a_told a_waysOf a_waysWere a_blocks a_ordersOf a_imageLine a_bodyKind a_trace a_shelf a_many a_items a_carried people keptMany done tapeMany textMany base at_ ends fault opened lineMany rowMany taller tallerBy pasts isKept imageMany bodies ran ownKind ownNumber height_7 changeAt changeIs)) rfl hf (fun _ => rfl) dX12_redo_62 (fun height_7 hf => ?_)
      refine z_aload_n F 0 dX12_redo_63 rfl rfl ?_
      refine z_dup F rfl dX12_redo_64 ?_
      refine z_get F 0 12 6 inlX12 rfl rfl (by decide) fl_X12_122 rfl dX12_redo_65 ?_
      refine z_iconst F (1) dX12_redo_68 rfl ?_
      refine z_iadd F dX12_redo_69 ?_
      refine z_put F 0 12 6 (w_M_redo G a_this a_height a_changeAt a_changeWas a_changeIs a_tape a_text a_names a_line a_row a_pastMany a_past a_changed a_greatest a_numbersWere a_told a_waysOf a_waysWere a_blocks a_ordersOf a_imageLine a_bodyKind a_trace a_shelf a_many a_items a_carried people keptMany (done + (1 : Int32)) tapeMany textMany base at_ ends fault opened lineMany rowMany taller tallerBy pasts isKept imageMany bodies ran ownKind ownNumber height_7 changeAt changeIs) inlX12 tyX12 tyX12_ok nmX12 rfl rfl (by decide) fl_X12_122 rfl rfl rfl (Nat.le_of_ble_eq_true rfl) rfl dX12_redo_70 ?_
      refine z_aload_n F 0 dX12_redo_73 rfl rfl ?_
      refine z_get F 0 12 5 inlX12 rfl rfl (by decide) fl_X12_125 rfl dX12_redo_74 ?_
      refine z_aload_n F 0 dX12_redo_77 rfl rfl ?_
      refine z_get F 0 12 6 inlX12 rfl rfl (by decide) fl_X12_122 rfl dX12_redo_78 ?_
      refine z_isub F dX12_redo_81 ?_
      have eq1 := Option.some.inj hf
      obtain ⟨ee1, eq2⟩ := Prod.mk.inj eq1
      obtain ⟨ee2, ee3⟩ := Prod.mk.inj eq2
      subst ee1
      subst ee2
      subst ee3
      exact z_iret F rfl rfl rfl rfl dX12_redo_82
    · refine z_bipush F (-5) dX12_redo_37 rfl ?_
      have eq1 := Option.some.inj hf
      obtain ⟨ee1, eq2⟩ := Prod.mk.inj eq1
      obtain ⟨ee2, ee3⟩ := Prod.mk.inj eq2
      subst ee1
      subst ee2
      subst ee3
      exact z_iret F rfl rfl rfl rfl dX12_redo_39

abbrev w_M_feed (G : zG) (a_this : Nat) (a_height : Nat) (a_changeAt : Nat) (a_changeWas : Nat) (a_changeIs : Nat) (a_tape : Nat) (a_text : Nat) (a_names : Nat) (a_line : Nat) (a_row : Nat) (a_pastMany : Nat) (a_past : Nat) (a_changed : Nat) (a_greatest : Nat) (a_numbersWere : Nat) (a_told : Nat) (a_waysOf : Nat) (a_waysWere : Nat) (a_blocks : Nat) (a_ordersOf : Nat) (a_imageLine : Nat) (a_bodyKind : Nat) (a_trace : Nat) (a_shelf : Nat) (a_many : Nat) (a_items : Nat) (a_carried : Nat) (people : Int32) (keptMany : Int32) (done : Int32) (tapeMany : Int32) (textMany : Int32) (base : Int32) (at_ : Int32) (ends : Int32) (fault : Int32) (opened : Int32) (lineMany : Int32) (rowMany : Int32) (taller : Int32) (tallerBy : Int32) (pasts : Int32) (isKept : Int32) (imageMany : Int32) (bodies : Int32) (ran : Int32) (ownKind : Int32) (ownNumber : Int32) (tape : Nat → Int32) : va_W := [(a_this, cO 12 [.int people, .ref a_height, .ref a_changeAt, .ref a_changeWas, .ref a_changeIs, .int keptMany, .int done, .ref a_tape, .int tapeMany, .ref a_text, .int textMany, .int base, .int at_, .int ends, .int fault, .int opened, .ref a_names, .ref a_line, .int lineMany, .ref a_row, .int rowMany, .int taller, .int tallerBy, .ref a_pastMany, .ref a_past, .int pasts, .ref a_changed, .ref a_greatest, .ref a_numbersWere, .ref a_told, .ref a_waysOf, .ref a_waysWere, .ref a_blocks, .ref a_ordersOf, .int isKept, .int imageMany, .ref a_imageLine, .int bodies, .ref a_bodyKind, .ref a_trace, .int ran, .int ownKind, .int ownNumber, .ref a_shelf, .ref a_many, .ref a_items, .ref a_carried]), (a_tape, cI G 120 tape)]
def f_M_feed (tapeMany : Int32) (tape : Nat → Int32) (x1 : Int32) : Option (Int32 × Int32 × (Nat → Int32)) := (if (f_M_within (Int32.toInt64 x1) 0 255) = 0 then (some ((-1), tapeMany, tape)) else (if tapeMany = 120 then (some ((-3), tapeMany, tape)) else (zs tape 120 tapeMany x1 fun tape_2 => (some ((tapeMany + (1 : Int32)), (tapeMany + (1 : Int32)), tape_2)))))
set_option maxRecDepth 100000 in
set_option maxHeartbeats 4000000 in
theorem c_M_feed (l : Launch) (G : zG) (a_this : Nat) (a_height : Nat) (a_changeAt : Nat) (a_changeWas : Nat) (a_changeIs : Nat) (a_tape : Nat) (a_text : Nat) (a_names : Nat) (a_line : Nat) (a_row : Nat) (a_pastMany : Nat) (a_past : Nat) (a_changed : Nat) (a_greatest : Nat) (a_numbersWere : Nat) (a_told : Nat) (a_waysOf : Nat) (a_waysWere : Nat) (a_blocks : Nat) (a_ordersOf : Nat) (a_imageLine : Nat) (a_bodyKind : Nat) (a_trace : Nat) (a_shelf : Nat) (a_many : Nat) (a_items : Nat) (a_carried : Nat) (people : Int32) (keptMany : Int32) (done : Int32) (tapeMany : Int32) (textMany : Int32) (base : Int32) (at_ : Int32) (ends : Int32) (fault : Int32) (opened : Int32) (lineMany : Int32) (rowMany : Int32) (taller : Int32) (tallerBy : Int32) (pasts : Int32) (isKept : Int32) (imageMany : Int32) (bodies : Int32) (ran : Int32) (ownKind : Int32) (ownNumber : Int32) (tape : Nat → Int32) (x1 : Int32) (r_ : Int32) (o_tapeMany : Int32) (o_tape : Nat → Int32) (hf : f_M_feed tapeMany tape x1 = some (r_, o_tapeMany, o_tape)) : zM l yX12_feed cX12_feed 2 (some .int) 1 25 G [.ref a_this, .int x1] (w_M_feed G a_this a_height a_changeAt a_changeWas a_changeIs a_tape a_text a_names a_line a_row a_pastMany a_past a_changed a_greatest a_numbersWere a_told a_waysOf a_waysWere a_blocks a_ordersOf a_imageLine a_bodyKind a_trace a_shelf a_many a_items a_carried people keptMany done tapeMany textMany base at_ ends fault opened lineMany rowMany taller tallerBy pasts isKept imageMany bodies ran ownKind ownNumber tape) (some (.int r_)) (w_M_feed G a_this a_height a_changeAt a_changeWas a_changeIs a_tape a_text a_names a_line a_row a_pastMany a_past a_changed a_greatest a_numbersWere a_told a_waysOf a_waysWere a_blocks a_ordersOf a_imageLine a_bodyKind a_trace a_shelf a_many a_items a_carried people keptMany done o_tapeMany textMany base at_ ends fault opened lineMany rowMany taller tallerBy pasts isKept imageMany bodies ran ownKind ownNumber o_tape) := by
  refine zM.of [(0, .ref a_this), (1, .int x1)] (own := RX12) rfl (by decide +kernel) (Nat.le_of_ble_eq_true rfl) rfl rfl fun X hX F => ?_
  subst hX
  replace hf := (f_M_feed.eq_1 ..).symm.trans hf
  refine z_iload_n F 1 dX12_feed_0 rfl rfl ?_
  refine z_i2l F dX12_feed_1 ?_
  refine z_lconst F (0) dX12_feed_2 rfl ?_
  refine z_ldc2 F (255) (uw22 _ (List.mem_of_getElem? (i := 11) rfl)) dX12_feed_3 ?_
  refine z_callSm (rest := []) F (c_M_within (xL X) G (Int32.toInt64 x1) 0 255 _ rfl) hy_X12_within ml_X12_96 hd_X12_within ⟨by omega, by omega⟩ rfl [] rfl rfl (w_M_feed G a_this a_height a_changeAt a_changeWas a_changeIs a_tape a_text a_names a_line a_row a_pastMany a_past a_changed a_greatest a_numbersWere a_told a_waysOf a_waysWere a_blocks a_ordersOf a_imageLine a_bodyKind a_trace a_shelf a_many a_items a_carried people keptMany done tapeMany textMany base at_ ends fault opened lineMany rowMany taller tallerBy pasts isKept imageMany bodies ran ownKind ownNumber tape) [none, none] rfl (by decide +kernel) rfl rfl (Nat.le_of_ble_eq_true rfl) dX12_feed_6 (fun hz_1 => ?_)
  refine z_if_ne F 14 dX12_feed_9 (by decide) hf (fun hf _ => ?_) (fun hf _ => ?_)
  · refine z_aload_n F 0 dX12_feed_14 rfl rfl ?_
    refine z_get F 0 12 8 inlX12 rfl rfl (by decide) fl_X12_130 rfl dX12_feed_15 ?_
    refine z_bipush F (120) dX12_feed_18 rfl ?_
    refine z_icmp_ne F 26 dX12_feed_20 (by decide) hf (fun hf _ => ?_) (fun hf _ => ?_)
    · refine z_aload_n F 0 dX12_feed_26 rfl rfl ?_
      refine z_get F 0 12 7 inlX12 rfl rfl (by decide) fl_X12_22 rfl dX12_feed_27 ?_
      refine z_aload_n F 0 dX12_feed_30 rfl rfl ?_
      refine z_get F 0 12 8 inlX12 rfl rfl (by decide) fl_X12_130 rfl dX12_feed_31 ?_
      refine z_iload_n F 1 dX12_feed_34 rfl rfl ?_
      refine z_iast F 1 (fun tape_2 => (w_M_feed G a_this a_height a_changeAt a_changeWas a_changeIs a_tape a_text a_names a_line a_row a_pastMany a_past a_changed a_greatest a_numbersWere a_told a_waysOf a_waysWere a_blocks a_ordersOf a_imageLine a_bodyKind a_trace a_shelf a_many a_items a_carried people keptMany done tapeMany textMany base at_ ends fault opened lineMany rowMany taller tallerBy pasts isKept imageMany bodies ran ownKind ownNumber tape_2)) rfl hf (fun _ => rfl) dX12_feed_35 (fun tape_2 hf => ?_)
      refine z_aload_n F 0 dX12_feed_36 rfl rfl ?_
      refine z_dup F rfl dX12_feed_37 ?_
      refine z_get F 0 12 8 inlX12 rfl rfl (by decide) fl_X12_130 rfl dX12_feed_38 ?_
      refine z_iconst F (1) dX12_feed_41 rfl ?_
      refine z_iadd F dX12_feed_42 ?_
      refine z_put F 0 12 8 (w_M_feed G a_this a_height a_changeAt a_changeWas a_changeIs a_tape a_text a_names a_line a_row a_pastMany a_past a_changed a_greatest a_numbersWere a_told a_waysOf a_waysWere a_blocks a_ordersOf a_imageLine a_bodyKind a_trace a_shelf a_many a_items a_carried people keptMany done (tapeMany + (1 : Int32)) textMany base at_ ends fault opened lineMany rowMany taller tallerBy pasts isKept imageMany bodies ran ownKind ownNumber tape_2) inlX12 tyX12 tyX12_ok nmX12 rfl rfl (by decide) fl_X12_130 rfl rfl rfl (Nat.le_of_ble_eq_true rfl) rfl dX12_feed_43 ?_
      refine z_aload_n F 0 dX12_feed_46 rfl rfl ?_
      refine z_get F 0 12 8 inlX12 rfl rfl (by decide) fl_X12_130 rfl dX12_feed_47 ?_
      have eq1 := Option.some.inj hf
      obtain ⟨ee1, eq2⟩ := Prod.mk.inj eq1
      obtain ⟨ee2, ee3⟩ := Prod.mk.inj eq2
      subst ee1
      subst ee2
      subst ee3
      exact z_iret F rfl rfl rfl rfl dX12_feed_50
    · refine z_bipush F (-3) dX12_feed_23 rfl ?_
      have eq1 := Option.some.inj hf
      obtain ⟨ee1, eq2⟩ := Prod.mk.inj eq1
      obtain ⟨ee2, ee3⟩ := Prod.mk.inj eq2
      subst ee1
      subst ee2
      subst ee3
      exact z_iret F rfl rfl rfl rfl dX12_feed_25
  · refine z_iconst F (-1) dX12_feed_12 rfl ?_
    have eq1 := Option.some.inj hf
    obtain ⟨ee1, eq2⟩ := Prod.mk.inj eq1
    obtain ⟨ee2, ee3⟩ := Prod.mk.inj eq2
    subst ee1
    subst ee2
    subst ee3
    exact z_iret F rfl rfl rfl rfl dX12_feed_13

abbrev w_M_byteAt (G : zG) (a_this : Nat) (a_height : Nat) (a_changeAt : Nat) (a_changeWas : Nat) (a_changeIs : Nat) (a_tape : Nat) (a_text : Nat) (a_names : Nat) (a_line : Nat) (a_row : Nat) (a_pastMany : Nat) (a_past : Nat) (a_changed : Nat) (a_greatest : Nat) (a_numbersWere : Nat) (a_told : Nat) (a_waysOf : Nat) (a_waysWere : Nat) (a_blocks : Nat) (a_ordersOf : Nat) (a_imageLine : Nat) (a_bodyKind : Nat) (a_trace : Nat) (a_shelf : Nat) (a_many : Nat) (a_items : Nat) (a_carried : Nat) (people : Int32) (keptMany : Int32) (done : Int32) (tapeMany : Int32) (textMany : Int32) (base : Int32) (at_ : Int32) (ends : Int32) (fault : Int32) (opened : Int32) (lineMany : Int32) (rowMany : Int32) (taller : Int32) (tallerBy : Int32) (pasts : Int32) (isKept : Int32) (imageMany : Int32) (bodies : Int32) (ran : Int32) (ownKind : Int32) (ownNumber : Int32) (tape : Nat → Int32) (text : Nat → Int32) : va_W := [(a_this, cO 12 [.int people, .ref a_height, .ref a_changeAt, .ref a_changeWas, .ref a_changeIs, .int keptMany, .int done, .ref a_tape, .int tapeMany, .ref a_text, .int textMany, .int base, .int at_, .int ends, .int fault, .int opened, .ref a_names, .ref a_line, .int lineMany, .ref a_row, .int rowMany, .int taller, .int tallerBy, .ref a_pastMany, .ref a_past, .int pasts, .ref a_changed, .ref a_greatest, .ref a_numbersWere, .ref a_told, .ref a_waysOf, .ref a_waysWere, .ref a_blocks, .ref a_ordersOf, .int isKept, .int imageMany, .ref a_imageLine, .int bodies, .ref a_bodyKind, .ref a_trace, .int ran, .int ownKind, .int ownNumber, .ref a_shelf, .ref a_many, .ref a_items, .ref a_carried]), (a_tape, cI G 120 tape), (a_text, cI G 120 text)]
def f_M_byteAt (base : Int32) (at_ : Int32) (ends : Int32) (tape : Nat → Int32) (text : Nat → Int32) : Option Int32 := (if ends ≤ at_ then (some 0) else (if (0 : Int32) ≤ base then (zg text 120 (base + at_) fun v_1 => (some v_1)) else (zg tape 120 at_ fun v_2 => (some v_2))))
set_option maxRecDepth 100000 in
set_option maxHeartbeats 4000000 in
theorem c_M_byteAt (l : Launch) (G : zG) (a_this : Nat) (a_height : Nat) (a_changeAt : Nat) (a_changeWas : Nat) (a_changeIs : Nat) (a_tape : Nat) (a_text : Nat) (a_names : Nat) (a_line : Nat) (a_row : Nat) (a_pastMany : Nat) (a_past : Nat) (a_changed : Nat) (a_greatest : Nat) (a_numbersWere : Nat) (a_told : Nat) (a_waysOf : Nat) (a_waysWere : Nat) (a_blocks : Nat) (a_ordersOf : Nat) (a_imageLine : Nat) (a_bodyKind : Nat) (a_trace : Nat) (a_shelf : Nat) (a_many : Nat) (a_items : Nat) (a_carried : Nat) (people : Int32) (keptMany : Int32) (done : Int32) (tapeMany : Int32) (textMany : Int32) (base : Int32) (at_ : Int32) (ends : Int32) (fault : Int32) (opened : Int32) (lineMany : Int32) (rowMany : Int32) (taller : Int32) (tallerBy : Int32) (pasts : Int32) (isKept : Int32) (imageMany : Int32) (bodies : Int32) (ran : Int32) (ownKind : Int32) (ownNumber : Int32) (tape : Nat → Int32) (text : Nat → Int32) (r_ : Int32) (hf : f_M_byteAt base at_ ends tape text = some r_) : zM l yX12_byteAt cX12_byteAt 1 (some .int) 0 0 G [.ref a_this] (w_M_byteAt G a_this a_height a_changeAt a_changeWas a_changeIs a_tape a_text a_names a_line a_row a_pastMany a_past a_changed a_greatest a_numbersWere a_told a_waysOf a_waysWere a_blocks a_ordersOf a_imageLine a_bodyKind a_trace a_shelf a_many a_items a_carried people keptMany done tapeMany textMany base at_ ends fault opened lineMany rowMany taller tallerBy pasts isKept imageMany bodies ran ownKind ownNumber tape text) (some (.int r_)) (w_M_byteAt G a_this a_height a_changeAt a_changeWas a_changeIs a_tape a_text a_names a_line a_row a_pastMany a_past a_changed a_greatest a_numbersWere a_told a_waysOf a_waysWere a_blocks a_ordersOf a_imageLine a_bodyKind a_trace a_shelf a_many a_items a_carried people keptMany done tapeMany textMany base at_ ends fault opened lineMany rowMany taller tallerBy pasts isKept imageMany bodies ran ownKind ownNumber tape text) := by
  refine zM.of [(0, .ref a_this)] (own := RX12) rfl (by decide +kernel) (Nat.le_of_ble_eq_true rfl) rfl rfl fun X hX F => ?_
  subst hX
  replace hf := (f_M_byteAt.eq_1 ..).symm.trans hf
  refine z_aload_n F 0 dX12_byteAt_0 rfl rfl ?_
  refine z_get F 0 12 12 inlX12 rfl rfl (by decide) fl_X12_133 rfl dX12_byteAt_1 ?_
  refine z_aload_n F 0 dX12_byteAt_4 rfl rfl ?_
  refine z_get F 0 12 13 inlX12 rfl rfl (by decide) fl_X12_136 rfl dX12_byteAt_5 ?_
  refine z_icmp_ge F 47 dX12_byteAt_8 (by decide) hf (fun hf _ => ?_) (fun hf _ => ?_)
  · refine z_iconst F (0) dX12_byteAt_47 rfl ?_
    have ee1 := Option.some.inj hf
    subst ee1
    exact z_iret F rfl rfl rfl rfl dX12_byteAt_48
  · refine z_aload_n F 0 dX12_byteAt_11 rfl rfl ?_
    refine z_get F 0 12 11 inlX12 rfl rfl (by decide) fl_X12_139 rfl dX12_byteAt_12 ?_
    refine z_if_ge F 30 dX12_byteAt_15 (by decide) hf (fun hf _ => ?_) (fun hf _ => ?_)
    · refine z_aload_n F 0 dX12_byteAt_30 rfl rfl ?_
      refine z_get F 0 12 9 inlX12 rfl rfl (by decide) fl_X12_25 rfl dX12_byteAt_31 ?_
      refine z_aload_n F 0 dX12_byteAt_34 rfl rfl ?_
      refine z_get F 0 12 11 inlX12 rfl rfl (by decide) fl_X12_139 rfl dX12_byteAt_35 ?_
      refine z_aload_n F 0 dX12_byteAt_38 rfl rfl ?_
      refine z_get F 0 12 12 inlX12 rfl rfl (by decide) fl_X12_133 rfl dX12_byteAt_39 ?_
      refine z_iadd F dX12_byteAt_42 ?_
      refine z_iald F 2 rfl hf dX12_byteAt_43 (fun v_1 hf => ?_)
      refine z_goto F 48 dX12_byteAt_44 (by decide) ?_
      have ee1 := Option.some.inj hf
      subst ee1
      exact z_iret F rfl rfl rfl rfl dX12_byteAt_48
    · refine z_aload_n F 0 dX12_byteAt_18 rfl rfl ?_
      refine z_get F 0 12 7 inlX12 rfl rfl (by decide) fl_X12_22 rfl dX12_byteAt_19 ?_
      refine z_aload_n F 0 dX12_byteAt_22 rfl rfl ?_
      refine z_get F 0 12 12 inlX12 rfl rfl (by decide) fl_X12_133 rfl dX12_byteAt_23 ?_
      refine z_iald F 1 rfl hf dX12_byteAt_26 (fun v_2 hf => ?_)
      refine z_goto F 48 dX12_byteAt_27 (by decide) ?_
      have ee1 := Option.some.inj hf
      subst ee1
      exact z_iret F rfl rfl rfl rfl dX12_byteAt_48

abbrev w_M_wrong (G : zG) (a_this : Nat) (a_height : Nat) (a_changeAt : Nat) (a_changeWas : Nat) (a_changeIs : Nat) (a_tape : Nat) (a_text : Nat) (a_names : Nat) (a_line : Nat) (a_row : Nat) (a_pastMany : Nat) (a_past : Nat) (a_changed : Nat) (a_greatest : Nat) (a_numbersWere : Nat) (a_told : Nat) (a_waysOf : Nat) (a_waysWere : Nat) (a_blocks : Nat) (a_ordersOf : Nat) (a_imageLine : Nat) (a_bodyKind : Nat) (a_trace : Nat) (a_shelf : Nat) (a_many : Nat) (a_items : Nat) (a_carried : Nat) (people : Int32) (keptMany : Int32) (done : Int32) (tapeMany : Int32) (textMany : Int32) (base : Int32) (at_ : Int32) (ends : Int32) (fault : Int32) (opened : Int32) (lineMany : Int32) (rowMany : Int32) (taller : Int32) (tallerBy : Int32) (pasts : Int32) (isKept : Int32) (imageMany : Int32) (bodies : Int32) (ran : Int32) (ownKind : Int32) (ownNumber : Int32) : va_W := [(a_this, cO 12 [.int people, .ref a_height, .ref a_changeAt, .ref a_changeWas, .ref a_changeIs, .int keptMany, .int done, .ref a_tape, .int tapeMany, .ref a_text, .int textMany, .int base, .int at_, .int ends, .int fault, .int opened, .ref a_names, .ref a_line, .int lineMany, .ref a_row, .int rowMany, .int taller, .int tallerBy, .ref a_pastMany, .ref a_past, .int pasts, .ref a_changed, .ref a_greatest, .ref a_numbersWere, .ref a_told, .ref a_waysOf, .ref a_waysWere, .ref a_blocks, .ref a_ordersOf, .int isKept, .int imageMany, .ref a_imageLine, .int bodies, .ref a_bodyKind, .ref a_trace, .int ran, .int ownKind, .int ownNumber, .ref a_shelf, .ref a_many, .ref a_items, .ref a_carried])]
def f_M_wrong (at_ : Int32) (fault : Int32) : Option (Int32 × Int32) := (if (0 : Int32) ≤ fault then (some (0, fault)) else (some (0, at_)))
set_option maxRecDepth 100000 in
set_option maxHeartbeats 4000000 in
theorem c_M_wrong (l : Launch) (G : zG) (a_this : Nat) (a_height : Nat) (a_changeAt : Nat) (a_changeWas : Nat) (a_changeIs : Nat) (a_tape : Nat) (a_text : Nat) (a_names : Nat) (a_line : Nat) (a_row : Nat) (a_pastMany : Nat) (a_past : Nat) (a_changed : Nat) (a_greatest : Nat) (a_numbersWere : Nat) (a_told : Nat) (a_waysOf : Nat) (a_waysWere : Nat) (a_blocks : Nat) (a_ordersOf : Nat) (a_imageLine : Nat) (a_bodyKind : Nat) (a_trace : Nat) (a_shelf : Nat) (a_many : Nat) (a_items : Nat) (a_carried : Nat) (people : Int32) (keptMany : Int32) (done : Int32) (tapeMany : Int32) (textMany : Int32) (base : Int32) (at_ : Int32) (ends : Int32) (fault : Int32) (opened : Int32) (lineMany : Int32) (rowMany : Int32) (taller : Int32) (tallerBy : Int32) (pasts : Int32) (isKept : Int32) (imageMany : Int32) (bodies : Int32) (ran : Int32) (ownKind : Int32) (ownNumber : Int32) (r_ : Int32) (o_fault : Int32) (hf : f_M_wrong at_ fault = some (r_, o_fault)) : zM l yX12_wrong cX12_wrong 1 (some .int) 0 0 G [.ref a_this] (w_M_wrong G a_this a_height a_changeAt a_changeWas a_changeIs a_tape a_text a_names a_line a_row a_pastMany a_past a_changed a_greatest a_numbersWere a_told a_waysOf a_waysWere a_blocks a_ordersOf a_imageLine a_bodyKind a_trace a_shelf a_many a_items a_carried people keptMany done tapeMany textMany base at_ ends fault opened lineMany rowMany taller tallerBy pasts isKept imageMany bodies ran ownKind ownNumber) (some (.int r_)) (w_M_wrong G a_this a_height a_changeAt a_changeWas a_changeIs a_tape a_text a_names a_line a_row a_pastMany a_past a_changed a_greatest a_numbersWere a_told a_waysOf a_waysWere a_blocks a_ordersOf a_imageLine a_bodyKind a_trace a_shelf a_many a_items a_carried people keptMany done tapeMany textMany base at_ ends o_fault opened lineMany rowMany taller tallerBy pasts isKept imageMany bodies ran ownKind ownNumber) := by
  refine zM.of [(0, .ref a_this)] (own := RX12) rfl (by decide +kernel) (Nat.le_of_ble_eq_true rfl) rfl rfl fun X hX F => ?_
  subst hX
  replace hf := (f_M_wrong.eq_1 ..).symm.trans hf
  refine z_aload_n F 0 dX12_wrong_0 rfl rfl ?_
  refine z_aload_n F 0 dX12_wrong_1 rfl rfl ?_
  refine z_get F 0 12 14 inlX12 rfl rfl (by decide) fl_X12_142 rfl dX12_wrong_2 ?_
  refine z_if_ge F 15 dX12_wrong_5 (by decide) hf (fun hf _ => ?_) (fun hf _ => ?_)
  · refine z_aload_n F 0 dX12_wrong_15 rfl rfl ?_
    refine z_get F 0 12 14 inlX12 rfl rfl (by decide) fl_X12_142 rfl dX12_wrong_16 ?_
    refine z_put F 0 12 14 (w_M_wrong G a_this a_height a_changeAt a_changeWas a_changeIs a_tape a_text a_names a_line a_row a_pastMany a_past a_changed a_greatest a_numbersWere a_told a_waysOf a_waysWere a_blocks a_ordersOf a_imageLine a_bodyKind a_trace a_shelf a_many a_items a_carried people keptMany done tapeMany textMany base at_ ends fault opened lineMany rowMany taller tallerBy pasts isKept imageMany bodies ran ownKind ownNumber) inlX12 tyX12 tyX12_ok nmX12 rfl rfl (by decide) fl_X12_142 rfl rfl rfl (Nat.le_of_ble_eq_true rfl) rfl dX12_wrong_19 ?_
    refine z_iconst F (0) dX12_wrong_22 rfl ?_
    have eq1 := Option.some.inj hf
    obtain ⟨ee1, ee2⟩ := Prod.mk.inj eq1
    subst ee1
    subst ee2
    exact z_iret F rfl rfl rfl rfl dX12_wrong_23
  · refine z_aload_n F 0 dX12_wrong_8 rfl rfl ?_
    refine z_get F 0 12 12 inlX12 rfl rfl (by decide) fl_X12_133 rfl dX12_wrong_9 ?_
    refine z_goto F 19 dX12_wrong_12 (by decide) ?_
    refine z_put F 0 12 14 (w_M_wrong G a_this a_height a_changeAt a_changeWas a_changeIs a_tape a_text a_names a_line a_row a_pastMany a_past a_changed a_greatest a_numbersWere a_told a_waysOf a_waysWere a_blocks a_ordersOf a_imageLine a_bodyKind a_trace a_shelf a_many a_items a_carried people keptMany done tapeMany textMany base at_ ends at_ opened lineMany rowMany taller tallerBy pasts isKept imageMany bodies ran ownKind ownNumber) inlX12 tyX12 tyX12_ok nmX12 rfl rfl (by decide) fl_X12_142 rfl rfl rfl (Nat.le_of_ble_eq_true rfl) rfl dX12_wrong_19 ?_
    refine z_iconst F (0) dX12_wrong_22 rfl ?_
    have eq1 := Option.some.inj hf
    obtain ⟨ee1, ee2⟩ := Prod.mk.inj eq1
    subst ee1
    subst ee2
    exact z_iret F rfl rfl rfl rfl dX12_wrong_23

abbrev w_M_takes (G : zG) (a_this : Nat) (a_height : Nat) (a_changeAt : Nat) (a_changeWas : Nat) (a_changeIs : Nat) (a_tape : Nat) (a_text : Nat) (a_names : Nat) (a_line : Nat) (a_row : Nat) (a_pastMany : Nat) (a_past : Nat) (a_changed : Nat) (a_greatest : Nat) (a_numbersWere : Nat) (a_told : Nat) (a_waysOf : Nat) (a_waysWere : Nat) (a_blocks : Nat) (a_ordersOf : Nat) (a_imageLine : Nat) (a_bodyKind : Nat) (a_trace : Nat) (a_shelf : Nat) (a_many : Nat) (a_items : Nat) (a_carried : Nat) (people : Int32) (keptMany : Int32) (done : Int32) (tapeMany : Int32) (textMany : Int32) (base : Int32) (at_ : Int32) (ends : Int32) (fault : Int32) (opened : Int32) (lineMany : Int32) (rowMany : Int32) (taller : Int32) (tallerBy : Int32) (pasts : Int32) (isKept : Int32) (imageMany : Int32) (bodies : Int32) (ran : Int32) (ownKind : Int32) (ownNumber : Int32) (tape : Nat → Int32) (text : Nat → Int32) : va_W := [(a_this, cO 12 [.int people, .ref a_height, .ref a_changeAt, .ref a_changeWas, .ref a_changeIs, .int keptMany, .int done, .ref a_tape, .int tapeMany, .ref a_text, .int textMany, .int base, .int at_, .int ends, .int fault, .int opened, .ref a_names, .ref a_line, .int lineMany, .ref a_row, .int rowMany, .int taller, .int tallerBy, .ref a_pastMany, .ref a_past, .int pasts, .ref a_changed, .ref a_greatest, .ref a_numbersWere, .ref a_told, .ref a_waysOf, .ref a_waysWere, .ref a_blocks, .ref a_ordersOf, .int isKept, .int imageMany, .ref a_imageLine, .int bodies, .ref a_bodyKind, .ref a_trace, .int ran, .int ownKind, .int ownNumber, .ref a_shelf, .ref a_many, .ref a_items, .ref a_carried]), (a_tape, cI G 120 tape), (a_text, cI G 120 text)]
def f_M_takes (base : Int32) (at_ : Int32) (ends : Int32) (fault : Int32) (tape : Nat → Int32) (text : Nat → Int32) (x1 : Int32) : Option (Int32 × Int32) := (if (0 : Int32) ≤ fault then (some (0, at_)) else (zb1 (f_M_byteAt base at_ ends tape text) fun r_1 => (if r_1 = x1 then (some (1, (at_ + (1 : Int32)))) else (some (0, at_)))))
set_option maxRecDepth 100000 in
set_option maxHeartbeats 4000000 in
theorem c_M_takes (l : Launch) (G : zG) (a_this : Nat) (a_height : Nat) (a_changeAt : Nat) (a_changeWas : Nat) (a_changeIs : Nat) (a_tape : Nat) (a_text : Nat) (a_names : Nat) (a_line : Nat) (a_row : Nat) (a_pastMany : Nat) (a_past : Nat) (a_changed : Nat) (a_greatest : Nat) (a_numbersWere : Nat) (a_told : Nat) (a_waysOf : Nat) (a_waysWere : Nat) (a_blocks : Nat) (a_ordersOf : Nat) (a_imageLine : Nat) (a_bodyKind : Nat) (a_trace : Nat) (a_shelf : Nat) (a_many : Nat) (a_items : Nat) (a_carried : Nat) (people : Int32) (keptMany : Int32) (done : Int32) (tapeMany : Int32) (textMany : Int32) (base : Int32) (at_ : Int32) (ends : Int32) (fault : Int32) (opened : Int32) (lineMany : Int32) (rowMany : Int32) (taller : Int32) (tallerBy : Int32) (pasts : Int32) (isKept : Int32) (imageMany : Int32) (bodies : Int32) (ran : Int32) (ownKind : Int32) (ownNumber : Int32) (tape : Nat → Int32) (text : Nat → Int32) (x1 : Int32) (r_ : Int32) (o_at_ : Int32) (hf : f_M_takes base at_ ends fault tape text x1 = some (r_, o_at_)) : zM l yX12_takes cX12_takes 2 (some .boolean) 1 20 G [.ref a_this, .int x1] (w_M_takes G a_this a_height a_changeAt a_changeWas a_changeIs a_tape a_text a_names a_line a_row a_pastMany a_past a_changed a_greatest a_numbersWere a_told a_waysOf a_waysWere a_blocks a_ordersOf a_imageLine a_bodyKind a_trace a_shelf a_many a_items a_carried people keptMany done tapeMany textMany base at_ ends fault opened lineMany rowMany taller tallerBy pasts isKept imageMany bodies ran ownKind ownNumber tape text) (some (.int r_)) (w_M_takes G a_this a_height a_changeAt a_changeWas a_changeIs a_tape a_text a_names a_line a_row a_pastMany a_past a_changed a_greatest a_numbersWere a_told a_waysOf a_waysWere a_blocks a_ordersOf a_imageLine a_bodyKind a_trace a_shelf a_many a_items a_carried people keptMany done tapeMany textMany base o_at_ ends fault opened lineMany rowMany taller tallerBy pasts isKept imageMany bodies ran ownKind ownNumber tape text) := by
  refine zM.of [(0, .ref a_this), (1, .int x1)] (own := RX12) rfl (by decide +kernel) (Nat.le_of_ble_eq_true rfl) rfl rfl fun X hX F => ?_
  subst hX
  replace hf := (f_M_takes.eq_1 ..).symm.trans hf
  refine z_aload_n F 0 dX12_takes_0 rfl rfl ?_
  refine z_get F 0 12 14 inlX12 rfl rfl (by decide) fl_X12_142 rfl dX12_takes_1 ?_
  refine z_if_ge F 15 dX12_takes_4 (by decide) hf (fun hf _ => ?_) (fun hf _ => ?_)
  · refine z_iconst F (0) dX12_takes_15 rfl ?_
    have eq1 := Option.some.inj hf
    obtain ⟨ee1, ee2⟩ := Prod.mk.inj eq1
    subst ee1
    subst ee2
    exact z_iret F rfl rfl rfl rfl dX12_takes_16
  · refine z_aload_n F 0 dX12_takes_7 rfl rfl ?_
    obtain ⟨r_1, hg, hf⟩ := zb1_some hf
    refine z_callVm (rest := []) F 12 (c_M_byteAt (xL X) G a_this a_height a_changeAt a_changeWas a_changeIs a_tape a_text a_names a_line a_row a_pastMany a_past a_changed a_greatest a_numbersWere a_told a_waysOf a_waysWere a_blocks a_ordersOf a_imageLine a_bodyKind a_trace a_shelf a_many a_items a_carried people keptMany done tapeMany textMany base at_ ends fault opened lineMany rowMany taller tallerBy pasts isKept imageMany bodies ran ownKind ownNumber tape text r_1 hg) hy_X12_byteAt ml_X12_145 hd_X12_byteAt ⟨by omega, by omega⟩ rfl [0, 1, 2] rfl rfl 0 rfl rfl (w_M_takes G a_this a_height a_changeAt a_changeWas a_changeIs a_tape a_text a_names a_line a_row a_pastMany a_past a_changed a_greatest a_numbersWere a_told a_waysOf a_waysWere a_blocks a_ordersOf a_imageLine a_bodyKind a_trace a_shelf a_many a_items a_carried people keptMany done tapeMany textMany base at_ ends fault opened lineMany rowMany taller tallerBy pasts isKept imageMany bodies ran ownKind ownNumber tape text) [some 0, some 1, some 2] rfl (by decide +kernel) rfl rfl (Nat.le_of_ble_eq_true rfl) dX12_takes_8 (fun hz_2 => ?_)
    refine z_iload_n F 1 dX12_takes_11 rfl rfl ?_
    refine z_icmp_eq F 17 dX12_takes_12 (by decide) hf (fun hf _ => ?_) (fun hf _ => ?_)
    · refine z_aload_n F 0 dX12_takes_17 rfl rfl ?_
      refine z_dup F rfl dX12_takes_18 ?_
      refine z_get F 0 12 12 inlX12 rfl rfl (by decide) fl_X12_133 rfl dX12_takes_19 ?_
      refine z_iconst F (1) dX12_takes_22 rfl ?_
      refine z_iadd F dX12_takes_23 ?_
      refine z_put F 0 12 12 (w_M_takes G a_this a_height a_changeAt a_changeWas a_changeIs a_tape a_text a_names a_line a_row a_pastMany a_past a_changed a_greatest a_numbersWere a_told a_waysOf a_waysWere a_blocks a_ordersOf a_imageLine a_bodyKind a_trace a_shelf a_many a_items a_carried people keptMany done tapeMany textMany base (at_ + (1 : Int32)) ends fault opened lineMany rowMany taller tallerBy pasts isKept imageMany bodies ran ownKind ownNumber tape text) inlX12 tyX12 tyX12_ok nmX12 rfl rfl (by decide) fl_X12_133 rfl rfl rfl (Nat.le_of_ble_eq_true rfl) rfl dX12_takes_24 ?_
      refine z_iconst F (1) dX12_takes_27 rfl ?_
      have eq1 := Option.some.inj hf
      obtain ⟨ee1, ee2⟩ := Prod.mk.inj eq1
      subst ee1
      subst ee2
      exact z_iret F rfl rfl rfl rfl dX12_takes_28
    · refine z_iconst F (0) dX12_takes_15 rfl ?_
      have eq1 := Option.some.inj hf
      obtain ⟨ee1, ee2⟩ := Prod.mk.inj eq1
      subst ee1
      subst ee2
      exact z_iret F rfl rfl rfl rfl dX12_takes_16

abbrev w_M_one (G : zG) (a_this : Nat) (a_height : Nat) (a_changeAt : Nat) (a_changeWas : Nat) (a_changeIs : Nat) (a_tape : Nat) (a_text : Nat) (a_names : Nat) (a_line : Nat) (a_row : Nat) (a_pastMany : Nat) (a_past : Nat) (a_changed : Nat) (a_greatest : Nat) (a_numbersWere : Nat) (a_told : Nat) (a_waysOf : Nat) (a_waysWere : Nat) (a_blocks : Nat) (a_ordersOf : Nat) (a_imageLine : Nat) (a_bodyKind : Nat) (a_trace : Nat) (a_shelf : Nat) (a_many : Nat) (a_items : Nat) (a_carried : Nat) (people : Int32) (keptMany : Int32) (done : Int32) (tapeMany : Int32) (textMany : Int32) (base : Int32) (at_ : Int32) (ends : Int32) (fault : Int32) (opened : Int32) (lineMany : Int32) (rowMany : Int32) (taller : Int32) (tallerBy : Int32) (pasts : Int32) (isKept : Int32) (imageMany : Int32) (bodies : Int32) (ran : Int32) (ownKind : Int32) (ownNumber : Int32) (tape : Nat → Int32) (text : Nat → Int32) (names : Nat → Int32) : va_W := [(a_this, cO 12 [.int people, .ref a_height, .ref a_changeAt, .ref a_changeWas, .ref a_changeIs, .int keptMany, .int done, .ref a_tape, .int tapeMany, .ref a_text, .int textMany, .int base, .int at_, .int ends, .int fault, .int opened, .ref a_names, .ref a_line, .int lineMany, .ref a_row, .int rowMany, .int taller, .int tallerBy, .ref a_pastMany, .ref a_past, .int pasts, .ref a_changed, .ref a_greatest, .ref a_numbersWere, .ref a_told, .ref a_waysOf, .ref a_waysWere, .ref a_blocks, .ref a_ordersOf, .int isKept, .int imageMany, .ref a_imageLine, .int bodies, .ref a_bodyKind, .ref a_trace, .int ran, .int ownKind, .int ownNumber, .ref a_shelf, .ref a_many, .ref a_items, .ref a_carried]), (a_tape, cI G 120 tape), (a_text, cI G 120 text), (a_names, cI G 5 names)]
def K_M_one (l : Launch) (G : zG) (a_this : Nat) (a_height : Nat) (a_changeAt : Nat) (a_changeWas : Nat) (a_changeIs : Nat) (a_tape : Nat) (a_text : Nat) (a_names : Nat) (a_line : Nat) (a_row : Nat) (a_pastMany : Nat) (a_past : Nat) (a_changed : Nat) (a_greatest : Nat) (a_numbersWere : Nat) (a_told : Nat) (a_waysOf : Nat) (a_waysWere : Nat) (a_blocks : Nat) (a_ordersOf : Nat) (a_imageLine : Nat) (a_bodyKind : Nat) (a_trace : Nat) (a_shelf : Nat) (a_many : Nat) (a_items : Nat) (a_carried : Nat) (fr1 lo1 : Nat) (rec : Int32 → Int32 → Int32 → Int32 → Int32 → (Nat → Int32) → (Nat → Int32) → (Nat → Int32) → Option (Int32 × Int32 × Int32 × Int32)) : Prop := ∀ (people : Int32) (keptMany : Int32) (done : Int32) (tapeMany : Int32) (textMany : Int32) (base : Int32) (at_ : Int32) (ends : Int32) (fault : Int32) (opened : Int32) (lineMany : Int32) (rowMany : Int32) (taller : Int32) (tallerBy : Int32) (pasts : Int32) (isKept : Int32) (imageMany : Int32) (bodies : Int32) (ran : Int32) (ownKind : Int32) (ownNumber : Int32) (tape : Nat → Int32) (text : Nat → Int32) (names : Nat → Int32) (r_ : Int32) (o_at_ : Int32) (o_fault : Int32) (o_opened : Int32), rec base at_ ends fault opened tape text names = some (r_, o_at_, o_fault, o_opened) → zM l yX12_one cX12_one 5 (some .int) fr1 lo1 G [.ref a_this] (w_M_one G a_this a_height a_changeAt a_changeWas a_changeIs a_tape a_text a_names a_line a_row a_pastMany a_past a_changed a_greatest a_numbersWere a_told a_waysOf a_waysWere a_blocks a_ordersOf a_imageLine a_bodyKind a_trace a_shelf a_many a_items a_carried people keptMany done tapeMany textMany base at_ ends fault opened lineMany rowMany taller tallerBy pasts isKept imageMany bodies ran ownKind ownNumber tape text names) (some (.int r_)) (w_M_one G a_this a_height a_changeAt a_changeWas a_changeIs a_tape a_text a_names a_line a_row a_pastMany a_past a_changed a_greatest a_numbersWere a_told a_waysOf a_waysWere a_blocks a_ordersOf a_imageLine a_bodyKind a_trace a_shelf a_many a_items a_carried people keptMany done tapeMany textMany base o_at_ ends o_fault o_opened lineMany rowMany taller tallerBy pasts isKept imageMany bodies ran ownKind ownNumber tape text names)
abbrev w_M_product (G : zG) (a_this : Nat) (a_height : Nat) (a_changeAt : Nat) (a_changeWas : Nat) (a_changeIs : Nat) (a_tape : Nat) (a_text : Nat) (a_names : Nat) (a_line : Nat) (a_row : Nat) (a_pastMany : Nat) (a_past : Nat) (a_changed : Nat) (a_greatest : Nat) (a_numbersWere : Nat) (a_told : Nat) (a_waysOf : Nat) (a_waysWere : Nat) (a_blocks : Nat) (a_ordersOf : Nat) (a_imageLine : Nat) (a_bodyKind : Nat) (a_trace : Nat) (a_shelf : Nat) (a_many : Nat) (a_items : Nat) (a_carried : Nat) (people : Int32) (keptMany : Int32) (done : Int32) (tapeMany : Int32) (textMany : Int32) (base : Int32) (at_ : Int32) (ends : Int32) (fault : Int32) (opened : Int32) (lineMany : Int32) (rowMany : Int32) (taller : Int32) (tallerBy : Int32) (pasts : Int32) (isKept : Int32) (imageMany : Int32) (bodies : Int32) (ran : Int32) (ownKind : Int32) (ownNumber : Int32) (tape : Nat → Int32) (text : Nat → Int32) (names : Nat → Int32) : va_W := [(a_this, cO 12 [.int people, .ref a_height, .ref a_changeAt, .ref a_changeWas, .ref a_changeIs, .int keptMany, .int done, .ref a_tape, .int tapeMany, .ref a_text, .int textMany, .int base, .int at_, .int ends, .int fault, .int opened, .ref a_names, .ref a_line, .int lineMany, .ref a_row, .int rowMany, .int taller, .int tallerBy, .ref a_pastMany, .ref a_past, .int pasts, .ref a_changed, .ref a_greatest, .ref a_numbersWere, .ref a_told, .ref a_waysOf, .ref a_waysWere, .ref a_blocks, .ref a_ordersOf, .int isKept, .int imageMany, .ref a_imageLine, .int bodies, .ref a_bodyKind, .ref a_trace, .int ran, .int ownKind, .int ownNumber, .ref a_shelf, .ref a_many, .ref a_items, .ref a_carried]), (a_tape, cI G 120 tape), (a_text, cI G 120 text), (a_names, cI G 5 names)]
def f_M_product_L10 (rec : Int32 → Int32 → Int32 → Int32 → Int32 → (Nat → Int32) → (Nat → Int32) → (Nat → Int32) → Option (Int32 × Int32 × Int32 × Int32)) (base : Int32) (ends : Int32) (tape : Nat → Int32) (text : Nat → Int32) (names : Nat → Int32) : Nat → Int32 → Int32 → Int32 → Int32 → Int32 → Option (Int32 × Int32 × Int32 × Int32)
  | 0, _, _, _, _, _ => none
  | fuel + 1, at_, fault, opened, v1, v2 => (if (0 : Int32) ≤ fault then (some (at_, fault, opened, v1)) else (if v2 = 42 then (zb4 (rec base (at_ + (1 : Int32)) ends fault opened tape text names) fun r_8 at__9 fault_10 opened_11 => (if v2 = 42 then (zb1 (f_M_byteAt base at__9 ends tape text) fun r_19 => (f_M_product_L10 rec base ends tape text names fuel at__9 fault_10 opened_11 (v1 * r_8) r_19)) else (if r_8 = 0 then (zb1 (f_M_byteAt base at__9 ends tape text) fun r_17 => (f_M_product_L10 rec base ends tape text names fuel at__9 fault_10 opened_11 0 r_17)) else (if v2 = 47 then (zgd (¬ r_8 = 0) (zb1 (f_M_byteAt base at__9 ends tape text) fun r_15 => (f_M_product_L10 rec base ends tape text names fuel at__9 fault_10 opened_11 (v1 / r_8) r_15))) else (zgd (¬ r_8 = 0) (zb1 (f_M_byteAt base at__9 ends tape text) fun r_13 => (f_M_product_L10 rec base ends tape text names fuel at__9 fault_10 opened_11 (v1 - v1 / r_8 * r_8) r_13))))))) else (if v2 = 47 then (zb4 (rec base (at_ + (1 : Int32)) ends fault opened tape text names) fun r_21 at__22 fault_23 opened_24 => (if v2 = 42 then (zb1 (f_M_byteAt base at__22 ends tape text) fun r_32 => (f_M_product_L10 rec base ends tape text names fuel at__22 fault_23 opened_24 (v1 * r_21) r_32)) else (if r_21 = 0 then (zb1 (f_M_byteAt base at__22 ends tape text) fun r_30 => (f_M_product_L10 rec base ends tape text names fuel at__22 fault_23 opened_24 0 r_30)) else (if v2 = 47 then (zgd (¬ r_21 = 0) (zb1 (f_M_byteAt base at__22 ends tape text) fun r_28 => (f_M_product_L10 rec base ends tape text names fuel at__22 fault_23 opened_24 (v1 / r_21) r_28))) else (zgd (¬ r_21 = 0) (zb1 (f_M_byteAt base at__22 ends tape text) fun r_26 => (f_M_product_L10 rec base ends tape text names fuel at__22 fault_23 opened_24 (v1 - v1 / r_21 * r_21) r_26))))))) else (if v2 = 37 then (zb4 (rec base (at_ + (1 : Int32)) ends fault opened tape text names) fun r_34 at__35 fault_36 opened_37 => (if v2 = 42 then (zb1 (f_M_byteAt base at__35 ends tape text) fun r_45 => (f_M_product_L10 rec base ends tape text names fuel at__35 fault_36 opened_37 (v1 * r_34) r_45)) else (if r_34 = 0 then (zb1 (f_M_byteAt base at__35 ends tape text) fun r_43 => (f_M_product_L10 rec base ends tape text names fuel at__35 fault_36 opened_37 0 r_43)) else (if v2 = 47 then (zgd (¬ r_34 = 0) (zb1 (f_M_byteAt base at__35 ends tape text) fun r_41 => (f_M_product_L10 rec base ends tape text names fuel at__35 fault_36 opened_37 (v1 / r_34) r_41))) else (zgd (¬ r_34 = 0) (zb1 (f_M_byteAt base at__35 ends tape text) fun r_39 => (f_M_product_L10 rec base ends tape text names fuel at__35 fault_36 opened_37 (v1 - v1 / r_34 * r_34) r_39))))))) else (some (at_, fault, opened, v1))))))
def f_M_product (rec : Int32 → Int32 → Int32 → Int32 → Int32 → (Nat → Int32) → (Nat → Int32) → (Nat → Int32) → Option (Int32 × Int32 × Int32 × Int32)) (base : Int32) (at_ : Int32) (ends : Int32) (fault : Int32) (opened : Int32) (tape : Nat → Int32) (text : Nat → Int32) (names : Nat → Int32) : Option (Int32 × Int32 × Int32 × Int32) := (zb4 (rec base at_ ends fault opened tape text names) fun r_1 at__2 fault_3 opened_4 => (zb1 (f_M_byteAt base at__2 ends tape text) fun r_6 => (zb4 (f_M_product_L10 rec base ends tape text names FU at__2 fault_3 opened_4 r_1 r_6) fun at__47 fault_48 opened_49 v1_50 => (some (v1_50, at__47, fault_48, opened_49)))))
set_option maxRecDepth 100000 in
set_option maxHeartbeats 4000000 in
theorem l_M_product_10 {X : zX} (G : zG) (a_this : Nat) (a_height : Nat) (a_changeAt : Nat) (a_changeWas : Nat) (a_changeIs : Nat) (a_tape : Nat) (a_text : Nat) (a_names : Nat) (a_line : Nat) (a_row : Nat) (a_pastMany : Nat) (a_past : Nat) (a_changed : Nat) (a_greatest : Nat) (a_numbersWere : Nat) (a_told : Nat) (a_waysOf : Nat) (a_waysWere : Nat) (a_blocks : Nat) (a_ordersOf : Nat) (a_imageLine : Nat) (a_bodyKind : Nat) (a_trace : Nat) (a_shelf : Nat) (a_many : Nat) (a_items : Nat) (a_carried : Nat) (people : Int32) (keptMany : Int32) (done : Int32) (tapeMany : Int32) (textMany : Int32) (base : Int32) (ends : Int32) (lineMany : Int32) (rowMany : Int32) (taller : Int32) (tallerBy : Int32) (pasts : Int32) (isKept : Int32) (imageMany : Int32) (bodies : Int32) (ran : Int32) (ownKind : Int32) (ownNumber : Int32) (tape : Nat → Int32) (text : Nat → Int32) (names : Nat → Int32) (rec : Int32 → Int32 → Int32 → Int32 → Int32 → (Nat → Int32) → (Nat → Int32) → (Nat → Int32) → Option (Int32 × Int32 × Int32 × Int32)) {fr1 lo1 : Nat} (hrec : K_M_one (xL X) G a_this a_height a_changeAt a_changeWas a_changeIs a_tape a_text a_names a_line a_row a_pastMany a_past a_changed a_greatest a_numbersWere a_told a_waysOf a_waysWere a_blocks a_ordersOf a_imageLine a_bodyKind a_trace a_shelf a_many a_items a_carried fr1 lo1 rec) {v0 : Option Value} {w0 : va_W} (F : zF X G cX12_product RX12 4 (some .int) (fr1 + 1) (lo1 + 24) v0 w0) (e_at_ : Int32) (e_fault : Int32) (e_opened : Int32) (e_v1 : Int32) (hk : Z X G 4 (w_M_product G a_this a_height a_changeAt a_changeWas a_changeIs a_tape a_text a_names a_line a_row a_pastMany a_past a_changed a_greatest a_numbersWere a_told a_waysOf a_waysWere a_blocks a_ordersOf a_imageLine a_bodyKind a_trace a_shelf a_many a_items a_carried people keptMany done tapeMany textMany base e_at_ ends e_fault e_opened lineMany rowMany taller tallerBy pasts isKept imageMany bodies ran ownKind ownNumber tape text names) [(1, .int e_v1)] 94 []) :
    ∀ (fuel : Nat) (at_ : Int32) (fault : Int32) (opened : Int32) (v1 : Int32) (v2 : Int32), f_M_product_L10 rec base ends tape text names fuel at_ fault opened v1 v2 = some (e_at_, e_fault, e_opened, e_v1) → Z X G 4 (w_M_product G a_this a_height a_changeAt a_changeWas a_changeIs a_tape a_text a_names a_line a_row a_pastMany a_past a_changed a_greatest a_numbersWere a_told a_waysOf a_waysWere a_blocks a_ordersOf a_imageLine a_bodyKind a_trace a_shelf a_many a_items a_carried people keptMany done tapeMany textMany base at_ ends fault opened lineMany rowMany taller tallerBy pasts isKept imageMany bodies ran ownKind ownNumber tape text names) [(0, .ref a_this), (1, .int v1), (2, .int v2)] 10 [] := by
  intro fuel
  induction fuel with
  | zero => intro at_ fault opened v1 v2 hf; exact absurd ((f_M_product_L10.eq_1 ..).symm.trans hf) (fun h => by cases h)
  | succ fuel ih =>
    intro at_ fault opened v1 v2 hf
    replace hf := (f_M_product_L10.eq_2 ..).symm.trans hf
    refine z_aload_n F 0 dX12_product_10 rfl rfl ?_
    refine z_get F 0 12 14 inlX12 rfl rfl (by decide) fl_X12_142 rfl dX12_product_11 ?_
    refine z_if_ge F 94 dX12_product_14 (by decide) hf (fun hf _ => ?_) (fun hf _ => ?_)
    · have eq1 := Option.some.inj hf
      obtain ⟨ee1, eq2⟩ := Prod.mk.inj eq1
      obtain ⟨ee2, eq3⟩ := Prod.mk.inj eq2
      obtain ⟨ee3, ee4⟩ := Prod.mk.inj eq3
      subst ee1
      subst ee2
      subst ee3
      subst ee4
      exact z_sub [1] rfl hk
    · refine z_iload_n F 2 dX12_product_17 rfl rfl ?_
      refine z_bipush F (42) dX12_product_18 rfl ?_
      refine z_icmp_eq F 35 dX12_product_20 (by decide) hf (fun hf _ => ?_) (fun hf _ => ?_)
      · refine z_aload_n F 0 dX12_product_35 rfl rfl ?_
        refine z_dup F rfl dX12_product_36 ?_
        refine z_get F 0 12 12 inlX12 rfl rfl (by decide) fl_X12_133 rfl dX12_product_37 ?_
        refine z_iconst F (1) dX12_product_40 rfl ?_
        refine z_iadd F dX12_product_41 ?_
        refine z_put F 0 12 12 (w_M_product G a_this a_height a_changeAt a_changeWas a_changeIs a_tape a_text a_names a_line a_row a_pastMany a_past a_changed a_greatest a_numbersWere a_told a_waysOf a_waysWere a_blocks a_ordersOf a_imageLine a_bodyKind a_trace a_shelf a_many a_items a_carried people keptMany done tapeMany textMany base (at_ + (1 : Int32)) ends fault opened lineMany rowMany taller tallerBy pasts isKept imageMany bodies ran ownKind ownNumber tape text names) inlX12 tyX12 tyX12_ok nmX12 rfl rfl (by decide) fl_X12_133 rfl rfl rfl (Nat.le_of_ble_eq_true rfl) rfl dX12_product_42 ?_
        refine z_aload_n F 0 dX12_product_45 rfl rfl ?_
        obtain ⟨r_8, at__9, fault_10, opened_11, hg, hf⟩ := zb4_some hf
        refine z_callVm (rest := []) F 12 (hrec people keptMany done tapeMany textMany base (at_ + (1 : Int32)) ends fault opened lineMany rowMany taller tallerBy pasts isKept imageMany bodies ran ownKind ownNumber tape text names r_8 at__9 fault_10 opened_11 hg) hy_X12_one ml_X12_164 hd_X12_one ⟨by omega, by omega⟩ rfl [0, 1, 2, 3] rfl rfl 0 rfl rfl (w_M_product G a_this a_height a_changeAt a_changeWas a_changeIs a_tape a_text a_names a_line a_row a_pastMany a_past a_changed a_greatest a_numbersWere a_told a_waysOf a_waysWere a_blocks a_ordersOf a_imageLine a_bodyKind a_trace a_shelf a_many a_items a_carried people keptMany done tapeMany textMany base at__9 ends fault_10 opened_11 lineMany rowMany taller tallerBy pasts isKept imageMany bodies ran ownKind ownNumber tape text names) [some 0, some 1, some 2, some 3] rfl (by decide +kernel) rfl rfl (Nat.le_of_ble_eq_true rfl) dX12_product_46 (fun hz_12 => ?_)
        refine z_istore_n F [(3, .int r_8), (0, .ref a_this), (1, .int v1), (2, .int v2)] dX12_product_49 rfl (by decide) rfl ?_
        refine z_iload_n F 3 dX12_product_50 rfl rfl ?_
        refine z_bipush F (42) dX12_product_51 rfl ?_
        refine z_icmp_ne F 62 dX12_product_53 (by decide) hf (fun hf _ => ?_) (fun hf _ => ?_)
        · refine z_iload_n F 0 dX12_product_62 rfl rfl ?_
          refine z_if_ne F 70 dX12_product_63 (by decide) hf (fun hf _ => ?_) (fun hf _ => ?_)
          · refine z_iload_n F 3 dX12_product_70 rfl rfl ?_
            refine z_bipush F (47) dX12_product_71 rfl ?_
            refine z_icmp_ne F 82 dX12_product_73 (by decide) hf (fun hf _ => ?_) (fun hf _ => ?_)
            · refine z_iload_n F 2 dX12_product_82 rfl rfl ?_
              refine z_iload_n F 0 dX12_product_83 rfl rfl ?_
              obtain ⟨hne, hf⟩ := zgd_some hf
              refine z_irem F hne dX12_product_84 ?_
              refine z_istore_n F [(1, .int (v1 - v1 / r_8 * r_8)), (3, .int r_8), (0, .ref a_this), (2, .int v2)] dX12_product_85 rfl (by decide) rfl ?_
              refine z_aload_n F 2 dX12_product_86 rfl rfl ?_
              obtain ⟨r_13, hg, hf⟩ := zb1_some hf
              refine z_callVm (rest := []) F 12 (c_M_byteAt (xL X) G a_this a_height a_changeAt a_changeWas a_changeIs a_tape a_text a_names a_line a_row a_pastMany a_past a_changed a_greatest a_numbersWere a_told a_waysOf a_waysWere a_blocks a_ordersOf a_imageLine a_bodyKind a_trace a_shelf a_many a_items a_carried people keptMany done tapeMany textMany base at__9 ends fault_10 opened_11 lineMany rowMany taller tallerBy pasts isKept imageMany bodies ran ownKind ownNumber tape text r_13 hg) hy_X12_byteAt ml_X12_145 hd_X12_byteAt ⟨by omega, by omega⟩ rfl [0, 1, 2] rfl rfl 0 rfl rfl (w_M_product G a_this a_height a_changeAt a_changeWas a_changeIs a_tape a_text a_names a_line a_row a_pastMany a_past a_changed a_greatest a_numbersWere a_told a_waysOf a_waysWere a_blocks a_ordersOf a_imageLine a_bodyKind a_trace a_shelf a_many a_items a_carried people keptMany done tapeMany textMany base at__9 ends fault_10 opened_11 lineMany rowMany taller tallerBy pasts isKept imageMany bodies ran ownKind ownNumber tape text names) [some 0, some 1, some 2, none] rfl (by decide +kernel) rfl rfl (Nat.le_of_ble_eq_true rfl) dX12_product_87 (fun hz_14 => ?_)
              refine z_istore_n F [(2, .int r_13), (1, .int (v1 - v1 / r_8 * r_8)), (3, .int r_8), (0, .ref a_this)] dX12_product_90 rfl (by decide) rfl ?_
              refine z_goto F 10 dX12_product_91 (by decide) ?_
              exact z_sub [3, 1, 0] rfl (ih at__9 fault_10 opened_11 (v1 - v1 / r_8 * r_8) r_13 hf)
            · refine z_iload_n F 2 dX12_product_76 rfl rfl ?_
              refine z_iload_n F 0 dX12_product_77 rfl rfl ?_
              obtain ⟨hne, hf⟩ := zgd_some hf
              refine z_idiv F hne dX12_product_78 ?_
              refine z_goto F 85 dX12_product_79 (by decide) ?_
              refine z_istore_n F [(1, .int (v1 / r_8)), (3, .int r_8), (0, .ref a_this), (2, .int v2)] dX12_product_85 rfl (by decide) rfl ?_
              refine z_aload_n F 2 dX12_product_86 rfl rfl ?_
              obtain ⟨r_15, hg, hf⟩ := zb1_some hf
              refine z_callVm (rest := []) F 12 (c_M_byteAt (xL X) G a_this a_height a_changeAt a_changeWas a_changeIs a_tape a_text a_names a_line a_row a_pastMany a_past a_changed a_greatest a_numbersWere a_told a_waysOf a_waysWere a_blocks a_ordersOf a_imageLine a_bodyKind a_trace a_shelf a_many a_items a_carried people keptMany done tapeMany textMany base at__9 ends fault_10 opened_11 lineMany rowMany taller tallerBy pasts isKept imageMany bodies ran ownKind ownNumber tape text r_15 hg) hy_X12_byteAt ml_X12_145 hd_X12_byteAt ⟨by omega, by omega⟩ rfl [0, 1, 2] rfl rfl 0 rfl rfl (w_M_product G a_this a_height a_changeAt a_changeWas a_changeIs a_tape a_text a_names a_line a_row a_pastMany a_past a_changed a_greatest a_numbersWere a_told a_waysOf a_waysWere a_blocks a_ordersOf a_imageLine a_bodyKind a_trace a_shelf a_many a_items a_carried people keptMany done tapeMany textMany base at__9 ends fault_10 opened_11 lineMany rowMany taller tallerBy pasts isKept imageMany bodies ran ownKind ownNumber tape text names) [some 0, some 1, some 2, none] rfl (by decide +kernel) rfl rfl (Nat.le_of_ble_eq_true rfl) dX12_product_87 (fun hz_16 => ?_)
              refine z_istore_n F [(2, .int r_15), (1, .int (v1 / r_8)), (3, .int r_8), (0, .ref a_this)] dX12_product_90 rfl (by decide) rfl ?_
              refine z_goto F 10 dX12_product_91 (by decide) ?_
              exact z_sub [3, 1, 0] rfl (ih at__9 fault_10 opened_11 (v1 / r_8) r_15 hf)
          · refine z_iconst F (0) dX12_product_66 rfl ?_
            refine z_goto F 85 dX12_product_67 (by decide) ?_
            refine z_istore_n F [(1, .int 0), (3, .int r_8), (0, .ref a_this), (2, .int v2)] dX12_product_85 rfl (by decide) rfl ?_
            refine z_aload_n F 2 dX12_product_86 rfl rfl ?_
            obtain ⟨r_17, hg, hf⟩ := zb1_some hf
            refine z_callVm (rest := []) F 12 (c_M_byteAt (xL X) G a_this a_height a_changeAt a_changeWas a_changeIs a_tape a_text a_names a_line a_row a_pastMany a_past a_changed a_greatest a_numbersWere a_told a_waysOf a_waysWere a_blocks a_ordersOf a_imageLine a_bodyKind a_trace a_shelf a_many a_items a_carried people keptMany done tapeMany textMany base at__9 ends fault_10 opened_11 lineMany rowMany taller tallerBy pasts isKept imageMany bodies ran ownKind ownNumber tape text r_17 hg) hy_X12_byteAt ml_X12_145 hd_X12_byteAt ⟨by omega, by omega⟩ rfl [0, 1, 2] rfl rfl 0 rfl rfl (w_M_product G a_this a_height a_changeAt a_changeWas a_changeIs a_tape a_text a_names a_line a_row a_pastMany a_past a_changed a_greatest a_numbersWere a_told a_waysOf a_waysWere a_blocks a_ordersOf a_imageLine a_bodyKind a_trace a_shelf a_many a_items a_carried people keptMany done tapeMany textMany base at__9 ends fault_10 opened_11 lineMany rowMany taller tallerBy pasts isKept imageMany bodies ran ownKind ownNumber tape text names) [some 0, some 1, some 2, none] rfl (by decide +kernel) rfl rfl (Nat.le_of_ble_eq_true rfl) dX12_product_87 (fun hz_18 => ?_)
            refine z_istore_n F [(2, .int r_17), (1, .int 0), (3, .int r_8), (0, .ref a_this)] dX12_product_90 rfl (by decide) rfl ?_
            refine z_goto F 10 dX12_product_91 (by decide) ?_
            exact z_sub [3, 1, 0] rfl (ih at__9 fault_10 opened_11 0 r_17 hf)
        · refine z_iload_n F 2 dX12_product_56 rfl rfl ?_
          refine z_iload_n F 0 dX12_product_57 rfl rfl ?_
          refine z_imul F dX12_product_58 ?_
          refine z_goto F 85 dX12_product_59 (by decide) ?_
          refine z_istore_n F [(1, .int (v1 * r_8)), (3, .int r_8), (0, .ref a_this), (2, .int v2)] dX12_product_85 rfl (by decide) rfl ?_
          refine z_aload_n F 2 dX12_product_86 rfl rfl ?_
          obtain ⟨r_19, hg, hf⟩ := zb1_some hf
          refine z_callVm (rest := []) F 12 (c_M_byteAt (xL X) G a_this a_height a_changeAt a_changeWas a_changeIs a_tape a_text a_names a_line a_row a_pastMany a_past a_changed a_greatest a_numbersWere a_told a_waysOf a_waysWere a_blocks a_ordersOf a_imageLine a_bodyKind a_trace a_shelf a_many a_items a_carried people keptMany done tapeMany textMany base at__9 ends fault_10 opened_11 lineMany rowMany taller tallerBy pasts isKept imageMany bodies ran ownKind ownNumber tape text r_19 hg) hy_X12_byteAt ml_X12_145 hd_X12_byteAt ⟨by omega, by omega⟩ rfl [0, 1, 2] rfl rfl 0 rfl rfl (w_M_product G a_this a_height a_changeAt a_changeWas a_changeIs a_tape a_text a_names a_line a_row a_pastMany a_past a_changed a_greatest a_numbersWere a_told a_waysOf a_waysWere a_blocks a_ordersOf a_imageLine a_bodyKind a_trace a_shelf a_many a_items a_carried people keptMany done tapeMany textMany base at__9 ends fault_10 opened_11 lineMany rowMany taller tallerBy pasts isKept imageMany bodies ran ownKind ownNumber tape text names) [some 0, some 1, some 2, none] rfl (by decide +kernel) rfl rfl (Nat.le_of_ble_eq_true rfl) dX12_product_87 (fun hz_20 => ?_)
          refine z_istore_n F [(2, .int r_19), (1, .int (v1 * r_8)), (3, .int r_8), (0, .ref a_this)] dX12_product_90 rfl (by decide) rfl ?_
          refine z_goto F 10 dX12_product_91 (by decide) ?_
          exact z_sub [3, 1, 0] rfl (ih at__9 fault_10 opened_11 (v1 * r_8) r_19 hf)
      · refine z_iload_n F 2 dX12_product_23 rfl rfl ?_
        refine z_bipush F (47) dX12_product_24 rfl ?_
        refine z_icmp_eq F 35 dX12_product_26 (by decide) hf (fun hf _ => ?_) (fun hf _ => ?_)
        · refine z_aload_n F 0 dX12_product_35 rfl rfl ?_
          refine z_dup F rfl dX12_product_36 ?_
          refine z_get F 0 12 12 inlX12 rfl rfl (by decide) fl_X12_133 rfl dX12_product_37 ?_
          refine z_iconst F (1) dX12_product_40 rfl ?_
          refine z_iadd F dX12_product_41 ?_
          refine z_put F 0 12 12 (w_M_product G a_this a_height a_changeAt a_changeWas a_changeIs a_tape a_text a_names a_line a_row a_pastMany a_past a_changed a_greatest a_numbersWere a_told a_waysOf a_waysWere a_blocks a_ordersOf a_imageLine a_bodyKind a_trace a_shelf a_many a_items a_carried people keptMany done tapeMany textMany base (at_ + (1 : Int32)) ends fault opened lineMany rowMany taller tallerBy pasts isKept imageMany bodies ran ownKind ownNumber tape text names) inlX12 tyX12 tyX12_ok nmX12 rfl rfl (by decide) fl_X12_133 rfl rfl rfl (Nat.le_of_ble_eq_true rfl) rfl dX12_product_42 ?_
          refine z_aload_n F 0 dX12_product_45 rfl rfl ?_
          obtain ⟨r_21, at__22, fault_23, opened_24, hg, hf⟩ := zb4_some hf
          refine z_callVm (rest := []) F 12 (hrec people keptMany done tapeMany textMany base (at_ + (1 : Int32)) ends fault opened lineMany rowMany taller tallerBy pasts isKept imageMany bodies ran ownKind ownNumber tape text names r_21 at__22 fault_23 opened_24 hg) hy_X12_one ml_X12_164 hd_X12_one ⟨by omega, by omega⟩ rfl [0, 1, 2, 3] rfl rfl 0 rfl rfl (w_M_product G a_this a_height a_changeAt a_changeWas a_changeIs a_tape a_text a_names a_line a_row a_pastMany a_past a_changed a_greatest a_numbersWere a_told a_waysOf a_waysWere a_blocks a_ordersOf a_imageLine a_bodyKind a_trace a_shelf a_many a_items a_carried people keptMany done tapeMany textMany base at__22 ends fault_23 opened_24 lineMany rowMany taller tallerBy pasts isKept imageMany bodies ran ownKind ownNumber tape text names) [some 0, some 1, some 2, some 3] rfl (by decide +kernel) rfl rfl (Nat.le_of_ble_eq_true rfl) dX12_product_46 (fun hz_25 => ?_)
          refine z_istore_n F [(3, .int r_21), (0, .ref a_this), (1, .int v1), (2, .int v2)] dX12_product_49 rfl (by decide) rfl ?_
          refine z_iload_n F 3 dX12_product_50 rfl rfl ?_
          refine z_bipush F (42) dX12_product_51 rfl ?_
          refine z_icmp_ne F 62 dX12_product_53 (by decide) hf (fun hf _ => ?_) (fun hf _ => ?_)
          · refine z_iload_n F 0 dX12_product_62 rfl rfl ?_
            refine z_if_ne F 70 dX12_product_63 (by decide) hf (fun hf _ => ?_) (fun hf _ => ?_)
            · refine z_iload_n F 3 dX12_product_70 rfl rfl ?_
              refine z_bipush F (47) dX12_product_71 rfl ?_
              refine z_icmp_ne F 82 dX12_product_73 (by decide) hf (fun hf _ => ?_) (fun hf _ => ?_)
              · refine z_iload_n F 2 dX12_product_82 rfl rfl ?_
                refine z_iload_n F 0 dX12_product_83 rfl rfl ?_
                obtain ⟨hne, hf⟩ := zgd_some hf
                refine z_irem F hne dX12_product_84 ?_
                refine z_istore_n F [(1, .int (v1 - v1 / r_21 * r_21)), (3, .int r_21), (0, .ref a_this), (2, .int v2)] dX12_product_85 rfl (by decide) rfl ?_
                refine z_aload_n F 2 dX12_product_86 rfl rfl ?_
                obtain ⟨r_26, hg, hf⟩ := zb1_some hf
                refine z_callVm (rest := []) F 12 (c_M_byteAt (xL X) G a_this a_height a_changeAt a_changeWas a_changeIs a_tape a_text a_names a_line a_row a_pastMany a_past a_changed a_greatest a_numbersWere a_told a_waysOf a_waysWere a_blocks a_ordersOf a_imageLine a_bodyKind a_trace a_shelf a_many a_items a_carried people keptMany done tapeMany textMany base at__22 ends fault_23 opened_24 lineMany rowMany taller tallerBy pasts isKept imageMany bodies ran ownKind ownNumber tape text r_26 hg) hy_X12_byteAt ml_X12_145 hd_X12_byteAt ⟨by omega, by omega⟩ rfl [0, 1, 2] rfl rfl 0 rfl rfl (w_M_product G a_this a_height a_changeAt a_changeWas a_changeIs a_tape a_text a_names a_line a_row a_pastMany a_past a_changed a_greatest a_numbersWere a_told a_waysOf a_waysWere a_blocks a_ordersOf a_imageLine a_bodyKind a_trace a_shelf a_many a_items a_carried people keptMany done tapeMany textMany base at__22 ends fault_23 opened_24 lineMany rowMany taller tallerBy pasts isKept imageMany bodies ran ownKind ownNumber tape text names) [some 0, some 1, some 2, none] rfl (by decide +kernel) rfl rfl (Nat.le_of_ble_eq_true rfl) dX12_product_87 (fun hz_27 => ?_)
                refine z_istore_n F [(2, .int r_26), (1, .int (v1 - v1 / r_21 * r_21)), (3, .int r_21), (0, .ref a_this)] dX12_product_90 rfl (by decide) rfl ?_
                refine z_goto F 10 dX12_product_91 (by decide) ?_
                exact z_sub [3, 1, 0] rfl (ih at__22 fault_23 opened_24 (v1 - v1 / r_21 * r_21) r_26 hf)
              · refine z_iload_n F 2 dX12_product_76 rfl rfl ?_
                refine z_iload_n F 0 dX12_product_77 rfl rfl ?_
                obtain ⟨hne, hf⟩ := zgd_some hf
                refine z_idiv F hne dX12_product_78 ?_
                refine z_goto F 85 dX12_product_79 (by decide) ?_
                refine z_istore_n F [(1, .int (v1 / r_21)), (3, .int r_21), (0, .ref a_this), (2, .int v2)] dX12_product_85 rfl (by decide) rfl ?_
                refine z_aload_n F 2 dX12_product_86 rfl rfl ?_
                obtain ⟨r_28, hg, hf⟩ := zb1_some hf
                refine z_callVm (rest := []) F 12 (c_M_byteAt (xL X) G a_this a_height a_changeAt a_changeWas a_changeIs a_tape a_text a_names a_line a_row a_pastMany a_past a_changed a_greatest a_numbersWere a_told a_waysOf a_waysWere a_blocks a_ordersOf a_imageLine a_bodyKind a_trace a_shelf a_many a_items a_carried people keptMany done tapeMany textMany base at__22 ends fault_23 opened_24 lineMany rowMany taller tallerBy pasts isKept imageMany bodies ran ownKind ownNumber tape text r_28 hg) hy_X12_byteAt ml_X12_145 hd_X12_byteAt ⟨by omega, by omega⟩ rfl [0, 1, 2] rfl rfl 0 rfl rfl (w_M_product G a_this a_height a_changeAt a_changeWas a_changeIs a_tape a_text a_names a_line a_row a_pastMany a_past a_changed a_greatest a_numbersWere a_told a_waysOf a_waysWere a_blocks a_ordersOf a_imageLine a_bodyKind a_trace a_shelf a_many a_items a_carried people keptMany done tapeMany textMany base at__22 ends fault_23 opened_24 lineMany rowMany taller tallerBy pasts isKept imageMany bodies ran ownKind ownNumber tape text names) [some 0, some 1, some 2, none] rfl (by decide +kernel) rfl rfl (Nat.le_of_ble_eq_true rfl) dX12_product_87 (fun hz_29 => ?_)
                refine z_istore_n F [(2, .int r_28), (1, .int (v1 / r_21)), (3, .int r_21), (0, .ref a_this)] dX12_product_90 rfl (by decide) rfl ?_
                refine z_goto F 10 dX12_product_91 (by decide) ?_
                exact z_sub [3, 1, 0] rfl (ih at__22 fault_23 opened_24 (v1 / r_21) r_28 hf)
            · refine z_iconst F (0) dX12_product_66 rfl ?_
              refine z_goto F 85 dX12_product_67 (by decide) ?_
              refine z_istore_n F [(1, .int 0), (3, .int r_21), (0, .ref a_this), (2, .int v2)] dX12_product_85 rfl (by decide) rfl ?_
              refine z_aload_n F 2 dX12_product_86 rfl rfl ?_
              obtain ⟨r_30, hg, hf⟩ := zb1_some hf
              refine z_callVm (rest := []) F 12 (c_M_byteAt (xL X) G a_this a_height a_changeAt a_changeWas a_changeIs a_tape a_text a_names a_line a_row a_pastMany a_past a_changed a_greatest a_numbersWere a_told a_waysOf a_waysWere a_blocks a_ordersOf a_imageLine a_bodyKind a_trace a_shelf a_many a_items a_carried people keptMany done tapeMany textMany base at__22 ends fault_23 opened_24 lineMany rowMany taller tallerBy pasts isKept imageMany bodies ran ownKind ownNumber tape text r_30 hg) hy_X12_byteAt ml_X12_145 hd_X12_byteAt ⟨by omega, by omega⟩ rfl [0, 1, 2] rfl rfl 0 rfl rfl (w_M_product G a_this a_height a_changeAt a_changeWas a_changeIs a_tape a_text a_names a_line a_row a_pastMany a_past a_changed a_greatest a_numbersWere a_told a_waysOf a_waysWere a_blocks a_ordersOf a_imageLine a_bodyKind a_trace a_shelf a_many a_items a_carried people keptMany done tapeMany textMany base at__22 ends fault_23 opened_24 lineMany rowMany taller tallerBy pasts isKept imageMany bodies ran ownKind ownNumber tape text names) [some 0, some 1, some 2, none] rfl (by decide +kernel) rfl rfl (Nat.le_of_ble_eq_true rfl) dX12_product_87 (fun hz_31 => ?_)
              refine z_istore_n F [(2, .int r_30), (1, .int 0), (3, .int r_21), (0, .ref a_this)] dX12_product_90 rfl (by decide) rfl ?_
              refine z_goto F 10 dX12_product_91 (by decide) ?_
              exact z_sub [3, 1, 0] rfl (ih at__22 fault_23 opened_24 0 r_30 hf)
          · refine z_iload_n F 2 dX12_product_56 rfl rfl ?_
            refine z_iload_n F 0 dX12_product_57 rfl rfl ?_
            refine z_imul F dX12_product_58 ?_
            refine z_goto F 85 dX12_product_59 (by decide) ?_
            refine z_istore_n F [(1, .int (v1 * r_21)), (3, .int r_21), (0, .ref a_this), (2, .int v2)] dX12_product_85 rfl (by decide) rfl ?_
            refine z_aload_n F 2 dX12_product_86 rfl rfl ?_
            obtain ⟨r_32, hg, hf⟩ := zb1_some hf
            refine z_callVm (rest := []) F 12 (c_M_byteAt (xL X) G a_this a_height a_changeAt a_changeWas a_changeIs a_tape a_text a_names a_line a_row a_pastMany a_past a_changed a_greatest a_numbersWere a_told a_waysOf a_waysWere a_blocks a_ordersOf a_imageLine a_bodyKind a_trace a_shelf a_many a_items a_carried people keptMany done tapeMany textMany base at__22 ends fault_23 opened_24 lineMany rowMany taller tallerBy pasts isKept imageMany bodies ran ownKind ownNumber tape text r_32 hg) hy_X12_byteAt ml_X12_145 hd_X12_byteAt ⟨by omega, by omega⟩ rfl [0, 1, 2] rfl rfl 0 rfl rfl (w_M_product G a_this a_height a_changeAt a_changeWas a_changeIs a_tape a_text a_names a_line a_row a_pastMany a_past a_changed a_greatest a_numbersWere a_told a_waysOf a_waysWere a_blocks a_ordersOf a_imageLine a_bodyKind a_trace a_shelf a_many a_items a_carried people keptMany done tapeMany textMany base at__22 ends fault_23 opened_24 lineMany rowMany taller tallerBy pasts isKept imageMany bodies ran ownKind ownNumber tape text names) [some 0, some 1, some 2, none] rfl (by decide +kernel) rfl rfl (Nat.le_of_ble_eq_true rfl) dX12_product_87 (fun hz_33 => ?_)
            refine z_istore_n F [(2, .int r_32), (1, .int (v1 * r_21)), (3, .int r_21), (0, .ref a_this)] dX12_product_90 rfl (by decide) rfl ?_
            refine z_goto F 10 dX12_product_91 (by decide) ?_
            exact z_sub [3, 1, 0] rfl (ih at__22 fault_23 opened_24 (v1 * r_21) r_32 hf)
        · refine z_iload_n F 2 dX12_product_29 rfl rfl ?_
          refine z_bipush F (37) dX12_product_30 rfl ?_
          refine z_icmp_ne F 94 dX12_product_32 (by decide) hf (fun hf _ => ?_) (fun hf _ => ?_)
          · have eq1 := Option.some.inj hf
            obtain ⟨ee1, eq2⟩ := Prod.mk.inj eq1
            obtain ⟨ee2, eq3⟩ := Prod.mk.inj eq2
            obtain ⟨ee3, ee4⟩ := Prod.mk.inj eq3
            subst ee1
            subst ee2
            subst ee3
            subst ee4
            exact z_sub [1] rfl hk
          · refine z_aload_n F 0 dX12_product_35 rfl rfl ?_
            refine z_dup F rfl dX12_product_36 ?_
            refine z_get F 0 12 12 inlX12 rfl rfl (by decide) fl_X12_133 rfl dX12_product_37 ?_
            refine z_iconst F (1) dX12_product_40 rfl ?_
            refine z_iadd F dX12_product_41 ?_
            refine z_put F 0 12 12 (w_M_product G a_this a_height a_changeAt a_changeWas a_changeIs a_tape a_text a_names a_line a_row a_pastMany a_past a_changed a_greatest a_numbersWere a_told a_waysOf a_waysWere a_blocks a_ordersOf a_imageLine a_bodyKind a_trace a_shelf a_many a_items a_carried people keptMany done tapeMany textMany base (at_ + (1 : Int32)) ends fault opened lineMany rowMany taller tallerBy pasts isKept imageMany bodies ran ownKind ownNumber tape text names) inlX12 tyX12 tyX12_ok nmX12 rfl rfl (by decide) fl_X12_133 rfl rfl rfl (Nat.le_of_ble_eq_true rfl) rfl dX12_product_42 ?_
            refine z_aload_n F 0 dX12_product_45 rfl rfl ?_
            obtain ⟨r_34, at__35, fault_36, opened_37, hg, hf⟩ := zb4_some hf
            refine z_callVm (rest := []) F 12 (hrec people keptMany done tapeMany textMany base (at_ + (1 : Int32)) ends fault opened lineMany rowMany taller tallerBy pasts isKept imageMany bodies ran ownKind ownNumber tape text names r_34 at__35 fault_36 opened_37 hg) hy_X12_one ml_X12_164 hd_X12_one ⟨by omega, by omega⟩ rfl [0, 1, 2, 3] rfl rfl 0 rfl rfl (w_M_product G a_this a_height a_changeAt a_changeWas a_changeIs a_tape a_text a_names a_line a_row a_pastMany a_past a_changed a_greatest a_numbersWere a_told a_waysOf a_waysWere a_blocks a_ordersOf a_imageLine a_bodyKind a_trace a_shelf a_many a_items a_carried people keptMany done tapeMany textMany base at__35 ends fault_36 opened_37 lineMany rowMany taller tallerBy pasts isKept imageMany bodies ran ownKind ownNumber tape text names) [some 0, some 1, some 2, some 3] rfl (by decide +kernel) rfl rfl (Nat.le_of_ble_eq_true rfl) dX12_product_46 (fun hz_38 => ?_)
            refine z_istore_n F [(3, .int r_34), (0, .ref a_this), (1, .int v1), (2, .int v2)] dX12_product_49 rfl (by decide) rfl ?_
            refine z_iload_n F 3 dX12_product_50 rfl rfl ?_
            refine z_bipush F (42) dX12_product_51 rfl ?_
            refine z_icmp_ne F 62 dX12_product_53 (by decide) hf (fun hf _ => ?_) (fun hf _ => ?_)
            · refine z_iload_n F 0 dX12_product_62 rfl rfl ?_
              refine z_if_ne F 70 dX12_product_63 (by decide) hf (fun hf _ => ?_) (fun hf _ => ?_)
              · refine z_iload_n F 3 dX12_product_70 rfl rfl ?_
                refine z_bipush F (47) dX12_product_71 rfl ?_
                refine z_icmp_ne F 82 dX12_product_73 (by decide) hf (fun hf _ => ?_) (fun hf _ => ?_)
                · refine z_iload_n F 2 dX12_product_82 rfl rfl ?_
                  refine z_iload_n F 0 dX12_product_83 rfl rfl ?_
                  obtain ⟨hne, hf⟩ := zgd_some hf
                  refine z_irem F hne dX12_product_84 ?_
                  refine z_istore_n F [(1, .int (v1 - v1 / r_34 * r_34)), (3, .int r_34), (0, .ref a_this), (2, .int v2)] dX12_product_85 rfl (by decide) rfl ?_
                  refine z_aload_n F 2 dX12_product_86 rfl rfl ?_
                  obtain ⟨r_39, hg, hf⟩ := zb1_some hf
                  refine z_callVm (rest := []) F 12 (c_M_byteAt (xL X) G a_this a_height a_changeAt a_changeWas a_changeIs a_tape a_text a_names a_line a_row a_pastMany a_past a_changed a_greatest a_numbersWere a_told a_waysOf a_waysWere a_blocks a_ordersOf a_imageLine a_bodyKind a_trace a_shelf a_many a_items a_carried people keptMany done tapeMany textMany base at__35 ends fault_36 opened_37 lineMany rowMany taller tallerBy pasts isKept imageMany bodies ran ownKind ownNumber tape text r_39 hg) hy_X12_byteAt ml_X12_145 hd_X12_byteAt ⟨by omega, by omega⟩ rfl [0, 1, 2] rfl rfl 0 rfl rfl (w_M_product G a_this a_height a_changeAt a_changeWas a_changeIs a_tape a_text a_names a_line a_row a_pastMany a_past a_changed a_greatest a_numbersWere a_told a_waysOf a_waysWere a_blocks a_ordersOf a_imageLine a_bodyKind a_trace a_shelf a_many a_items a_carried people keptMany done tapeMany textMany base at__35 ends fault_36 opened_37 lineMany rowMany taller tallerBy pasts isKept imageMany bodies ran ownKind ownNumber tape text names) [some 0, some 1, some 2, none] rfl (by decide +kernel) rfl rfl (Nat.le_of_ble_eq_true rfl) dX12_product_87 (fun hz_40 => ?_)
                  refine z_istore_n F [(2, .int r_39), (1, .int (v1 - v1 / r_34 * r_34)), (3, .int r_34), (0, .ref a_this)] dX12_product_90 rfl (by decide) rfl ?_
                  refine z_goto F 10 dX12_product_91 (by decide) ?_
                  exact z_sub [3, 1, 0] rfl (ih at__35 fault_36 opened_37 (v1 - v1 / r_34 * r_34) r_39 hf)
                · refine z_iload_n F 2 dX12_product_76 rfl rfl ?_
                  refine z_iload_n F 0 dX12_product_77 rfl rfl ?_
                  obtain ⟨hne, hf⟩ := zgd_some hf
                  refine z_idiv F hne dX12_product_78 ?_
                  refine z_goto F 85 dX12_product_79 (by decide) ?_
                  refine z_istore_n F [(1, .int (v1 / r_34)), (3, .int r_34), (0, .ref a_this), (2, .int v2)] dX12_product_85 rfl (by decide) rfl ?_
                  refine z_aload_n F 2 dX12_product_86 rfl rfl ?_
                  obtain ⟨r_41, hg, hf⟩ := zb1_some hf
                  refine z_callVm (rest := []) F 12 (c_M_byteAt (xL X) G a_this a_height a_changeAt a_changeWas a_changeIs a_tape a_text a_names a_line a_row a_pastMany a_past a_changed a_greatest a_numbersWere a_told a_waysOf a_waysWere a_blocks a_ordersOf a_imageLine a_bodyKind a_trace a_shelf a_many a_items a_carried people keptMany done tapeMany textMany base at__35 ends fault_36 opened_37 lineMany rowMany taller tallerBy pasts isKept imageMany bodies ran ownKind ownNumber tape text r_41 hg) hy_X12_byteAt ml_X12_145 hd_X12_byteAt ⟨by omega, by omega⟩ rfl [0, 1, 2] rfl rfl 0 rfl rfl (w_M_product G a_this a_height a_changeAt a_changeWas a_changeIs a_tape a_text a_names a_line a_row a_pastMany a_past a_changed a_greatest a_numbersWere a_told a_waysOf a_waysWere a_blocks a_ordersOf a_imageLine a_bodyKind a_trace a_shelf a_many a_items a_carried people keptMany done tapeMany textMany base at__35 ends fault_36 opened_37 lineMany rowMany taller tallerBy pasts isKept imageMany bodies ran ownKind ownNumber tape text names) [some 0, some 1, some 2, none] rfl (by decide +kernel) rfl rfl (Nat.le_of_ble_eq_true rfl) dX12_product_87 (fun hz_42 => ?_)
                  refine z_istore_n F [(2, .int r_41), (1, .int (v1 / r_34)), (3, .int r_34), (0, .ref a_this)] dX12_product_90 rfl (by decide) rfl ?_
                  refine z_goto F 10 dX12_product_91 (by decide) ?_
                  exact z_sub [3, 1, 0] rfl (ih at__35 fault_36 opened_37 (v1 / r_34) r_41 hf)
              · refine z_iconst F (0) dX12_product_66 rfl ?_
                refine z_goto F 85 dX12_product_67 (by decide) ?_
                refine z_istore_n F [(1, .int 0), (3, .int r_34), (0, .ref a_this), (2, .int v2)] dX12_product_85 rfl (by decide) rfl ?_
                refine z_aload_n F 2 dX12_product_86 rfl rfl ?_
                obtain ⟨r_43, hg, hf⟩ := zb1_some hf
                refine z_callVm (rest := []) F 12 (c_M_byteAt (xL X) G a_this a_height a_changeAt a_changeWas a_changeIs a_tape a_text a_names a_line a_row a_pastMany a_past a_changed a_greatest a_numbersWere a_told a_waysOf a_waysWere a_blocks a_ordersOf a_imageLine a_bodyKind a_trace a_shelf a_many a_items a_carried people keptMany done tapeMany textMany base at__35 ends fault_36 opened_37 lineMany rowMany taller tallerBy pasts isKept imageMany bodies ran ownKind ownNumber tape text r_43 hg) hy_X12_byteAt ml_X12_145 hd_X12_byteAt ⟨by omega, by omega⟩ rfl [0, 1, 2] rfl rfl 0 rfl rfl (w_M_product G a_this a_height a_changeAt a_changeWas a_changeIs a_tape a_text a_names a_line a_row a_pastMany a_past a_changed a_greatest a_numbersWere a_told a_waysOf a_waysWere a_blocks a_ordersOf a_imageLine a_bodyKind a_trace a_shelf a_many a_items a_carried people keptMany done tapeMany textMany base at__35 ends fault_36 opened_37 lineMany rowMany taller tallerBy pasts isKept imageMany bodies ran ownKind ownNumber tape text names) [some 0, some 1, some 2, none] rfl (by decide +kernel) rfl rfl (Nat.le_of_ble_eq_true rfl) dX12_product_87 (fun hz_44 => ?_)
                refine z_istore_n F [(2, .int r_43), (1, .int 0), (3, .int r_34), (0, .ref a_this)] dX12_product_90 rfl (by decide) rfl ?_
                refine z_goto F 10 dX12_product_91 (by decide) ?_
                exact z_sub [3, 1, 0] rfl (ih at__35 fault_36 opened_37 0 r_43 hf)
            · refine z_iload_n F 2 dX12_product_56 rfl rfl ?_
              refine z_iload_n F 0 dX12_product_57 rfl rfl ?_
              refine z_imul F dX12_product_58 ?_
              refine z_goto F 85 dX12_product_59 (by decide) ?_
              refine z_istore_n F [(1, .int (v1 * r_34)), (3, .int r_34), (0, .ref a_this), (2, .int v2)] dX12_product_85 rfl (by decide) rfl ?_
              refine z_aload_n F 2 dX12_product_86 rfl rfl ?_
              obtain ⟨r_45, hg, hf⟩ := zb1_some hf
              refine z_callVm (rest := []) F 12 (c_M_byteAt (xL X) G a_this a_height a_changeAt a_changeWas a_changeIs a_tape a_text a_names a_line a_row a_pastMany a_past a_changed a_greatest a_numbersWere a_told a_waysOf a_waysWere a_blocks a_ordersOf a_imageLine a_bodyKind a_trace a_shelf a_many a_items a_carried people keptMany done tapeMany textMany base at__35 ends fault_36 opened_37 lineMany rowMany taller tallerBy pasts isKept imageMany bodies ran ownKind ownNumber tape text r_45 hg) hy_X12_byteAt ml_X12_145 hd_X12_byteAt ⟨by omega, by omega⟩ rfl [0, 1, 2] rfl rfl 0 rfl rfl (w_M_product G a_this a_height a_changeAt a_changeWas a_changeIs a_tape a_text a_names a_line a_row a_pastMany a_past a_changed a_greatest a_numbersWere a_told a_waysOf a_waysWere a_blocks a_ordersOf a_imageLine a_bodyKind a_trace a_shelf a_many a_items a_carried people keptMany done tapeMany textMany base at__35 ends fault_36 opened_37 lineMany rowMany taller tallerBy pasts isKept imageMany bodies ran ownKind ownNumber tape text names) [some 0, some 1, some 2, none] rfl (by decide +kernel) rfl rfl (Nat.le_of_ble_eq_true rfl) dX12_product_87 (fun hz_46 => ?_)
              refine z_istore_n F [(2, .int r_45), (1, .int (v1 * r_34)), (3, .int r_34), (0, .ref a_this)] dX12_product_90 rfl (by decide) rfl ?_
              refine z_goto F 10 dX12_product_91 (by decide) ?_
              exact z_sub [3, 1, 0] rfl (ih at__35 fault_36 opened_37 (v1 * r_34) r_45 hf)

set_option maxRecDepth 100000 in
set_option maxHeartbeats 4000000 in
theorem c_M_product (l : Launch) (G : zG) (a_this : Nat) (a_height : Nat) (a_changeAt : Nat) (a_changeWas : Nat) (a_changeIs : Nat) (a_tape : Nat) (a_text : Nat) (a_names : Nat) (a_line : Nat) (a_row : Nat) (a_pastMany : Nat) (a_past : Nat) (a_changed : Nat) (a_greatest : Nat) (a_numbersWere : Nat) (a_told : Nat) (a_waysOf : Nat) (a_waysWere : Nat) (a_blocks : Nat) (a_ordersOf : Nat) (a_imageLine : Nat) (a_bodyKind : Nat) (a_trace : Nat) (a_shelf : Nat) (a_many : Nat) (a_items : Nat) (a_carried : Nat) (people : Int32) (keptMany : Int32) (done : Int32) (tapeMany : Int32) (textMany : Int32) (base : Int32) (at_ : Int32) (ends : Int32) (fault : Int32) (opened : Int32) (lineMany : Int32) (rowMany : Int32) (taller : Int32) (tallerBy : Int32) (pasts : Int32) (isKept : Int32) (imageMany : Int32) (bodies : Int32) (ran : Int32) (ownKind : Int32) (ownNumber : Int32) (tape : Nat → Int32) (text : Nat → Int32) (names : Nat → Int32) (rec : Int32 → Int32 → Int32 → Int32 → Int32 → (Nat → Int32) → (Nat → Int32) → (Nat → Int32) → Option (Int32 × Int32 × Int32 × Int32)) {fr1 lo1 : Nat} (hrec : K_M_one l G a_this a_height a_changeAt a_changeWas a_changeIs a_tape a_text a_names a_line a_row a_pastMany a_past a_changed a_greatest a_numbersWere a_told a_waysOf a_waysWere a_blocks a_ordersOf a_imageLine a_bodyKind a_trace a_shelf a_many a_items a_carried fr1 lo1 rec) (r_ : Int32) (o_at_ : Int32) (o_fault : Int32) (o_opened : Int32) (hf : f_M_product rec base at_ ends fault opened tape text names = some (r_, o_at_, o_fault, o_opened)) : zM l yX12_product cX12_product 4 (some .int) (fr1 + 1) (lo1 + 24) G [.ref a_this] (w_M_product G a_this a_height a_changeAt a_changeWas a_changeIs a_tape a_text a_names a_line a_row a_pastMany a_past a_changed a_greatest a_numbersWere a_told a_waysOf a_waysWere a_blocks a_ordersOf a_imageLine a_bodyKind a_trace a_shelf a_many a_items a_carried people keptMany done tapeMany textMany base at_ ends fault opened lineMany rowMany taller tallerBy pasts isKept imageMany bodies ran ownKind ownNumber tape text names) (some (.int r_)) (w_M_product G a_this a_height a_changeAt a_changeWas a_changeIs a_tape a_text a_names a_line a_row a_pastMany a_past a_changed a_greatest a_numbersWere a_told a_waysOf a_waysWere a_blocks a_ordersOf a_imageLine a_bodyKind a_trace a_shelf a_many a_items a_carried people keptMany done tapeMany textMany base o_at_ ends o_fault o_opened lineMany rowMany taller tallerBy pasts isKept imageMany bodies ran ownKind ownNumber tape text names) := by
  refine zM.of [(0, .ref a_this)] (own := RX12) rfl (by decide +kernel) (Nat.le_of_ble_eq_true rfl) rfl rfl fun X hX F => ?_
  subst hX
  replace hf := (f_M_product.eq_1 ..).symm.trans hf
  refine z_aload_n F 0 dX12_product_0 rfl rfl ?_
  obtain ⟨r_1, at__2, fault_3, opened_4, hg, hf⟩ := zb4_some hf
  refine z_callVm (rest := []) F 12 (hrec people keptMany done tapeMany textMany base at_ ends fault opened lineMany rowMany taller tallerBy pasts isKept imageMany bodies ran ownKind ownNumber tape text names r_1 at__2 fault_3 opened_4 hg) hy_X12_one ml_X12_164 hd_X12_one ⟨by omega, by omega⟩ rfl [0, 1, 2, 3] rfl rfl 0 rfl rfl (w_M_product G a_this a_height a_changeAt a_changeWas a_changeIs a_tape a_text a_names a_line a_row a_pastMany a_past a_changed a_greatest a_numbersWere a_told a_waysOf a_waysWere a_blocks a_ordersOf a_imageLine a_bodyKind a_trace a_shelf a_many a_items a_carried people keptMany done tapeMany textMany base at__2 ends fault_3 opened_4 lineMany rowMany taller tallerBy pasts isKept imageMany bodies ran ownKind ownNumber tape text names) [some 0, some 1, some 2, some 3] rfl (by decide +kernel) rfl rfl (Nat.le_of_ble_eq_true rfl) dX12_product_1 (fun hz_5 => ?_)
  refine z_istore_n F [(1, .int r_1), (0, .ref a_this)] dX12_product_4 rfl (by decide) rfl ?_
  refine z_aload_n F 1 dX12_product_5 rfl rfl ?_
  obtain ⟨r_6, hg, hf⟩ := zb1_some hf
  refine z_callVm (rest := []) F 12 (c_M_byteAt (xL X) G a_this a_height a_changeAt a_changeWas a_changeIs a_tape a_text a_names a_line a_row a_pastMany a_past a_changed a_greatest a_numbersWere a_told a_waysOf a_waysWere a_blocks a_ordersOf a_imageLine a_bodyKind a_trace a_shelf a_many a_items a_carried people keptMany done tapeMany textMany base at__2 ends fault_3 opened_4 lineMany rowMany taller tallerBy pasts isKept imageMany bodies ran ownKind ownNumber tape text r_6 hg) hy_X12_byteAt ml_X12_145 hd_X12_byteAt ⟨by omega, by omega⟩ rfl [0, 1, 2] rfl rfl 0 rfl rfl (w_M_product G a_this a_height a_changeAt a_changeWas a_changeIs a_tape a_text a_names a_line a_row a_pastMany a_past a_changed a_greatest a_numbersWere a_told a_waysOf a_waysWere a_blocks a_ordersOf a_imageLine a_bodyKind a_trace a_shelf a_many a_items a_carried people keptMany done tapeMany textMany base at__2 ends fault_3 opened_4 lineMany rowMany taller tallerBy pasts isKept imageMany bodies ran ownKind ownNumber tape text names) [some 0, some 1, some 2, none] rfl (by decide +kernel) rfl rfl (Nat.le_of_ble_eq_true rfl) dX12_product_6 (fun hz_7 => ?_)
  refine z_istore_n F [(2, .int r_6), (1, .int r_1), (0, .ref a_this)] dX12_product_9 rfl (by decide) rfl ?_
  obtain ⟨at__47, fault_48, opened_49, v1_50, hg, hf⟩ := zb4_some hf
  refine z_sub [2, 1, 0] rfl ?_
  refine l_M_product_10 G a_this a_height a_changeAt a_changeWas a_changeIs a_tape a_text a_names a_line a_row a_pastMany a_past a_changed a_greatest a_numbersWere a_told a_waysOf a_waysWere a_blocks a_ordersOf a_imageLine a_bodyKind a_trace a_shelf a_many a_items a_carried people keptMany done tapeMany textMany base ends lineMany rowMany taller tallerBy pasts isKept imageMany bodies ran ownKind ownNumber tape text names rec hrec F at__47 fault_48 opened_49 v1_50 ?_ FU at__2 fault_3 opened_4 r_1 r_6 hg
  refine z_iload_n F 0 dX12_product_94 rfl rfl ?_
  have eq1 := Option.some.inj hf
  obtain ⟨ee1, eq2⟩ := Prod.mk.inj eq1
  obtain ⟨ee2, eq3⟩ := Prod.mk.inj eq2
  obtain ⟨ee3, ee4⟩ := Prod.mk.inj eq3
  subst ee1
  subst ee2
  subst ee3
  subst ee4
  exact z_iret F rfl rfl rfl rfl dX12_product_95

