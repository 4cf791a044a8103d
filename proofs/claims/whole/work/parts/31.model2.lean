/-! by program (wip/whole/gen.py): pure functions and contracts -/
theorem dX12_sums_0 : decode cX12_sums 0 = .ok (.aload_n 0, 1) := by decide +kernel
theorem dX12_sums_1 : decode cX12_sums 1 = .ok (.invokevirtual 161, 3) := by decide +kernel
theorem dX12_sums_4 : decode cX12_sums 4 = .ok (.istore_n 1, 1) := by decide +kernel
theorem dX12_sums_5 : decode cX12_sums 5 = .ok (.aload_n 0, 1) := by decide +kernel
theorem dX12_sums_6 : decode cX12_sums 6 = .ok (.getfield 142, 3) := by decide +kernel
theorem dX12_sums_9 : decode cX12_sums 9 = .ok (.ifCond .ge 68, 3) := by decide +kernel
theorem dX12_sums_12 : decode cX12_sums 12 = .ok (.aload_n 0, 1) := by decide +kernel
theorem dX12_sums_13 : decode cX12_sums 13 = .ok (.invokevirtual 145, 3) := by decide +kernel
theorem dX12_sums_16 : decode cX12_sums 16 = .ok (.bipush 43, 2) := by decide +kernel
theorem dX12_sums_18 : decode cX12_sums 18 = .ok (.if_icmp .eq 12, 3) := by decide +kernel
theorem dX12_sums_21 : decode cX12_sums 21 = .ok (.aload_n 0, 1) := by decide +kernel
theorem dX12_sums_22 : decode cX12_sums 22 = .ok (.invokevirtual 145, 3) := by decide +kernel
theorem dX12_sums_25 : decode cX12_sums 25 = .ok (.bipush 45, 2) := by decide +kernel
theorem dX12_sums_27 : decode cX12_sums 27 = .ok (.if_icmp .ne 50, 3) := by decide +kernel
theorem dX12_sums_30 : decode cX12_sums 30 = .ok (.aload_n 0, 1) := by decide +kernel
theorem dX12_sums_31 : decode cX12_sums 31 = .ok (.invokevirtual 145, 3) := by decide +kernel
theorem dX12_sums_34 : decode cX12_sums 34 = .ok (.bipush 43, 2) := by decide +kernel
theorem dX12_sums_36 : decode cX12_sums 36 = .ok (.if_icmp .ne 7, 3) := by decide +kernel
theorem dX12_sums_39 : decode cX12_sums 39 = .ok (.iconst 1, 1) := by decide +kernel
theorem dX12_sums_40 : decode cX12_sums 40 = .ok (.goto 4, 3) := by decide +kernel
theorem dX12_sums_43 : decode cX12_sums 43 = .ok (.iconst 0, 1) := by decide +kernel
theorem dX12_sums_44 : decode cX12_sums 44 = .ok (.istore_n 2, 1) := by decide +kernel
theorem dX12_sums_45 : decode cX12_sums 45 = .ok (.aload_n 0, 1) := by decide +kernel
theorem dX12_sums_46 : decode cX12_sums 46 = .ok (.dup, 1) := by decide +kernel
theorem dX12_sums_47 : decode cX12_sums 47 = .ok (.getfield 133, 3) := by decide +kernel
theorem dX12_sums_50 : decode cX12_sums 50 = .ok (.iconst 1, 1) := by decide +kernel
theorem dX12_sums_51 : decode cX12_sums 51 = .ok (.iadd, 1) := by decide +kernel
theorem dX12_sums_52 : decode cX12_sums 52 = .ok (.putfield 133, 3) := by decide +kernel
theorem dX12_sums_55 : decode cX12_sums 55 = .ok (.aload_n 0, 1) := by decide +kernel
theorem dX12_sums_56 : decode cX12_sums 56 = .ok (.invokevirtual 161, 3) := by decide +kernel
theorem dX12_sums_59 : decode cX12_sums 59 = .ok (.istore_n 3, 1) := by decide +kernel
theorem dX12_sums_60 : decode cX12_sums 60 = .ok (.iload_n 2, 1) := by decide +kernel
theorem dX12_sums_61 : decode cX12_sums 61 = .ok (.ifCond .eq 9, 3) := by decide +kernel
theorem dX12_sums_64 : decode cX12_sums 64 = .ok (.iload_n 1, 1) := by decide +kernel
theorem dX12_sums_65 : decode cX12_sums 65 = .ok (.iload_n 3, 1) := by decide +kernel
theorem dX12_sums_66 : decode cX12_sums 66 = .ok (.iadd, 1) := by decide +kernel
theorem dX12_sums_67 : decode cX12_sums 67 = .ok (.goto 6, 3) := by decide +kernel
theorem dX12_sums_70 : decode cX12_sums 70 = .ok (.iload_n 1, 1) := by decide +kernel
theorem dX12_sums_71 : decode cX12_sums 71 = .ok (.iload_n 3, 1) := by decide +kernel
theorem dX12_sums_72 : decode cX12_sums 72 = .ok (.isub, 1) := by decide +kernel
theorem dX12_sums_73 : decode cX12_sums 73 = .ok (.istore_n 1, 1) := by decide +kernel
theorem dX12_sums_74 : decode cX12_sums 74 = .ok (.goto (-69), 3) := by decide +kernel
theorem dX12_sums_77 : decode cX12_sums 77 = .ok (.iload_n 1, 1) := by decide +kernel
theorem dX12_sums_78 : decode cX12_sums 78 = .ok (.ireturn, 1) := by decide +kernel
theorem dX12_compared_0 : decode cX12_compared 0 = .ok (.aload_n 0, 1) := by decide +kernel
theorem dX12_compared_1 : decode cX12_compared 1 = .ok (.invokevirtual 158, 3) := by decide +kernel
theorem dX12_compared_4 : decode cX12_compared 4 = .ok (.istore_n 1, 1) := by decide +kernel
theorem dX12_compared_5 : decode cX12_compared 5 = .ok (.aload_n 0, 1) := by decide +kernel
theorem dX12_compared_6 : decode cX12_compared 6 = .ok (.invokevirtual 145, 3) := by decide +kernel
theorem dX12_compared_9 : decode cX12_compared 9 = .ok (.istore_n 2, 1) := by decide +kernel
theorem dX12_compared_10 : decode cX12_compared 10 = .ok (.aload_n 0, 1) := by decide +kernel
theorem dX12_compared_11 : decode cX12_compared 11 = .ok (.getfield 142, 3) := by decide +kernel
theorem dX12_compared_14 : decode cX12_compared 14 = .ok (.ifCond .ge 21, 3) := by decide +kernel
theorem dX12_compared_17 : decode cX12_compared 17 = .ok (.iload_n 2, 1) := by decide +kernel
theorem dX12_compared_18 : decode cX12_compared 18 = .ok (.bipush 60, 2) := by decide +kernel
theorem dX12_compared_20 : decode cX12_compared 20 = .ok (.if_icmp .eq 17, 3) := by decide +kernel
theorem dX12_compared_23 : decode cX12_compared 23 = .ok (.iload_n 2, 1) := by decide +kernel
theorem dX12_compared_24 : decode cX12_compared 24 = .ok (.bipush 61, 2) := by decide +kernel
theorem dX12_compared_26 : decode cX12_compared 26 = .ok (.if_icmp .eq 11, 3) := by decide +kernel
theorem dX12_compared_29 : decode cX12_compared 29 = .ok (.iload_n 2, 1) := by decide +kernel
theorem dX12_compared_30 : decode cX12_compared 30 = .ok (.bipush 62, 2) := by decide +kernel
theorem dX12_compared_32 : decode cX12_compared 32 = .ok (.if_icmp .eq 5, 3) := by decide +kernel
theorem dX12_compared_35 : decode cX12_compared 35 = .ok (.iload_n 1, 1) := by decide +kernel
theorem dX12_compared_36 : decode cX12_compared 36 = .ok (.ireturn, 1) := by decide +kernel
theorem dX12_compared_37 : decode cX12_compared 37 = .ok (.aload_n 0, 1) := by decide +kernel
theorem dX12_compared_38 : decode cX12_compared 38 = .ok (.dup, 1) := by decide +kernel
theorem dX12_compared_39 : decode cX12_compared 39 = .ok (.getfield 133, 3) := by decide +kernel
theorem dX12_compared_42 : decode cX12_compared 42 = .ok (.iconst 1, 1) := by decide +kernel
theorem dX12_compared_43 : decode cX12_compared 43 = .ok (.iadd, 1) := by decide +kernel
theorem dX12_compared_44 : decode cX12_compared 44 = .ok (.putfield 133, 3) := by decide +kernel
theorem dX12_compared_47 : decode cX12_compared 47 = .ok (.aload_n 0, 1) := by decide +kernel
theorem dX12_compared_48 : decode cX12_compared 48 = .ok (.invokevirtual 158, 3) := by decide +kernel
theorem dX12_compared_51 : decode cX12_compared 51 = .ok (.istore_n 3, 1) := by decide +kernel
theorem dX12_compared_52 : decode cX12_compared 52 = .ok (.iload_n 2, 1) := by decide +kernel
theorem dX12_compared_53 : decode cX12_compared 53 = .ok (.bipush 60, 2) := by decide +kernel
theorem dX12_compared_55 : decode cX12_compared 55 = .ok (.if_icmp .ne 11, 3) := by decide +kernel
theorem dX12_compared_58 : decode cX12_compared 58 = .ok (.iload_n 1, 1) := by decide +kernel
theorem dX12_compared_59 : decode cX12_compared 59 = .ok (.iload_n 3, 1) := by decide +kernel
theorem dX12_compared_60 : decode cX12_compared 60 = .ok (.if_icmp .ge 29, 3) := by decide +kernel
theorem dX12_compared_63 : decode cX12_compared 63 = .ok (.goto 22, 3) := by decide +kernel
theorem dX12_compared_66 : decode cX12_compared 66 = .ok (.iload_n 2, 1) := by decide +kernel
theorem dX12_compared_67 : decode cX12_compared 67 = .ok (.bipush 61, 2) := by decide +kernel
theorem dX12_compared_69 : decode cX12_compared 69 = .ok (.if_icmp .ne 11, 3) := by decide +kernel
theorem dX12_compared_72 : decode cX12_compared 72 = .ok (.iload_n 1, 1) := by decide +kernel
theorem dX12_compared_73 : decode cX12_compared 73 = .ok (.iload_n 3, 1) := by decide +kernel
theorem dX12_compared_74 : decode cX12_compared 74 = .ok (.if_icmp .ne 15, 3) := by decide +kernel
theorem dX12_compared_77 : decode cX12_compared 77 = .ok (.goto 8, 3) := by decide +kernel
theorem dX12_compared_80 : decode cX12_compared 80 = .ok (.iload_n 1, 1) := by decide +kernel
theorem dX12_compared_81 : decode cX12_compared 81 = .ok (.iload_n 3, 1) := by decide +kernel
theorem dX12_compared_82 : decode cX12_compared 82 = .ok (.if_icmp .le 7, 3) := by decide +kernel
theorem dX12_compared_85 : decode cX12_compared 85 = .ok (.iconst 1, 1) := by decide +kernel
theorem dX12_compared_86 : decode cX12_compared 86 = .ok (.goto 4, 3) := by decide +kernel
theorem dX12_compared_89 : decode cX12_compared 89 = .ok (.iconst 0, 1) := by decide +kernel
theorem dX12_compared_90 : decode cX12_compared 90 = .ok (.ireturn, 1) := by decide +kernel
theorem dX12_both_0 : decode cX12_both 0 = .ok (.aload_n 0, 1) := by decide +kernel
theorem dX12_both_1 : decode cX12_both 1 = .ok (.invokevirtual 155, 3) := by decide +kernel
theorem dX12_both_4 : decode cX12_both 4 = .ok (.istore_n 1, 1) := by decide +kernel
theorem dX12_both_5 : decode cX12_both 5 = .ok (.aload_n 0, 1) := by decide +kernel
theorem dX12_both_6 : decode cX12_both 6 = .ok (.bipush 38, 2) := by decide +kernel
theorem dX12_both_8 : decode cX12_both 8 = .ok (.invokevirtual 152, 3) := by decide +kernel
theorem dX12_both_11 : decode cX12_both 11 = .ok (.ifCond .eq 25, 3) := by decide +kernel
theorem dX12_both_14 : decode cX12_both 14 = .ok (.aload_n 0, 1) := by decide +kernel
theorem dX12_both_15 : decode cX12_both 15 = .ok (.invokevirtual 155, 3) := by decide +kernel
theorem dX12_both_18 : decode cX12_both 18 = .ok (.istore_n 2, 1) := by decide +kernel
theorem dX12_both_19 : decode cX12_both 19 = .ok (.iload_n 1, 1) := by decide +kernel
theorem dX12_both_20 : decode cX12_both 20 = .ok (.ifCond .eq 11, 3) := by decide +kernel
theorem dX12_both_23 : decode cX12_both 23 = .ok (.iload_n 2, 1) := by decide +kernel
theorem dX12_both_24 : decode cX12_both 24 = .ok (.ifCond .eq 7, 3) := by decide +kernel
theorem dX12_both_27 : decode cX12_both 27 = .ok (.iconst 1, 1) := by decide +kernel
theorem dX12_both_28 : decode cX12_both 28 = .ok (.goto 4, 3) := by decide +kernel
theorem dX12_both_31 : decode cX12_both 31 = .ok (.iconst 0, 1) := by decide +kernel
theorem dX12_both_32 : decode cX12_both 32 = .ok (.istore_n 1, 1) := by decide +kernel
theorem dX12_both_33 : decode cX12_both 33 = .ok (.goto (-28), 3) := by decide +kernel
theorem dX12_both_36 : decode cX12_both 36 = .ok (.iload_n 1, 1) := by decide +kernel
theorem dX12_both_37 : decode cX12_both 37 = .ok (.ireturn, 1) := by decide +kernel
theorem dX12_either_0 : decode cX12_either 0 = .ok (.aload_n 0, 1) := by decide +kernel
theorem dX12_either_1 : decode cX12_either 1 = .ok (.invokevirtual 149, 3) := by decide +kernel
theorem dX12_either_4 : decode cX12_either 4 = .ok (.istore_n 1, 1) := by decide +kernel
theorem dX12_either_5 : decode cX12_either 5 = .ok (.aload_n 0, 1) := by decide +kernel
theorem dX12_either_6 : decode cX12_either 6 = .ok (.bipush 124, 2) := by decide +kernel
theorem dX12_either_8 : decode cX12_either 8 = .ok (.invokevirtual 152, 3) := by decide +kernel
theorem dX12_either_11 : decode cX12_either 11 = .ok (.ifCond .eq 25, 3) := by decide +kernel
theorem dX12_either_14 : decode cX12_either 14 = .ok (.aload_n 0, 1) := by decide +kernel
theorem dX12_either_15 : decode cX12_either 15 = .ok (.invokevirtual 149, 3) := by decide +kernel
theorem dX12_either_18 : decode cX12_either 18 = .ok (.istore_n 2, 1) := by decide +kernel
theorem dX12_either_19 : decode cX12_either 19 = .ok (.iload_n 1, 1) := by decide +kernel
theorem dX12_either_20 : decode cX12_either 20 = .ok (.ifCond .ne 7, 3) := by decide +kernel
theorem dX12_either_23 : decode cX12_either 23 = .ok (.iload_n 2, 1) := by decide +kernel
theorem dX12_either_24 : decode cX12_either 24 = .ok (.ifCond .eq 7, 3) := by decide +kernel
theorem dX12_either_27 : decode cX12_either 27 = .ok (.iconst 1, 1) := by decide +kernel
theorem dX12_either_28 : decode cX12_either 28 = .ok (.goto 4, 3) := by decide +kernel
theorem dX12_either_31 : decode cX12_either 31 = .ok (.iconst 0, 1) := by decide +kernel
theorem dX12_either_32 : decode cX12_either 32 = .ok (.istore_n 1, 1) := by decide +kernel
theorem dX12_either_33 : decode cX12_either 33 = .ok (.goto (-28), 3) := by decide +kernel
theorem dX12_either_36 : decode cX12_either 36 = .ok (.iload_n 1, 1) := by decide +kernel
theorem dX12_either_37 : decode cX12_either 37 = .ok (.ireturn, 1) := by decide +kernel
theorem dX12_nameOf_0 : decode cX12_nameOf 0 = .ok (.iload_n 0, 1) := by decide +kernel
theorem dX12_nameOf_1 : decode cX12_nameOf 1 = .ok (.lookupswitch 61 #[(97, 51), (98, 53), (103, 55), (112, 57), (113, 59)], 51) := by decide +kernel
theorem dX12_nameOf_52 : decode cX12_nameOf 52 = .ok (.iconst 0, 1) := by decide +kernel
theorem dX12_nameOf_53 : decode cX12_nameOf 53 = .ok (.ireturn, 1) := by decide +kernel
theorem dX12_nameOf_54 : decode cX12_nameOf 54 = .ok (.iconst 1, 1) := by decide +kernel
theorem dX12_nameOf_55 : decode cX12_nameOf 55 = .ok (.ireturn, 1) := by decide +kernel
theorem dX12_nameOf_56 : decode cX12_nameOf 56 = .ok (.iconst 2, 1) := by decide +kernel
theorem dX12_nameOf_57 : decode cX12_nameOf 57 = .ok (.ireturn, 1) := by decide +kernel
theorem dX12_nameOf_58 : decode cX12_nameOf 58 = .ok (.iconst 3, 1) := by decide +kernel
theorem dX12_nameOf_59 : decode cX12_nameOf 59 = .ok (.ireturn, 1) := by decide +kernel
theorem dX12_nameOf_60 : decode cX12_nameOf 60 = .ok (.iconst 4, 1) := by decide +kernel
theorem dX12_nameOf_61 : decode cX12_nameOf 61 = .ok (.ireturn, 1) := by decide +kernel
theorem dX12_nameOf_62 : decode cX12_nameOf 62 = .ok (.iconst (-1), 1) := by decide +kernel
theorem dX12_nameOf_63 : decode cX12_nameOf 63 = .ok (.ireturn, 1) := by decide +kernel
theorem dX12_one_0 : decode cX12_one 0 = .ok (.aload_n 0, 1) := by decide +kernel
theorem dX12_one_1 : decode cX12_one 1 = .ok (.getfield 142, 3) := by decide +kernel
theorem dX12_one_4 : decode cX12_one 4 = .ok (.ifCond .lt 5, 3) := by decide +kernel
theorem dX12_one_7 : decode cX12_one 7 = .ok (.iconst 0, 1) := by decide +kernel
theorem dX12_one_8 : decode cX12_one 8 = .ok (.ireturn, 1) := by decide +kernel
theorem dX12_one_9 : decode cX12_one 9 = .ok (.aload_n 0, 1) := by decide +kernel
theorem dX12_one_10 : decode cX12_one 10 = .ok (.invokevirtual 145, 3) := by decide +kernel
theorem dX12_one_13 : decode cX12_one 13 = .ok (.istore_n 1, 1) := by decide +kernel
theorem dX12_one_14 : decode cX12_one 14 = .ok (.iload_n 1, 1) := by decide +kernel
theorem dX12_one_15 : decode cX12_one 15 = .ok (.bipush 33, 2) := by decide +kernel
theorem dX12_one_17 : decode cX12_one 17 = .ok (.if_icmp .eq 15, 3) := by decide +kernel
theorem dX12_one_20 : decode cX12_one 20 = .ok (.iload_n 1, 1) := by decide +kernel
theorem dX12_one_21 : decode cX12_one 21 = .ok (.bipush 45, 2) := by decide +kernel
theorem dX12_one_23 : decode cX12_one 23 = .ok (.if_icmp .eq 9, 3) := by decide +kernel
theorem dX12_one_26 : decode cX12_one 26 = .ok (.iload_n 1, 1) := by decide +kernel
theorem dX12_one_27 : decode cX12_one 27 = .ok (.bipush 40, 2) := by decide +kernel
theorem dX12_one_29 : decode cX12_one 29 = .ok (.if_icmp .ne 116, 3) := by decide +kernel
theorem dX12_one_32 : decode cX12_one 32 = .ok (.aload_n 0, 1) := by decide +kernel
theorem dX12_one_33 : decode cX12_one 33 = .ok (.getfield 167, 3) := by decide +kernel
theorem dX12_one_36 : decode cX12_one 36 = .ok (.bipush 6, 2) := by decide +kernel
theorem dX12_one_38 : decode cX12_one 38 = .ok (.if_icmp .ne 8, 3) := by decide +kernel
theorem dX12_one_41 : decode cX12_one 41 = .ok (.aload_n 0, 1) := by decide +kernel
theorem dX12_one_42 : decode cX12_one 42 = .ok (.invokevirtual 170, 3) := by decide +kernel
theorem dX12_one_45 : decode cX12_one 45 = .ok (.ireturn, 1) := by decide +kernel
theorem dX12_one_46 : decode cX12_one 46 = .ok (.aload_n 0, 1) := by decide +kernel
theorem dX12_one_47 : decode cX12_one 47 = .ok (.dup, 1) := by decide +kernel
theorem dX12_one_48 : decode cX12_one 48 = .ok (.getfield 167, 3) := by decide +kernel
theorem dX12_one_51 : decode cX12_one 51 = .ok (.iconst 1, 1) := by decide +kernel
theorem dX12_one_52 : decode cX12_one 52 = .ok (.iadd, 1) := by decide +kernel
theorem dX12_one_53 : decode cX12_one 53 = .ok (.putfield 167, 3) := by decide +kernel
theorem dX12_one_56 : decode cX12_one 56 = .ok (.aload_n 0, 1) := by decide +kernel
theorem dX12_one_57 : decode cX12_one 57 = .ok (.dup, 1) := by decide +kernel
theorem dX12_one_58 : decode cX12_one 58 = .ok (.getfield 133, 3) := by decide +kernel
theorem dX12_one_61 : decode cX12_one 61 = .ok (.iconst 1, 1) := by decide +kernel
theorem dX12_one_62 : decode cX12_one 62 = .ok (.iadd, 1) := by decide +kernel
theorem dX12_one_63 : decode cX12_one 63 = .ok (.putfield 133, 3) := by decide +kernel
theorem dX12_one_66 : decode cX12_one 66 = .ok (.iload_n 1, 1) := by decide +kernel
theorem dX12_one_67 : decode cX12_one 67 = .ok (.bipush 40, 2) := by decide +kernel
theorem dX12_one_69 : decode cX12_one 69 = .ok (.if_icmp .ne 10, 3) := by decide +kernel
theorem dX12_one_72 : decode cX12_one 72 = .ok (.aload_n 0, 1) := by decide +kernel
theorem dX12_one_73 : decode cX12_one 73 = .ok (.invokevirtual 173, 3) := by decide +kernel
theorem dX12_one_76 : decode cX12_one 76 = .ok (.goto 7, 3) := by decide +kernel
theorem dX12_one_79 : decode cX12_one 79 = .ok (.aload_n 0, 1) := by decide +kernel
theorem dX12_one_80 : decode cX12_one 80 = .ok (.invokevirtual 164, 3) := by decide +kernel
theorem dX12_one_83 : decode cX12_one 83 = .ok (.istore_n 2, 1) := by decide +kernel
theorem dX12_one_84 : decode cX12_one 84 = .ok (.iload_n 1, 1) := by decide +kernel
theorem dX12_one_85 : decode cX12_one 85 = .ok (.bipush 40, 2) := by decide +kernel
theorem dX12_one_87 : decode cX12_one 87 = .ok (.if_icmp .ne 17, 3) := by decide +kernel
theorem dX12_one_90 : decode cX12_one 90 = .ok (.aload_n 0, 1) := by decide +kernel
theorem dX12_one_91 : decode cX12_one 91 = .ok (.bipush 41, 2) := by decide +kernel
theorem dX12_one_93 : decode cX12_one 93 = .ok (.invokevirtual 152, 3) := by decide +kernel
theorem dX12_one_96 : decode cX12_one 96 = .ok (.ifCond .ne 8, 3) := by decide +kernel
theorem dX12_one_99 : decode cX12_one 99 = .ok (.aload_n 0, 1) := by decide +kernel
theorem dX12_one_100 : decode cX12_one 100 = .ok (.invokevirtual 170, 3) := by decide +kernel
theorem dX12_one_103 : decode cX12_one 103 = .ok (.ireturn, 1) := by decide +kernel
theorem dX12_one_104 : decode cX12_one 104 = .ok (.aload_n 0, 1) := by decide +kernel
theorem dX12_one_105 : decode cX12_one 105 = .ok (.dup, 1) := by decide +kernel
theorem dX12_one_106 : decode cX12_one 106 = .ok (.getfield 167, 3) := by decide +kernel
theorem dX12_one_109 : decode cX12_one 109 = .ok (.iconst 1, 1) := by decide +kernel
theorem dX12_one_110 : decode cX12_one 110 = .ok (.isub, 1) := by decide +kernel
theorem dX12_one_111 : decode cX12_one 111 = .ok (.putfield 167, 3) := by decide +kernel
theorem dX12_one_114 : decode cX12_one 114 = .ok (.iload_n 1, 1) := by decide +kernel
theorem dX12_one_115 : decode cX12_one 115 = .ok (.bipush 40, 2) := by decide +kernel
theorem dX12_one_117 : decode cX12_one 117 = .ok (.if_icmp .ne 7, 3) := by decide +kernel
theorem dX12_one_120 : decode cX12_one 120 = .ok (.iload_n 2, 1) := by decide +kernel
theorem dX12_one_121 : decode cX12_one 121 = .ok (.goto 23, 3) := by decide +kernel
theorem dX12_one_124 : decode cX12_one 124 = .ok (.iload_n 1, 1) := by decide +kernel
theorem dX12_one_125 : decode cX12_one 125 = .ok (.bipush 45, 2) := by decide +kernel
theorem dX12_one_127 : decode cX12_one 127 = .ok (.if_icmp .ne 8, 3) := by decide +kernel
theorem dX12_one_130 : decode cX12_one 130 = .ok (.iload_n 2, 1) := by decide +kernel
theorem dX12_one_131 : decode cX12_one 131 = .ok (.ineg, 1) := by decide +kernel
theorem dX12_one_132 : decode cX12_one 132 = .ok (.goto 12, 3) := by decide +kernel
theorem dX12_one_135 : decode cX12_one 135 = .ok (.iload_n 2, 1) := by decide +kernel
theorem dX12_one_136 : decode cX12_one 136 = .ok (.ifCond .ne 7, 3) := by decide +kernel
theorem dX12_one_139 : decode cX12_one 139 = .ok (.iconst 1, 1) := by decide +kernel
theorem dX12_one_140 : decode cX12_one 140 = .ok (.goto 4, 3) := by decide +kernel
theorem dX12_one_143 : decode cX12_one 143 = .ok (.iconst 0, 1) := by decide +kernel
theorem dX12_one_144 : decode cX12_one 144 = .ok (.ireturn, 1) := by decide +kernel
theorem dX12_one_145 : decode cX12_one 145 = .ok (.iload_n 1, 1) := by decide +kernel
theorem dX12_one_146 : decode cX12_one 146 = .ok (.invokestatic 176, 3) := by decide +kernel
theorem dX12_one_149 : decode cX12_one 149 = .ok (.istore_n 2, 1) := by decide +kernel
theorem dX12_one_150 : decode cX12_one 150 = .ok (.iload_n 2, 1) := by decide +kernel
theorem dX12_one_151 : decode cX12_one 151 = .ok (.ifCond .lt 20, 3) := by decide +kernel
theorem dX12_one_154 : decode cX12_one 154 = .ok (.aload_n 0, 1) := by decide +kernel
theorem dX12_one_155 : decode cX12_one 155 = .ok (.dup, 1) := by decide +kernel
theorem dX12_one_156 : decode cX12_one 156 = .ok (.getfield 133, 3) := by decide +kernel
theorem dX12_one_159 : decode cX12_one 159 = .ok (.iconst 1, 1) := by decide +kernel
theorem dX12_one_160 : decode cX12_one 160 = .ok (.iadd, 1) := by decide +kernel
theorem dX12_one_161 : decode cX12_one 161 = .ok (.putfield 133, 3) := by decide +kernel
theorem dX12_one_164 : decode cX12_one 164 = .ok (.aload_n 0, 1) := by decide +kernel
theorem dX12_one_165 : decode cX12_one 165 = .ok (.getfield 28, 3) := by decide +kernel
theorem dX12_one_168 : decode cX12_one 168 = .ok (.iload_n 2, 1) := by decide +kernel
theorem dX12_one_169 : decode cX12_one 169 = .ok (.iaload, 1) := by decide +kernel
theorem dX12_one_170 : decode cX12_one 170 = .ok (.ireturn, 1) := by decide +kernel
theorem dX12_one_171 : decode cX12_one 171 = .ok (.iconst 0, 1) := by decide +kernel
theorem dX12_one_172 : decode cX12_one 172 = .ok (.istore_n 3, 1) := by decide +kernel
theorem dX12_one_173 : decode cX12_one 173 = .ok (.iconst 0, 1) := by decide +kernel
theorem dX12_one_174 : decode cX12_one 174 = .ok (.istore 4, 2) := by decide +kernel
theorem dX12_one_176 : decode cX12_one 176 = .ok (.iload 4, 2) := by decide +kernel
theorem dX12_one_178 : decode cX12_one 178 = .ok (.iconst 4, 1) := by decide +kernel
theorem dX12_one_179 : decode cX12_one 179 = .ok (.if_icmp .ge 50, 3) := by decide +kernel
theorem dX12_one_182 : decode cX12_one 182 = .ok (.aload_n 0, 1) := by decide +kernel
theorem dX12_one_183 : decode cX12_one 183 = .ok (.invokevirtual 145, 3) := by decide +kernel
theorem dX12_one_186 : decode cX12_one 186 = .ok (.bipush 48, 2) := by decide +kernel
theorem dX12_one_188 : decode cX12_one 188 = .ok (.if_icmp .lt 41, 3) := by decide +kernel
theorem dX12_one_191 : decode cX12_one 191 = .ok (.aload_n 0, 1) := by decide +kernel
theorem dX12_one_192 : decode cX12_one 192 = .ok (.invokevirtual 145, 3) := by decide +kernel
theorem dX12_one_195 : decode cX12_one 195 = .ok (.bipush 57, 2) := by decide +kernel
theorem dX12_one_197 : decode cX12_one 197 = .ok (.if_icmp .gt 32, 3) := by decide +kernel
theorem dX12_one_200 : decode cX12_one 200 = .ok (.bipush 10, 2) := by decide +kernel
theorem dX12_one_202 : decode cX12_one 202 = .ok (.iload_n 3, 1) := by decide +kernel
theorem dX12_one_203 : decode cX12_one 203 = .ok (.imul, 1) := by decide +kernel
theorem dX12_one_204 : decode cX12_one 204 = .ok (.aload_n 0, 1) := by decide +kernel
theorem dX12_one_205 : decode cX12_one 205 = .ok (.invokevirtual 145, 3) := by decide +kernel
theorem dX12_one_208 : decode cX12_one 208 = .ok (.iadd, 1) := by decide +kernel
theorem dX12_one_209 : decode cX12_one 209 = .ok (.bipush 48, 2) := by decide +kernel
theorem dX12_one_211 : decode cX12_one 211 = .ok (.isub, 1) := by decide +kernel
theorem dX12_one_212 : decode cX12_one 212 = .ok (.istore_n 3, 1) := by decide +kernel
theorem dX12_one_213 : decode cX12_one 213 = .ok (.iinc 4 1, 3) := by decide +kernel
theorem dX12_one_216 : decode cX12_one 216 = .ok (.aload_n 0, 1) := by decide +kernel
theorem dX12_one_217 : decode cX12_one 217 = .ok (.dup, 1) := by decide +kernel
theorem dX12_one_218 : decode cX12_one 218 = .ok (.getfield 133, 3) := by decide +kernel
theorem dX12_one_221 : decode cX12_one 221 = .ok (.iconst 1, 1) := by decide +kernel
theorem dX12_one_222 : decode cX12_one 222 = .ok (.iadd, 1) := by decide +kernel
theorem dX12_one_223 : decode cX12_one 223 = .ok (.putfield 133, 3) := by decide +kernel
theorem dX12_one_226 : decode cX12_one 226 = .ok (.goto (-50), 3) := by decide +kernel
theorem dX12_one_229 : decode cX12_one 229 = .ok (.iload 4, 2) := by decide +kernel
theorem dX12_one_231 : decode cX12_one 231 = .ok (.ifCond .ne 10, 3) := by decide +kernel
theorem dX12_one_234 : decode cX12_one 234 = .ok (.aload_n 0, 1) := by decide +kernel
theorem dX12_one_235 : decode cX12_one 235 = .ok (.invokevirtual 170, 3) := by decide +kernel
theorem dX12_one_238 : decode cX12_one 238 = .ok (.goto 4, 3) := by decide +kernel
theorem dX12_one_241 : decode cX12_one 241 = .ok (.iload_n 3, 1) := by decide +kernel
theorem dX12_one_242 : decode cX12_one 242 = .ok (.ireturn, 1) := by decide +kernel
theorem fl_X12_167 : Cond.fieldLink RX12 167 (TX12 15).1 (TX12 15).2.1 (TX12 15).2.2.1 ∈ wsL_law := (uw19 _ (List.mem_of_getElem? (i := 22) rfl))
theorem fl_X12_28 : Cond.fieldLink RX12 28 (TX12 16).1 (TX12 16).2.1 (TX12 16).2.2.1 ∈ wsL_law := (uw8 _ (List.mem_of_getElem? (i := 4) rfl))
theorem hy_X12_both : Cond.code yX12_both cX12_both 3 (some .int) ∈ wsL_law ∧ Cond.initialized yX12_both.cls ∈ wsL_law ∧ Cond.instanceMethod yX12_both ∈ wsL_law ∧ Cond.selects yX12_both.cls yX12_both yX12_both ∈ wsL_law := ⟨(uw20 _ (List.mem_of_getElem? (i := 14) rfl)), (uw1 _ (List.mem_of_getElem? (i := 5) rfl)), (uw20 _ (List.mem_of_getElem? (i := 4) rfl)), (uw20 _ (List.mem_of_getElem? (i := 5) rfl))⟩
theorem hd_X12_both : yX12_both.cls ≠ "java/lang/invoke/MethodHandle" ∧ yX12_both.cls ≠ "java/lang/invoke/VarHandle" ∧ (parseMethodDescriptor yX12_both.desc).map (fun d => d.parameters.length) = some 0 := ⟨by decide +kernel, by decide +kernel, by decide +kernel⟩
theorem hy_X12_compared : Cond.code yX12_compared cX12_compared 4 (some .int) ∈ wsL_law ∧ Cond.initialized yX12_compared.cls ∈ wsL_law ∧ Cond.instanceMethod yX12_compared ∈ wsL_law ∧ Cond.selects yX12_compared.cls yX12_compared yX12_compared ∈ wsL_law := ⟨(uw20 _ (List.mem_of_getElem? (i := 18) rfl)), (uw1 _ (List.mem_of_getElem? (i := 5) rfl)), (uw20 _ (List.mem_of_getElem? (i := 16) rfl)), (uw20 _ (List.mem_of_getElem? (i := 17) rfl))⟩
theorem hd_X12_compared : yX12_compared.cls ≠ "java/lang/invoke/MethodHandle" ∧ yX12_compared.cls ≠ "java/lang/invoke/VarHandle" ∧ (parseMethodDescriptor yX12_compared.desc).map (fun d => d.parameters.length) = some 0 := ⟨by decide +kernel, by decide +kernel, by decide +kernel⟩
theorem hy_X12_either : Cond.code yX12_either cX12_either 3 (some .int) ∈ wsL_law ∧ Cond.initialized yX12_either.cls ∈ wsL_law ∧ Cond.instanceMethod yX12_either ∈ wsL_law ∧ Cond.selects yX12_either.cls yX12_either yX12_either ∈ wsL_law := ⟨(uw20 _ (List.mem_of_getElem? (i := 2) rfl)), (uw1 _ (List.mem_of_getElem? (i := 5) rfl)), (uw20 _ (List.mem_of_getElem? (i := 0) rfl)), (uw20 _ (List.mem_of_getElem? (i := 1) rfl))⟩
theorem hd_X12_either : yX12_either.cls ≠ "java/lang/invoke/MethodHandle" ∧ yX12_either.cls ≠ "java/lang/invoke/VarHandle" ∧ (parseMethodDescriptor yX12_either.desc).map (fun d => d.parameters.length) = some 0 := ⟨by decide +kernel, by decide +kernel, by decide +kernel⟩
theorem hy_X12_nameOf : Cond.code yX12_nameOf cX12_nameOf 1 (some .int) ∈ wsL_law ∧ Cond.initialized yX12_nameOf.cls ∈ wsL_law ∧ Cond.static yX12_nameOf ∈ wsL_law := ⟨(uw21 _ (List.mem_of_getElem? (i := 8) rfl)), (uw1 _ (List.mem_of_getElem? (i := 5) rfl)), (uw21 _ (List.mem_of_getElem? (i := 7) rfl))⟩
theorem hd_X12_nameOf : yX12_nameOf.cls ≠ "java/lang/invoke/MethodHandle" ∧ yX12_nameOf.cls ≠ "java/lang/invoke/VarHandle" ∧ (parseMethodDescriptor yX12_nameOf.desc).map (fun d => d.parameters.length) = some 1 := ⟨by decide +kernel, by decide +kernel, by decide +kernel⟩
theorem hy_X12_product : Cond.code yX12_product cX12_product 4 (some .int) ∈ wsL_law ∧ Cond.initialized yX12_product.cls ∈ wsL_law ∧ Cond.instanceMethod yX12_product ∈ wsL_law ∧ Cond.selects yX12_product.cls yX12_product yX12_product ∈ wsL_law := ⟨(uw21 _ (List.mem_of_getElem? (i := 9) rfl)), (uw1 _ (List.mem_of_getElem? (i := 5) rfl)), (uw21 _ (List.mem_of_getElem? (i := 12) rfl)), (uw21 _ (List.mem_of_getElem? (i := 13) rfl))⟩
theorem hd_X12_product : yX12_product.cls ≠ "java/lang/invoke/MethodHandle" ∧ yX12_product.cls ≠ "java/lang/invoke/VarHandle" ∧ (parseMethodDescriptor yX12_product.desc).map (fun d => d.parameters.length) = some 0 := ⟨by decide +kernel, by decide +kernel, by decide +kernel⟩
theorem hy_X12_sums : Cond.code yX12_sums cX12_sums 4 (some .int) ∈ wsL_law ∧ Cond.initialized yX12_sums.cls ∈ wsL_law ∧ Cond.instanceMethod yX12_sums ∈ wsL_law ∧ Cond.selects yX12_sums.cls yX12_sums yX12_sums ∈ wsL_law := ⟨(uw21 _ (List.mem_of_getElem? (i := 10) rfl)), (uw1 _ (List.mem_of_getElem? (i := 5) rfl)), (uw20 _ (List.mem_of_getElem? (i := 20) rfl)), (uw20 _ (List.mem_of_getElem? (i := 21) rfl))⟩
theorem hd_X12_sums : yX12_sums.cls ≠ "java/lang/invoke/MethodHandle" ∧ yX12_sums.cls ≠ "java/lang/invoke/VarHandle" ∧ (parseMethodDescriptor yX12_sums.desc).map (fun d => d.parameters.length) = some 0 := ⟨by decide +kernel, by decide +kernel, by decide +kernel⟩
theorem hy_X12_takes : Cond.code yX12_takes cX12_takes 2 (some .boolean) ∈ wsL_law ∧ Cond.initialized yX12_takes.cls ∈ wsL_law ∧ Cond.instanceMethod yX12_takes ∈ wsL_law ∧ Cond.selects yX12_takes.cls yX12_takes yX12_takes ∈ wsL_law := ⟨(uw20 _ (List.mem_of_getElem? (i := 9) rfl)), (uw1 _ (List.mem_of_getElem? (i := 5) rfl)), (uw20 _ (List.mem_of_getElem? (i := 7) rfl)), (uw20 _ (List.mem_of_getElem? (i := 8) rfl))⟩
theorem hd_X12_takes : yX12_takes.cls ≠ "java/lang/invoke/MethodHandle" ∧ yX12_takes.cls ≠ "java/lang/invoke/VarHandle" ∧ (parseMethodDescriptor yX12_takes.desc).map (fun d => d.parameters.length) = some 1 := ⟨by decide +kernel, by decide +kernel, by decide +kernel⟩
theorem hy_X12_wrong : Cond.code yX12_wrong cX12_wrong 1 (some .int) ∈ wsL_law ∧ Cond.initialized yX12_wrong.cls ∈ wsL_law ∧ Cond.instanceMethod yX12_wrong ∈ wsL_law ∧ Cond.selects yX12_wrong.cls yX12_wrong yX12_wrong ∈ wsL_law := ⟨(uw21 _ (List.mem_of_getElem? (i := 2) rfl)), (uw1 _ (List.mem_of_getElem? (i := 5) rfl)), (uw21 _ (List.mem_of_getElem? (i := 0) rfl)), (uw21 _ (List.mem_of_getElem? (i := 1) rfl))⟩
theorem hd_X12_wrong : yX12_wrong.cls ≠ "java/lang/invoke/MethodHandle" ∧ yX12_wrong.cls ≠ "java/lang/invoke/VarHandle" ∧ (parseMethodDescriptor yX12_wrong.desc).map (fun d => d.parameters.length) = some 0 := ⟨by decide +kernel, by decide +kernel, by decide +kernel⟩
theorem ml_X12_149 : Cond.methodLink RX12 149 yX12_both ∈ wsL_law := (uw20 _ (List.mem_of_getElem? (i := 3) rfl))
theorem ml_X12_152 : Cond.methodLink RX12 152 yX12_takes ∈ wsL_law := (uw20 _ (List.mem_of_getElem? (i := 6) rfl))
theorem ml_X12_155 : Cond.methodLink RX12 155 yX12_compared ∈ wsL_law := (uw20 _ (List.mem_of_getElem? (i := 15) rfl))
theorem ml_X12_158 : Cond.methodLink RX12 158 yX12_sums ∈ wsL_law := (uw20 _ (List.mem_of_getElem? (i := 19) rfl))
theorem ml_X12_161 : Cond.methodLink RX12 161 yX12_product ∈ wsL_law := (uw21 _ (List.mem_of_getElem? (i := 11) rfl))
theorem ml_X12_170 : Cond.methodLink RX12 170 yX12_wrong ∈ wsL_law := (uw20 _ (List.mem_of_getElem? (i := 23) rfl))
theorem ml_X12_173 : Cond.methodLink RX12 173 yX12_either ∈ wsL_law := (uw19 _ (List.mem_of_getElem? (i := 23) rfl))
theorem ml_X12_176 : Cond.methodLink RX12 176 yX12_nameOf ∈ wsL_law := (uw21 _ (List.mem_of_getElem? (i := 6) rfl))
abbrev w_M_sums (G : zG) (a_this : Nat) (a_height : Nat) (a_changeAt : Nat) (a_changeWas : Nat) (a_changeIs : Nat) (a_tape : Nat) (a_text : Nat) (a_names : Nat) (a_line : Nat) (a_row : Nat) (a_pastMany : Nat) (a_past : Nat) (a_changed : Nat) (a_greatest : Nat) (a_numbersWere : Nat) (a_told : Nat) (a_waysOf : Nat) (a_waysWere : Nat) (a_blocks : Nat) (a_ordersOf : Nat) (a_imageLine : Nat) (a_bodyKind : Nat) (a_trace : Nat) (a_shelf : Nat) (a_many : Nat) (a_items : Nat) (a_carried : Nat) (people : Int32) (keptMany : Int32) (done : Int32) (tapeMany : Int32) (textMany : Int32) (base : Int32) (at_ : Int32) (ends : Int32) (fault : Int32) (opened : Int32) (lineMany : Int32) (rowMany : Int32) (taller : Int32) (tallerBy : Int32) (pasts : Int32) (isKept : Int32) (imageMany : Int32) (bodies : Int32) (ran : Int32) (ownKind : Int32) (ownNumber : Int32) (tape : Nat → Int32) (text : Nat → Int32) (names : Nat → Int32) : va_W := [(a_this, cO 12 [.int people, .ref a_height, .ref a_changeAt, .ref a_changeWas, .ref a_changeIs, .int keptMany, .int done, .ref a_tape, .int tapeMany, .ref a_text, .int textMany, .int base, .int at_, .int ends, .int fault, .int opened, .ref a_names, .ref a_line, .int lineMany, .ref a_row, .int rowMany, .int taller, .int tallerBy, .ref a_pastMany, .ref a_past, .int pasts, .ref a_changed, .ref a_greatest, .ref a_numbersWere, .ref a_told, .ref a_waysOf, .ref a_waysWere, .ref a_blocks, .ref a_ordersOf, .int isKept, .int imageMany, .ref a_imageLine, .int bodies, .ref a_bodyKind, .ref a_trace, .int ran, .int ownKind, .int ownNumber, .ref a_shelf, .ref a_many, .ref a_items, .ref a_carried]), (a_tape, cI G 120 tape), (a_text, cI G 120 text), (a_names, cI G 5 names)]
def f_M_sums_L5 (rec : Int32 → Int32 → Int32 → Int32 → Int32 → (Nat → Int32) → (Nat → Int32) → (Nat → Int32) → Option (Int32 × Int32 × Int32 × Int32)) (base : Int32) (ends : Int32) (tape : Nat → Int32) (text : Nat → Int32) (names : Nat → Int32) : Nat → Int32 → Int32 → Int32 → Int32 → Option (Int32 × Int32 × Int32 × Int32)
  | 0, _, _, _, _ => none
  | fuel + 1, at_, fault, opened, v1 => (if (0 : Int32) ≤ fault then (some (at_, fault, opened, v1)) else (zb1 (f_M_byteAt base at_ ends tape text) fun r_6 => (if r_6 = 43 then (zb1 (f_M_byteAt base at_ ends tape text) fun r_8 => (if r_8 = 43 then (zb4 (f_M_product rec base (at_ + (1 : Int32)) ends fault opened tape text names) fun r_15 at__16 fault_17 opened_18 => (f_M_sums_L5 rec base ends tape text names fuel at__16 fault_17 opened_18 (v1 + r_15))) else (zb4 (f_M_product rec base (at_ + (1 : Int32)) ends fault opened tape text names) fun r_10 at__11 fault_12 opened_13 => (f_M_sums_L5 rec base ends tape text names fuel at__11 fault_12 opened_13 (v1 - r_10))))) else (zb1 (f_M_byteAt base at_ ends tape text) fun r_20 => (if r_20 = 45 then (zb1 (f_M_byteAt base at_ ends tape text) fun r_22 => (if r_22 = 43 then (zb4 (f_M_product rec base (at_ + (1 : Int32)) ends fault opened tape text names) fun r_29 at__30 fault_31 opened_32 => (f_M_sums_L5 rec base ends tape text names fuel at__30 fault_31 opened_32 (v1 + r_29))) else (zb4 (f_M_product rec base (at_ + (1 : Int32)) ends fault opened tape text names) fun r_24 at__25 fault_26 opened_27 => (f_M_sums_L5 rec base ends tape text names fuel at__25 fault_26 opened_27 (v1 - r_24))))) else (some (at_, fault, opened, v1)))))))
def f_M_sums (rec : Int32 → Int32 → Int32 → Int32 → Int32 → (Nat → Int32) → (Nat → Int32) → (Nat → Int32) → Option (Int32 × Int32 × Int32 × Int32)) (base : Int32) (at_ : Int32) (ends : Int32) (fault : Int32) (opened : Int32) (tape : Nat → Int32) (text : Nat → Int32) (names : Nat → Int32) : Option (Int32 × Int32 × Int32 × Int32) := (zb4 (f_M_product rec base at_ ends fault opened tape text names) fun r_1 at__2 fault_3 opened_4 => (zb4 (f_M_sums_L5 rec base ends tape text names FU at__2 fault_3 opened_4 r_1) fun at__34 fault_35 opened_36 v1_37 => (some (v1_37, at__34, fault_35, opened_36))))
set_option maxRecDepth 100000 in
set_option maxHeartbeats 4000000 in
theorem l_M_sums_5 {X : zX} (G : zG) (a_this : Nat) (a_height : Nat) (a_changeAt : Nat) (a_changeWas : Nat) (a_changeIs : Nat) (a_tape : Nat) (a_text : Nat) (a_names : Nat) (a_line : Nat) (a_row : Nat) (a_pastMany : Nat) (a_past : Nat) (a_changed : Nat) (a_greatest : Nat) (a_numbersWere : Nat) (a_told : Nat) (a_waysOf : Nat) (a_waysWere : Nat) (a_blocks : Nat) (a_ordersOf : Nat) (a_imageLine : Nat) (a_bodyKind : Nat) (a_trace : Nat) (a_shelf : Nat) (a_many : Nat) (a_items : Nat) (a_carried : Nat) (people : Int32) (keptMany : Int32) (done : Int32) (tapeMany : Int32) (textMany : Int32) (base : Int32) (ends : Int32) (lineMany : Int32) (rowMany : Int32) (taller : Int32) (tallerBy : Int32) (pasts : Int32) (isKept : Int32) (imageMany : Int32) (bodies : Int32) (ran : Int32) (ownKind : Int32) (ownNumber : Int32) (tape : Nat → Int32) (text : Nat → Int32) (names : Nat → Int32) (rec : Int32 → Int32 → Int32 → Int32 → Int32 → (Nat → Int32) → (Nat → Int32) → (Nat → Int32) → Option (Int32 × Int32 × Int32 × Int32)) {fr1 lo1 : Nat} (hrec : K_M_one (xL X) G a_this a_height a_changeAt a_changeWas a_changeIs a_tape a_text a_names a_line a_row a_pastMany a_past a_changed a_greatest a_numbersWere a_told a_waysOf a_waysWere a_blocks a_ordersOf a_imageLine a_bodyKind a_trace a_shelf a_many a_items a_carried fr1 lo1 rec) {v0 : Option Value} {w0 : va_W} (F : zF X G cX12_sums RX12 4 (some .int) (fr1 + 2) (lo1 + 47) v0 w0) (e_at_ : Int32) (e_fault : Int32) (e_opened : Int32) (e_v1 : Int32) (hk : Z X G 4 (w_M_sums G a_this a_height a_changeAt a_changeWas a_changeIs a_tape a_text a_names a_line a_row a_pastMany a_past a_changed a_greatest a_numbersWere a_told a_waysOf a_waysWere a_blocks a_ordersOf a_imageLine a_bodyKind a_trace a_shelf a_many a_items a_carried people keptMany done tapeMany textMany base e_at_ ends e_fault e_opened lineMany rowMany taller tallerBy pasts isKept imageMany bodies ran ownKind ownNumber tape text names) [(1, .int e_v1)] 77 []) :
    ∀ (fuel : Nat) (at_ : Int32) (fault : Int32) (opened : Int32) (v1 : Int32), f_M_sums_L5 rec base ends tape text names fuel at_ fault opened v1 = some (e_at_, e_fault, e_opened, e_v1) → Z X G 4 (w_M_sums G a_this a_height a_changeAt a_changeWas a_changeIs a_tape a_text a_names a_line a_row a_pastMany a_past a_changed a_greatest a_numbersWere a_told a_waysOf a_waysWere a_blocks a_ordersOf a_imageLine a_bodyKind a_trace a_shelf a_many a_items a_carried people keptMany done tapeMany textMany base at_ ends fault opened lineMany rowMany taller tallerBy pasts isKept imageMany bodies ran ownKind ownNumber tape text names) [(0, .ref a_this), (1, .int v1)] 5 [] := by
  intro fuel
  induction fuel with
  | zero => intro at_ fault opened v1 hf; exact absurd ((f_M_sums_L5.eq_1 ..).symm.trans hf) (fun h => by cases h)
  | succ fuel ih =>
    intro at_ fault opened v1 hf
    replace hf := (f_M_sums_L5.eq_2 ..).symm.trans hf
    refine z_aload_n F 0 dX12_sums_5 rfl rfl ?_
    refine z_get F 0 12 14 inlX12 rfl rfl (by decide) fl_X12_142 rfl dX12_sums_6 ?_
    refine z_if_ge F 77 dX12_sums_9 (by decide) hf (fun hf _ => ?_) (fun hf _ => ?_)
    · have eq1 := Option.some.inj hf
      obtain ⟨ee1, eq2⟩ := Prod.mk.inj eq1
      obtain ⟨ee2, eq3⟩ := Prod.mk.inj eq2
      obtain ⟨ee3, ee4⟩ := Prod.mk.inj eq3
      subst ee1
      subst ee2
      subst ee3
      subst ee4
      exact z_sub [1] rfl hk
    · refine z_aload_n F 0 dX12_sums_12 rfl rfl ?_
      obtain ⟨r_6, hg, hf⟩ := zb1_some hf
      refine z_callVm (rest := []) F 12 (c_M_byteAt (xL X) G a_this a_height a_changeAt a_changeWas a_changeIs a_tape a_text a_names a_line a_row a_pastMany a_past a_changed a_greatest a_numbersWere a_told a_waysOf a_waysWere a_blocks a_ordersOf a_imageLine a_bodyKind a_trace a_shelf a_many a_items a_carried people keptMany done tapeMany textMany base at_ ends fault opened lineMany rowMany taller tallerBy pasts isKept imageMany bodies ran ownKind ownNumber tape text r_6 hg) hy_X12_byteAt ml_X12_145 hd_X12_byteAt ⟨by omega, by omega⟩ rfl [0, 1, 2] rfl rfl 0 rfl rfl (w_M_sums G a_this a_height a_changeAt a_changeWas a_changeIs a_tape a_text a_names a_line a_row a_pastMany a_past a_changed a_greatest a_numbersWere a_told a_waysOf a_waysWere a_blocks a_ordersOf a_imageLine a_bodyKind a_trace a_shelf a_many a_items a_carried people keptMany done tapeMany textMany base at_ ends fault opened lineMany rowMany taller tallerBy pasts isKept imageMany bodies ran ownKind ownNumber tape text names) [some 0, some 1, some 2, none] rfl (by decide +kernel) rfl rfl (Nat.le_of_ble_eq_true rfl) dX12_sums_13 (fun hz_7 => ?_)
      refine z_bipush F (43) dX12_sums_16 rfl ?_
      refine z_icmp_eq F 30 dX12_sums_18 (by decide) hf (fun hf _ => ?_) (fun hf _ => ?_)
      · refine z_aload_n F 0 dX12_sums_30 rfl rfl ?_
        obtain ⟨r_8, hg, hf⟩ := zb1_some hf
        refine z_callVm (rest := []) F 12 (c_M_byteAt (xL X) G a_this a_height a_changeAt a_changeWas a_changeIs a_tape a_text a_names a_line a_row a_pastMany a_past a_changed a_greatest a_numbersWere a_told a_waysOf a_waysWere a_blocks a_ordersOf a_imageLine a_bodyKind a_trace a_shelf a_many a_items a_carried people keptMany done tapeMany textMany base at_ ends fault opened lineMany rowMany taller tallerBy pasts isKept imageMany bodies ran ownKind ownNumber tape text r_8 hg) hy_X12_byteAt ml_X12_145 hd_X12_byteAt ⟨by omega, by omega⟩ rfl [0, 1, 2] rfl rfl 0 rfl rfl (w_M_sums G a_this a_height a_changeAt a_changeWas a_changeIs a_tape a_text a_names a_line a_row a_pastMany a_past a_changed a_greatest a_numbersWere a_told a_waysOf a_waysWere a_blocks a_ordersOf a_imageLine a_bodyKind a_trace a_shelf a_many a_items a_carried people keptMany done tapeMany textMany base at_ ends fault opened lineMany rowMany taller tallerBy pasts isKept imageMany bodies ran ownKind ownNumber tape text names) [some 0, some 1, some 2, none] rfl (by decide +kernel) rfl rfl (Nat.le_of_ble_eq_true rfl) dX12_sums_31 (fun hz_9 => ?_)
        refine z_bipush F (43) dX12_sums_34 rfl ?_
        refine z_icmp_ne F 43 dX12_sums_36 (by decide) hf (fun hf _ => ?_) (fun hf _ => ?_)
        · refine z_iconst F (0) dX12_sums_43 rfl ?_
          refine z_istore_n F [(2, .int 0), (0, .ref a_this), (1, .int v1)] dX12_sums_44 rfl (by decide) rfl ?_
          refine z_aload_n F 1 dX12_sums_45 rfl rfl ?_
          refine z_dup F rfl dX12_sums_46 ?_
          refine z_get F 0 12 12 inlX12 rfl rfl (by decide) fl_X12_133 rfl dX12_sums_47 ?_
          refine z_iconst F (1) dX12_sums_50 rfl ?_
          refine z_iadd F dX12_sums_51 ?_
          refine z_put F 0 12 12 (w_M_sums G a_this a_height a_changeAt a_changeWas a_changeIs a_tape a_text a_names a_line a_row a_pastMany a_past a_changed a_greatest a_numbersWere a_told a_waysOf a_waysWere a_blocks a_ordersOf a_imageLine a_bodyKind a_trace a_shelf a_many a_items a_carried people keptMany done tapeMany textMany base (at_ + (1 : Int32)) ends fault opened lineMany rowMany taller tallerBy pasts isKept imageMany bodies ran ownKind ownNumber tape text names) inlX12 tyX12 tyX12_ok nmX12 rfl rfl (by decide) fl_X12_133 rfl rfl rfl (Nat.le_of_ble_eq_true rfl) rfl dX12_sums_52 ?_
          refine z_aload_n F 1 dX12_sums_55 rfl rfl ?_
          obtain ⟨r_10, at__11, fault_12, opened_13, hg, hf⟩ := zb4_some hf
          refine z_callVm (rest := []) F 12 (c_M_product (xL X) G a_this a_height a_changeAt a_changeWas a_changeIs a_tape a_text a_names a_line a_row a_pastMany a_past a_changed a_greatest a_numbersWere a_told a_waysOf a_waysWere a_blocks a_ordersOf a_imageLine a_bodyKind a_trace a_shelf a_many a_items a_carried people keptMany done tapeMany textMany base (at_ + (1 : Int32)) ends fault opened lineMany rowMany taller tallerBy pasts isKept imageMany bodies ran ownKind ownNumber tape text names rec hrec r_10 at__11 fault_12 opened_13 hg) hy_X12_product ml_X12_161 hd_X12_product ⟨by omega, by omega⟩ rfl [0, 1, 2, 3] rfl rfl 0 rfl rfl (w_M_sums G a_this a_height a_changeAt a_changeWas a_changeIs a_tape a_text a_names a_line a_row a_pastMany a_past a_changed a_greatest a_numbersWere a_told a_waysOf a_waysWere a_blocks a_ordersOf a_imageLine a_bodyKind a_trace a_shelf a_many a_items a_carried people keptMany done tapeMany textMany base at__11 ends fault_12 opened_13 lineMany rowMany taller tallerBy pasts isKept imageMany bodies ran ownKind ownNumber tape text names) [some 0, some 1, some 2, some 3] rfl (by decide +kernel) rfl rfl (Nat.le_of_ble_eq_true rfl) dX12_sums_56 (fun hz_14 => ?_)
          refine z_istore_n F [(3, .int r_10), (2, .int 0), (0, .ref a_this), (1, .int v1)] dX12_sums_59 rfl (by decide) rfl ?_
          refine z_iload_n F 1 dX12_sums_60 rfl rfl ?_
          refine z_if_eq_t F 70 dX12_sums_61 (by decide) (by decide) ?_
          refine z_iload_n F 3 dX12_sums_70 rfl rfl ?_
          refine z_iload_n F 0 dX12_sums_71 rfl rfl ?_
          refine z_isub F dX12_sums_72 ?_
          refine z_istore_n F [(1, .int (v1 - r_10)), (3, .int r_10), (2, .int 0), (0, .ref a_this)] dX12_sums_73 rfl (by decide) rfl ?_
          refine z_goto F 5 dX12_sums_74 (by decide) ?_
          exact z_sub [3, 0] rfl (ih at__11 fault_12 opened_13 (v1 - r_10) hf)
        · refine z_iconst F (1) dX12_sums_39 rfl ?_
          refine z_goto F 44 dX12_sums_40 (by decide) ?_
          refine z_istore_n F [(2, .int 1), (0, .ref a_this), (1, .int v1)] dX12_sums_44 rfl (by decide) rfl ?_
          refine z_aload_n F 1 dX12_sums_45 rfl rfl ?_
          refine z_dup F rfl dX12_sums_46 ?_
          refine z_get F 0 12 12 inlX12 rfl rfl (by decide) fl_X12_133 rfl dX12_sums_47 ?_
          refine z_iconst F (1) dX12_sums_50 rfl ?_
          refine z_iadd F dX12_sums_51 ?_
          refine z_put F 0 12 12 (w_M_sums G a_this a_height a_changeAt a_changeWas a_changeIs a_tape a_text a_names a_line a_row a_pastMany a_past a_changed a_greatest a_numbersWere a_told a_waysOf a_waysWere a_blocks a_ordersOf a_imageLine a_bodyKind a_trace a_shelf a_many a_items a_carried people keptMany done tapeMany textMany base (at_ + (1 : Int32)) ends fault opened lineMany rowMany taller tallerBy pasts isKept imageMany bodies ran ownKind ownNumber tape text names) inlX12 tyX12 tyX12_ok nmX12 rfl rfl (by decide) fl_X12_133 rfl rfl rfl (Nat.le_of_ble_eq_true rfl) rfl dX12_sums_52 ?_
          refine z_aload_n F 1 dX12_sums_55 rfl rfl ?_
          obtain ⟨r_15, at__16, fault_17, opened_18, hg, hf⟩ := zb4_some hf
          refine z_callVm (rest := []) F 12 (c_M_product (xL X) G a_this a_height a_changeAt a_changeWas a_changeIs a_tape a_text a_names a_line a_row a_pastMany a_past a_changed a_greatest a_numbersWere a_told a_waysOf a_waysWere a_blocks a_ordersOf a_imageLine a_bodyKind a_trace a_shelf a_many a_items a_carried people keptMany done tapeMany textMany base (at_ + (1 : Int32)) ends fault opened lineMany rowMany taller tallerBy pasts isKept imageMany bodies ran ownKind ownNumber tape text names rec hrec r_15 at__16 fault_17 opened_18 hg) hy_X12_product ml_X12_161 hd_X12_product ⟨by omega, by omega⟩ rfl [0, 1, 2, 3] rfl rfl 0 rfl rfl (w_M_sums G a_this a_height a_changeAt a_changeWas a_changeIs a_tape a_text a_names a_line a_row a_pastMany a_past a_changed a_greatest a_numbersWere a_told a_waysOf a_waysWere a_blocks a_ordersOf a_imageLine a_bodyKind a_trace a_shelf a_many a_items a_carried people keptMany done tapeMany textMany base at__16 ends fault_17 opened_18 lineMany rowMany taller tallerBy pasts isKept imageMany bodies ran ownKind ownNumber tape text names) [some 0, some 1, some 2, some 3] rfl (by decide +kernel) rfl rfl (Nat.le_of_ble_eq_true rfl) dX12_sums_56 (fun hz_19 => ?_)
          refine z_istore_n F [(3, .int r_15), (2, .int 1), (0, .ref a_this), (1, .int v1)] dX12_sums_59 rfl (by decide) rfl ?_
          refine z_iload_n F 1 dX12_sums_60 rfl rfl ?_
          refine z_if_eq_f F 70 dX12_sums_61 (by decide) (by decide) ?_
          refine z_iload_n F 3 dX12_sums_64 rfl rfl ?_
          refine z_iload_n F 0 dX12_sums_65 rfl rfl ?_
          refine z_iadd F dX12_sums_66 ?_
          refine z_goto F 73 dX12_sums_67 (by decide) ?_
          refine z_istore_n F [(1, .int (v1 + r_15)), (3, .int r_15), (2, .int 1), (0, .ref a_this)] dX12_sums_73 rfl (by decide) rfl ?_
          refine z_goto F 5 dX12_sums_74 (by decide) ?_
          exact z_sub [3, 0] rfl (ih at__16 fault_17 opened_18 (v1 + r_15) hf)
      · refine z_aload_n F 0 dX12_sums_21 rfl rfl ?_
        obtain ⟨r_20, hg, hf⟩ := zb1_some hf
        refine z_callVm (rest := []) F 12 (c_M_byteAt (xL X) G a_this a_height a_changeAt a_changeWas a_changeIs a_tape a_text a_names a_line a_row a_pastMany a_past a_changed a_greatest a_numbersWere a_told a_waysOf a_waysWere a_blocks a_ordersOf a_imageLine a_bodyKind a_trace a_shelf a_many a_items a_carried people keptMany done tapeMany textMany base at_ ends fault opened lineMany rowMany taller tallerBy pasts isKept imageMany bodies ran ownKind ownNumber tape text r_20 hg) hy_X12_byteAt ml_X12_145 hd_X12_byteAt ⟨by omega, by omega⟩ rfl [0, 1, 2] rfl rfl 0 rfl rfl (w_M_sums G a_this a_height a_changeAt a_changeWas a_changeIs a_tape a_text a_names a_line a_row a_pastMany a_past a_changed a_greatest a_numbersWere a_told a_waysOf a_waysWere a_blocks a_ordersOf a_imageLine a_bodyKind a_trace a_shelf a_many a_items a_carried people keptMany done tapeMany textMany base at_ ends fault opened lineMany rowMany taller tallerBy pasts isKept imageMany bodies ran ownKind ownNumber tape text names) [some 0, some 1, some 2, none] rfl (by decide +kernel) rfl rfl (Nat.le_of_ble_eq_true rfl) dX12_sums_22 (fun hz_21 => ?_)
        refine z_bipush F (45) dX12_sums_25 rfl ?_
        refine z_icmp_ne F 77 dX12_sums_27 (by decide) hf (fun hf _ => ?_) (fun hf _ => ?_)
        · have eq1 := Option.some.inj hf
          obtain ⟨ee1, eq2⟩ := Prod.mk.inj eq1
          obtain ⟨ee2, eq3⟩ := Prod.mk.inj eq2
          obtain ⟨ee3, ee4⟩ := Prod.mk.inj eq3
          subst ee1
          subst ee2
          subst ee3
          subst ee4
          exact z_sub [1] rfl hk
        · refine z_aload_n F 0 dX12_sums_30 rfl rfl ?_
          obtain ⟨r_22, hg, hf⟩ := zb1_some hf
          refine z_callVm (rest := []) F 12 (c_M_byteAt (xL X) G a_this a_height a_changeAt a_changeWas a_changeIs a_tape a_text a_names a_line a_row a_pastMany a_past a_changed a_greatest a_numbersWere a_told a_waysOf a_waysWere a_blocks a_ordersOf a_imageLine a_bodyKind a_trace a_shelf a_many a_items a_carried people keptMany done tapeMany textMany base at_ ends fault opened lineMany rowMany taller tallerBy pasts isKept imageMany bodies ran ownKind ownNumber tape text r_22 hg) hy_X12_byteAt ml_X12_145 hd_X12_byteAt ⟨by omega, by omega⟩ rfl [0, 1, 2] rfl rfl 0 rfl rfl (w_M_sums G a_this a_height a_changeAt a_changeWas a_changeIs a_tape a_text a_names a_line a_row a_pastMany a_past a_changed a_greatest a_numbersWere a_told a_waysOf a_waysWere a_blocks a_ordersOf a_imageLine a_bodyKind a_trace a_shelf a_many a_items a_carried people keptMany done tapeMany textMany base at_ ends fault opened lineMany rowMany taller tallerBy pasts isKept imageMany bodies ran ownKind ownNumber tape text names) [some 0, some 1, some 2, none] rfl (by decide +kernel) rfl rfl (Nat.le_of_ble_eq_true rfl) dX12_sums_31 (fun hz_23 => ?_)
          refine z_bipush F (43) dX12_sums_34 rfl ?_
          refine z_icmp_ne F 43 dX12_sums_36 (by decide) hf (fun hf _ => ?_) (fun hf _ => ?_)
          · refine z_iconst F (0) dX12_sums_43 rfl ?_
            refine z_istore_n F [(2, .int 0), (0, .ref a_this), (1, .int v1)] dX12_sums_44 rfl (by decide) rfl ?_
            refine z_aload_n F 1 dX12_sums_45 rfl rfl ?_
            refine z_dup F rfl dX12_sums_46 ?_
            refine z_get F 0 12 12 inlX12 rfl rfl (by decide) fl_X12_133 rfl dX12_sums_47 ?_
            refine z_iconst F (1) dX12_sums_50 rfl ?_
            refine z_iadd F dX12_sums_51 ?_
            refine z_put F 0 12 12 (w_M_sums G a_this a_height a_changeAt a_changeWas a_changeIs a_tape a_text a_names a_line a_row a_pastMany a_past a_changed a_greatest a_numbersWere a_told a_waysOf a_waysWere a_blocks a_ordersOf a_imageLine a_bodyKind a_trace a_shelf a_many a_items a_carried people keptMany done tapeMany textMany base (at_ + (1 : Int32)) ends fault opened lineMany rowMany taller tallerBy pasts isKept imageMany bodies ran ownKind ownNumber tape text names) inlX12 tyX12 tyX12_ok nmX12 rfl rfl (by decide) fl_X12_133 rfl rfl rfl (Nat.le_of_ble_eq_true rfl) rfl dX12_sums_52 ?_
            refine z_aload_n F 1 dX12_sums_55 rfl rfl ?_
            obtain ⟨r_24, at__25, fault_26, opened_27, hg, hf⟩ := zb4_some hf
            refine z_callVm (rest := []) F 12 (c_M_product (xL X) G a_this a_height a_changeAt a_changeWas a_changeIs a_tape a_text a_names a_line a_row a_pastMany a_past a_changed a_greatest a_numbersWere a_told a_waysOf a_waysWere a_blocks a_ordersOf a_imageLine a_bodyKind a_trace a_shelf a_many a_items a_carried people keptMany done tapeMany textMany base (at_ + (1 : Int32)) ends fault opened lineMany rowMany taller tallerBy pasts isKept imageMany bodies ran ownKind ownNumber tape text names rec hrec r_24 at__25 fault_26 opened_27 hg) hy_X12_product ml_X12_161 hd_X12_product ⟨by omega, by omega⟩ rfl [0, 1, 2, 3] rfl rfl 0 rfl rfl (w_M_sums G a_this a_height a_changeAt a_changeWas a_changeIs a_tape a_text a_names a_line a_row a_pastMany a_past a_changed a_greatest a_numbersWere a_told a_waysOf a_waysWere a_blocks a_ordersOf a_imageLine a_bodyKind a_trace a_shelf a_many a_items a_carried people keptMany done tapeMany textMany base at__25 ends fault_26 opened_27 lineMany rowMany taller tallerBy pasts isKept imageMany bodies ran ownKind ownNumber tape text names) [some 0, some 1, some 2, some 3] rfl (by decide +kernel) rfl rfl (Nat.le_of_ble_eq_true rfl) dX12_sums_56 (fun hz_28 => ?_)
            refine z_istore_n F [(3, .int r_24), (2, .int 0), (0, .ref a_this), (1, .int v1)] dX12_sums_59 rfl (by decide) rfl ?_
            refine z_iload_n F 1 dX12_sums_60 rfl rfl ?_
            refine z_if_eq_t F 70 dX12_sums_61 (by decide) (by decide) ?_
            refine z_iload_n F 3 dX12_sums_70 rfl rfl ?_
            refine z_iload_n F 0 dX12_sums_71 rfl rfl ?_
            refine z_isub F dX12_sums_72 ?_
            refine z_istore_n F [(1, .int (v1 - r_24)), (3, .int r_24), (2, .int 0), (0, .ref a_this)] dX12_sums_73 rfl (by decide) rfl ?_
            refine z_goto F 5 dX12_sums_74 (by decide) ?_
            exact z_sub [3, 0] rfl (ih at__25 fault_26 opened_27 (v1 - r_24) hf)
          · refine z_iconst F (1) dX12_sums_39 rfl ?_
            refine z_goto F 44 dX12_sums_40 (by decide) ?_
            refine z_istore_n F [(2, .int 1), (0, .ref a_this), (1, .int v1)] dX12_sums_44 rfl (by decide) rfl ?_
            refine z_aload_n F 1 dX12_sums_45 rfl rfl ?_
            refine z_dup F rfl dX12_sums_46 ?_
            refine z_get F 0 12 12 inlX12 rfl rfl (by decide) fl_X12_133 rfl dX12_sums_47 ?_
            refine z_iconst F (1) dX12_sums_50 rfl ?_
            refine z_iadd F dX12_sums_51 ?_
            refine z_put F 0 12 12 (w_M_sums G a_this a_height a_changeAt a_changeWas a_changeIs a_tape a_text a_names a_line a_row a_pastMany a_past a_changed a_greatest a_numbersWere a_told a_waysOf a_waysWere a_blocks a_ordersOf a_imageLine a_bodyKind a_trace a_shelf a_many a_items a_carried people keptMany done tapeMany textMany base (at_ + (1 : Int32)) ends fault opened lineMany rowMany taller tallerBy pasts isKept imageMany bodies ran ownKind ownNumber tape text names) inlX12 tyX12 tyX12_ok nmX12 rfl rfl (by decide) fl_X12_133 rfl rfl rfl (Nat.le_of_ble_eq_true rfl) rfl dX12_sums_52 ?_
            refine z_aload_n F 1 dX12_sums_55 rfl rfl ?_
            obtain ⟨r_29, at__30, fault_31, opened_32, hg, hf⟩ := zb4_some hf
            refine z_callVm (rest := []) F 12 (c_M_product (xL X) G a_this a_height a_changeAt a_changeWas a_changeIs a_tape a_text a_names a_line a_row a_pastMany a_past a_changed a_greatest a_numbersWere a_told a_waysOf a_waysWere a_blocks a_ordersOf a_imageLine a_bodyKind a_trace a_shelf a_many a_items a_carried people keptMany done tapeMany textMany base (at_ + (1 : Int32)) ends fault opened lineMany rowMany taller tallerBy pasts isKept imageMany bodies ran ownKind ownNumber tape text names rec hrec r_29 at__30 fault_31 opened_32 hg) hy_X12_product ml_X12_161 hd_X12_product ⟨by omega, by omega⟩ rfl [0, 1, 2, 3] rfl rfl 0 rfl rfl (w_M_sums G a_this a_height a_changeAt a_changeWas a_changeIs a_tape a_text a_names a_line a_row a_pastMany a_past a_changed a_greatest a_numbersWere a_told a_waysOf a_waysWere a_blocks a_ordersOf a_imageLine a_bodyKind a_trace a_shelf a_many a_items a_carried people keptMany done tapeMany textMany base at__30 ends fault_31 opened_32 lineMany rowMany taller tallerBy pasts isKept imageMany bodies ran ownKind ownNumber tape text names) [some 0, some 1, some 2, some 3] rfl (by decide +kernel) rfl rfl (Nat.le_of_ble_eq_true rfl) dX12_sums_56 (fun hz_33 => ?_)
            refine z_istore_n F [(3, .int r_29), (2, .int 1), (0, .ref a_this), (1, .int v1)] dX12_sums_59 rfl (by decide) rfl ?_
            refine z_iload_n F 1 dX12_sums_60 rfl rfl ?_
            refine z_if_eq_f F 70 dX12_sums_61 (by decide) (by decide) ?_
            refine z_iload_n F 3 dX12_sums_64 rfl rfl ?_
            refine z_iload_n F 0 dX12_sums_65 rfl rfl ?_
            refine z_iadd F dX12_sums_66 ?_
            refine z_goto F 73 dX12_sums_67 (by decide) ?_
            refine z_istore_n F [(1, .int (v1 + r_29)), (3, .int r_29), (2, .int 1), (0, .ref a_this)] dX12_sums_73 rfl (by decide) rfl ?_
            refine z_goto F 5 dX12_sums_74 (by decide) ?_
            exact z_sub [3, 0] rfl (ih at__30 fault_31 opened_32 (v1 + r_29) hf)

set_option maxRecDepth 100000 in
set_option maxHeartbeats 4000000 in
theorem c_M_sums (l : Launch) (G : zG) (a_this : Nat) (a_height : Nat) (a_changeAt : Nat) (a_changeWas : Nat) (a_changeIs : Nat) (a_tape : Nat) (a_text : Nat) (a_names : Nat) (a_line : Nat) (a_row : Nat) (a_pastMany : Nat) (a_past : Nat) (a_changed : Nat) (a_greatest : Nat) (a_numbersWere : Nat) (a_told : Nat) (a_waysOf : Nat) (a_waysWere : Nat) (a_blocks : Nat) (a_ordersOf : Nat) (a_imageLine : Nat) (a_bodyKind : Nat) (a_trace : Nat) (a_shelf : Nat) (a_many : Nat) (a_items : Nat) (a_carried : Nat) (people : Int32) (keptMany : Int32) (done : Int32) (tapeMany : Int32) (textMany : Int32) (base : Int32) (at_ : Int32) (ends : Int32) (fault : Int32) (opened : Int32) (lineMany : Int32) (rowMany : Int32) (taller : Int32) (tallerBy : Int32) (pasts : Int32) (isKept : Int32) (imageMany : Int32) (bodies : Int32) (ran : Int32) (ownKind : Int32) (ownNumber : Int32) (tape : Nat → Int32) (text : Nat → Int32) (names : Nat → Int32) (rec : Int32 → Int32 → Int32 → Int32 → Int32 → (Nat → Int32) → (Nat → Int32) → (Nat → Int32) → Option (Int32 × Int32 × Int32 × Int32)) {fr1 lo1 : Nat} (hrec : K_M_one l G a_this a_height a_changeAt a_changeWas a_changeIs a_tape a_text a_names a_line a_row a_pastMany a_past a_changed a_greatest a_numbersWere a_told a_waysOf a_waysWere a_blocks a_ordersOf a_imageLine a_bodyKind a_trace a_shelf a_many a_items a_carried fr1 lo1 rec) (r_ : Int32) (o_at_ : Int32) (o_fault : Int32) (o_opened : Int32) (hf : f_M_sums rec base at_ ends fault opened tape text names = some (r_, o_at_, o_fault, o_opened)) : zM l yX12_sums cX12_sums 4 (some .int) (fr1 + 2) (lo1 + 47) G [.ref a_this] (w_M_sums G a_this a_height a_changeAt a_changeWas a_changeIs a_tape a_text a_names a_line a_row a_pastMany a_past a_changed a_greatest a_numbersWere a_told a_waysOf a_waysWere a_blocks a_ordersOf a_imageLine a_bodyKind a_trace a_shelf a_many a_items a_carried people keptMany done tapeMany textMany base at_ ends fault opened lineMany rowMany taller tallerBy pasts isKept imageMany bodies ran ownKind ownNumber tape text names) (some (.int r_)) (w_M_sums G a_this a_height a_changeAt a_changeWas a_changeIs a_tape a_text a_names a_line a_row a_pastMany a_past a_changed a_greatest a_numbersWere a_told a_waysOf a_waysWere a_blocks a_ordersOf a_imageLine a_bodyKind a_trace a_shelf a_many a_items a_carried people keptMany done tapeMany textMany base o_at_ ends o_fault o_opened lineMany rowMany taller tallerBy pasts isKept imageMany bodies ran ownKind ownNumber tape text names) := by
  refine zM.of [(0, .ref a_this)] (own := RX12) rfl (by decide +kernel) (Nat.le_of_ble_eq_true rfl) rfl rfl fun X hX F => ?_
  subst hX
  replace hf := (f_M_sums.eq_1 ..).symm.trans hf
  refine z_aload_n F 0 dX12_sums_0 rfl rfl ?_
  obtain ⟨r_1, at__2, fault_3, opened_4, hg, hf⟩ := zb4_some hf
  refine z_callVm (rest := []) F 12 (c_M_product (xL X) G a_this a_height a_changeAt a_changeWas a_changeIs a_tape a_text a_names a_line a_row a_pastMany a_past a_changed a_greatest a_numbersWere a_told a_waysOf a_waysWere a_blocks a_ordersOf a_imageLine a_bodyKind a_trace a_shelf a_many a_items a_carried people keptMany done tapeMany textMany base at_ ends fault opened lineMany rowMany taller tallerBy pasts isKept imageMany bodies ran ownKind ownNumber tape text names rec hrec r_1 at__2 fault_3 opened_4 hg) hy_X12_product ml_X12_161 hd_X12_product ⟨by omega, by omega⟩ rfl [0, 1, 2, 3] rfl rfl 0 rfl rfl (w_M_sums G a_this a_height a_changeAt a_changeWas a_changeIs a_tape a_text a_names a_line a_row a_pastMany a_past a_changed a_greatest a_numbersWere a_told a_waysOf a_waysWere a_blocks a_ordersOf a_imageLine a_bodyKind a_trace a_shelf a_many a_items a_carried people keptMany done tapeMany textMany base at__2 ends fault_3 opened_4 lineMany rowMany taller tallerBy pasts isKept imageMany bodies ran ownKind ownNumber tape text names) [some 0, some 1, some 2, some 3] rfl (by decide +kernel) rfl rfl (Nat.le_of_ble_eq_true rfl) dX12_sums_1 (fun hz_5 => ?_)
  refine z_istore_n F [(1, .int r_1), (0, .ref a_this)] dX12_sums_4 rfl (by decide) rfl ?_
  obtain ⟨at__34, fault_35, opened_36, v1_37, hg, hf⟩ := zb4_some hf
  refine z_sub [1, 0] rfl ?_
  refine l_M_sums_5 G a_this a_height a_changeAt a_changeWas a_changeIs a_tape a_text a_names a_line a_row a_pastMany a_past a_changed a_greatest a_numbersWere a_told a_waysOf a_waysWere a_blocks a_ordersOf a_imageLine a_bodyKind a_trace a_shelf a_many a_items a_carried people keptMany done tapeMany textMany base ends lineMany rowMany taller tallerBy pasts isKept imageMany bodies ran ownKind ownNumber tape text names rec hrec F at__34 fault_35 opened_36 v1_37 ?_ FU at__2 fault_3 opened_4 r_1 hg
  refine z_iload_n F 0 dX12_sums_77 rfl rfl ?_
  have eq1 := Option.some.inj hf
  obtain ⟨ee1, eq2⟩ := Prod.mk.inj eq1
  obtain ⟨ee2, eq3⟩ := Prod.mk.inj eq2
  obtain ⟨ee3, ee4⟩ := Prod.mk.inj eq3
  subst ee1
  subst ee2
  subst ee3
  subst ee4
  exact z_iret F rfl rfl rfl rfl dX12_sums_78

abbrev w_M_compared (G : zG) (a_this : Nat) (a_height : Nat) (a_changeAt : Nat) (a_changeWas : Nat) (a_changeIs : Nat) (a_tape : Nat) (a_text : Nat) (a_names : Nat) (a_line : Nat) (a_row : Nat) (a_pastMany : Nat) (a_past : Nat) (a_changed : Nat) (a_greatest : Nat) (a_numbersWere : Nat) (a_told : Nat) (a_waysOf : Nat) (a_waysWere : Nat) (a_blocks : Nat) (a_ordersOf : Nat) (a_imageLine : Nat) (a_bodyKind : Nat) (a_trace : Nat) (a_shelf : Nat) (a_many : Nat) (a_items : Nat) (a_carried : Nat) (people : Int32) (keptMany : Int32) (done : Int32) (tapeMany : Int32) (textMany : Int32) (base : Int32) (at_ : Int32) (ends : Int32) (fault : Int32) (opened : Int32) (lineMany : Int32) (rowMany : Int32) (taller : Int32) (tallerBy : Int32) (pasts : Int32) (isKept : Int32) (imageMany : Int32) (bodies : Int32) (ran : Int32) (ownKind : Int32) (ownNumber : Int32) (tape : Nat → Int32) (text : Nat → Int32) (names : Nat → Int32) : va_W := [(a_this, cO 12 [.int people, .ref a_height, .ref a_changeAt, .ref a_changeWas, .ref a_changeIs, .int keptMany, .int done, .ref a_tape, .int tapeMany, .ref a_text, .int textMany, .int base, .int at_, .int ends, .int fault, .int opened, .ref a_names, .ref a_line, .int lineMany, .ref a_row, .int rowMany, .int taller, .int tallerBy, .ref a_pastMany, .ref a_past, .int pasts, .ref a_changed, .ref a_greatest, .ref a_numbersWere, .ref a_told, .ref a_waysOf, .ref a_waysWere, .ref a_blocks, .ref a_ordersOf, .int isKept, .int imageMany, .ref a_imageLine, .int bodies, .ref a_bodyKind, .ref a_trace, .int ran, .int ownKind, .int ownNumber, .ref a_shelf, .ref a_many, .ref a_items, .ref a_carried]), (a_tape, cI G 120 tape), (a_text, cI G 120 text), (a_names, cI G 5 names)]
def f_M_compared (rec : Int32 → Int32 → Int32 → Int32 → Int32 → (Nat → Int32) → (Nat → Int32) → (Nat → Int32) → Option (Int32 × Int32 × Int32 × Int32)) (base : Int32) (at_ : Int32) (ends : Int32) (fault : Int32) (opened : Int32) (tape : Nat → Int32) (text : Nat → Int32) (names : Nat → Int32) : Option (Int32 × Int32 × Int32 × Int32) := (zb4 (f_M_sums rec base at_ ends fault opened tape text names) fun r_1 at__2 fault_3 opened_4 => (zb1 (f_M_byteAt base at__2 ends tape text) fun r_6 => (if (0 : Int32) ≤ fault_3 then (some (r_1, at__2, fault_3, opened_4)) else (if r_6 = 60 then (zb4 (f_M_sums rec base (at__2 + (1 : Int32)) ends fault_3 opened_4 tape text names) fun r_8 at__9 fault_10 opened_11 => (if r_6 = 60 then (if r_8 ≤ r_1 then (some (0, at__9, fault_10, opened_11)) else (some (1, at__9, fault_10, opened_11))) else (if r_6 = 61 then (if r_1 = r_8 then (some (1, at__9, fault_10, opened_11)) else (some (0, at__9, fault_10, opened_11))) else (if r_1 ≤ r_8 then (some (0, at__9, fault_10, opened_11)) else (some (1, at__9, fault_10, opened_11)))))) else (if r_6 = 61 then (zb4 (f_M_sums rec base (at__2 + (1 : Int32)) ends fault_3 opened_4 tape text names) fun r_13 at__14 fault_15 opened_16 => (if r_6 = 60 then (if r_13 ≤ r_1 then (some (0, at__14, fault_15, opened_16)) else (some (1, at__14, fault_15, opened_16))) else (if r_6 = 61 then (if r_1 = r_13 then (some (1, at__14, fault_15, opened_16)) else (some (0, at__14, fault_15, opened_16))) else (if r_1 ≤ r_13 then (some (0, at__14, fault_15, opened_16)) else (some (1, at__14, fault_15, opened_16)))))) else (if r_6 = 62 then (zb4 (f_M_sums rec base (at__2 + (1 : Int32)) ends fault_3 opened_4 tape text names) fun r_18 at__19 fault_20 opened_21 => (if r_6 = 60 then (if r_18 ≤ r_1 then (some (0, at__19, fault_20, opened_21)) else (some (1, at__19, fault_20, opened_21))) else (if r_6 = 61 then (if r_1 = r_18 then (some (1, at__19, fault_20, opened_21)) else (some (0, at__19, fault_20, opened_21))) else (if r_1 ≤ r_18 then (some (0, at__19, fault_20, opened_21)) else (some (1, at__19, fault_20, opened_21)))))) else (some (r_1, at__2, fault_3, opened_4))))))))
set_option maxRecDepth 100000 in
set_option maxHeartbeats 4000000 in
theorem c_M_compared (l : Launch) (G : zG) (a_this : Nat) (a_height : Nat) (a_changeAt : Nat) (a_changeWas : Nat) (a_changeIs : Nat) (a_tape : Nat) (a_text : Nat) (a_names : Nat) (a_line : Nat) (a_row : Nat) (a_pastMany : Nat) (a_past : Nat) (a_changed : Nat) (a_greatest : Nat) (a_numbersWere : Nat) (a_told : Nat) (a_waysOf : Nat) (a_waysWere : Nat) (a_blocks : Nat) (a_ordersOf : Nat) (a_imageLine : Nat) (a_bodyKind : Nat) (a_trace : Nat) (a_shelf : Nat) (a_many : Nat) (a_items : Nat) (a_carried : Nat) (people : Int32) (keptMany : Int32) (done : Int32) (tapeMany : Int32) (textMany : Int32) (base : Int32) (at_ : Int32) (ends : Int32) (fault : Int32) (opened : Int32) (lineMany : Int32) (rowMany : Int32) (taller : Int32) (tallerBy : Int32) (pasts : Int32) (isKept : Int32) (imageMany : Int32) (bodies : Int32) (ran : Int32) (ownKind : Int32) (ownNumber : Int32) (tape : Nat → Int32) (text : Nat → Int32) (names : Nat → Int32) (rec : Int32 → Int32 → Int32 → Int32 → Int32 → (Nat → Int32) → (Nat → Int32) → (Nat → Int32) → Option (Int32 × Int32 × Int32 × Int32)) {fr1 lo1 : Nat} (hrec : K_M_one l G a_this a_height a_changeAt a_changeWas a_changeIs a_tape a_text a_names a_line a_row a_pastMany a_past a_changed a_greatest a_numbersWere a_told a_waysOf a_waysWere a_blocks a_ordersOf a_imageLine a_bodyKind a_trace a_shelf a_many a_items a_carried fr1 lo1 rec) (r_ : Int32) (o_at_ : Int32) (o_fault : Int32) (o_opened : Int32) (hf : f_M_compared rec base at_ ends fault opened tape text names = some (r_, o_at_, o_fault, o_opened)) : zM l yX12_compared cX12_compared 4 (some .int) (fr1 + 3) (lo1 + 70) G [.ref a_this] (w_M_compared G a_this a_height a_changeAt a_changeWas a_changeIs a_tape a_text a_names a_line a_row a_pastMany a_past a_changed a_greatest a_numbersWere a_told a_waysOf a_waysWere a_blocks a_ordersOf a_imageLine a_bodyKind a_trace a_shelf a_many a_items a_carried people keptMany done tapeMany textMany base at_ ends fault opened lineMany rowMany taller tallerBy pasts isKept imageMany bodies ran ownKind ownNumber tape text names) (some (.int r_)) (w_M_compared G a_this a_height a_changeAt a_changeWas a_changeIs a_tape a_text a_names a_line a_row a_pastMany a_past a_changed a_greatest a_numbersWere a_told a_waysOf a_waysWere a_blocks a_ordersOf a_imageLine a_bodyKind a_trace a_shelf a_many a_items a_carried people keptMany done tapeMany textMany base o_at_ ends o_fault o_opened lineMany rowMany taller tallerBy pasts isKept imageMany bodies ran ownKind ownNumber tape text names) := by
  refine zM.of [(0, .ref a_this)] (own := RX12) rfl (by decide +kernel) (Nat.le_of_ble_eq_true rfl) rfl rfl fun X hX F => ?_
  subst hX
  replace hf := (f_M_compared.eq_1 ..).symm.trans hf
  refine z_aload_n F 0 dX12_compared_0 rfl rfl ?_
  obtain ⟨r_1, at__2, fault_3, opened_4, hg, hf⟩ := zb4_some hf
  refine z_callVm (rest := []) F 12 (c_M_sums (xL X) G a_this a_height a_changeAt a_changeWas a_changeIs a_tape a_text a_names a_line a_row a_pastMany a_past a_changed a_greatest a_numbersWere a_told a_waysOf a_waysWere a_blocks a_ordersOf a_imageLine a_bodyKind a_trace a_shelf a_many a_items a_carried people keptMany done tapeMany textMany base at_ ends fault opened lineMany rowMany taller tallerBy pasts isKept imageMany bodies ran ownKind ownNumber tape text names rec hrec r_1 at__2 fault_3 opened_4 hg) hy_X12_sums ml_X12_158 hd_X12_sums ⟨by omega, by omega⟩ rfl [0, 1, 2, 3] rfl rfl 0 rfl rfl (w_M_compared G a_this a_height a_changeAt a_changeWas a_changeIs a_tape a_text a_names a_line a_row a_pastMany a_past a_changed a_greatest a_numbersWere a_told a_waysOf a_waysWere a_blocks a_ordersOf a_imageLine a_bodyKind a_trace a_shelf a_many a_items a_carried people keptMany done tapeMany textMany base at__2 ends fault_3 opened_4 lineMany rowMany taller tallerBy pasts isKept imageMany bodies ran ownKind ownNumber tape text names) [some 0, some 1, some 2, some 3] rfl (by decide +kernel) rfl rfl (Nat.le_of_ble_eq_true rfl) dX12_compared_1 (fun hz_5 => ?_)
  refine z_istore_n F [(1, .int r_1), (0, .ref a_this)] dX12_compared_4 rfl (by decide) rfl ?_
  refine z_aload_n F 1 dX12_compared_5 rfl rfl ?_
  obtain ⟨r_6, hg, hf⟩ := zb1_some hf
  refine z_callVm (rest := []) F 12 (c_M_byteAt (xL X) G a_this a_height a_changeAt a_changeWas a_changeIs a_tape a_text a_names a_line a_row a_pastMany a_past a_changed a_greatest a_numbersWere a_told a_waysOf a_waysWere a_blocks a_ordersOf a_imageLine a_bodyKind a_trace a_shelf a_many a_items a_carried people keptMany done tapeMany textMany base at__2 ends fault_3 opened_4 lineMany rowMany taller tallerBy pasts isKept imageMany bodies ran ownKind ownNumber tape text r_6 hg) hy_X12_byteAt ml_X12_145 hd_X12_byteAt ⟨by omega, by omega⟩ rfl [0, 1, 2] rfl rfl 0 rfl rfl (w_M_compared G a_this a_height a_changeAt a_changeWas a_changeIs a_tape a_text a_names a_line a_row a_pastMany a_past a_changed a_greatest a_numbersWere a_told a_waysOf a_waysWere a_blocks a_ordersOf a_imageLine a_bodyKind a_trace a_shelf a_many a_items a_carried people keptMany done tapeMany textMany base at__2 ends fault_3 opened_4 lineMany rowMany taller tallerBy pasts isKept imageMany bodies ran ownKind ownNumber tape text names) [some 0, some 1, some 2, none] rfl (by decide +kernel) rfl rfl (Nat.le_of_ble_eq_true rfl) dX12_compared_6 (fun hz_7 => ?_)
  refine z_istore_n F [(2, .int r_6), (1, .int r_1), (0, .ref a_this)] dX12_compared_9 rfl (by decide) rfl ?_
  refine z_aload_n F 2 dX12_compared_10 rfl rfl ?_
  refine z_get F 0 12 14 inlX12 rfl rfl (by decide) fl_X12_142 rfl dX12_compared_11 ?_
  refine z_if_ge F 35 dX12_compared_14 (by decide) hf (fun hf _ => ?_) (fun hf _ => ?_)
  · refine z_iload_n F 1 dX12_compared_35 rfl rfl ?_
    have eq1 := Option.some.inj hf
    obtain ⟨ee1, eq2⟩ := Prod.mk.inj eq1
    obtain ⟨ee2, eq3⟩ := Prod.mk.inj eq2
    obtain ⟨ee3, ee4⟩ := Prod.mk.inj eq3
    subst ee1
    subst ee2
    subst ee3
    subst ee4
    exact z_iret F rfl rfl rfl rfl dX12_compared_36
  · refine z_iload_n F 0 dX12_compared_17 rfl rfl ?_
    refine z_bipush F (60) dX12_compared_18 rfl ?_
    refine z_icmp_eq F 37 dX12_compared_20 (by decide) hf (fun hf _ => ?_) (fun hf _ => ?_)
    · refine z_aload_n F 2 dX12_compared_37 rfl rfl ?_
      refine z_dup F rfl dX12_compared_38 ?_
      refine z_get F 0 12 12 inlX12 rfl rfl (by decide) fl_X12_133 rfl dX12_compared_39 ?_
      refine z_iconst F (1) dX12_compared_42 rfl ?_
      refine z_iadd F dX12_compared_43 ?_
      refine z_put F 0 12 12 (w_M_compared G a_this a_height a_changeAt a_changeWas a_changeIs a_tape a_text a_names a_line a_row a_pastMany a_past a_changed a_greatest a_numbersWere a_told a_waysOf a_waysWere a_blocks a_ordersOf a_imageLine a_bodyKind a_trace a_shelf a_many a_items a_carried people keptMany done tapeMany textMany base (at__2 + (1 : Int32)) ends fault_3 opened_4 lineMany rowMany taller tallerBy pasts isKept imageMany bodies ran ownKind ownNumber tape text names) inlX12 tyX12 tyX12_ok nmX12 rfl rfl (by decide) fl_X12_133 rfl rfl rfl (Nat.le_of_ble_eq_true rfl) rfl dX12_compared_44 ?_
      refine z_aload_n F 2 dX12_compared_47 rfl rfl ?_
      obtain ⟨r_8, at__9, fault_10, opened_11, hg, hf⟩ := zb4_some hf
      refine z_callVm (rest := []) F 12 (c_M_sums (xL X) G a_this a_height a_changeAt a_changeWas a_changeIs a_tape a_text a_names a_line a_row a_pastMany a_past a_changed a_greatest a_numbersWere a_told a_waysOf a_waysWere a_blocks a_ordersOf a_imageLine a_bodyKind a_trace a_shelf a_many a_items a_carried people keptMany done tapeMany textMany base (at__2 + (1 : Int32)) ends fault_3 opened_4 lineMany rowMany taller tallerBy pasts isKept imageMany bodies ran ownKind ownNumber tape text names rec hrec r_8 at__9 fault_10 opened_11 hg) hy_X12_sums ml_X12_158 hd_X12_sums ⟨by omega, by omega⟩ rfl [0, 1, 2, 3] rfl rfl 0 rfl rfl (w_M_compared G a_this a_height a_changeAt a_changeWas a_changeIs a_tape a_text a_names a_line a_row a_pastMany a_past a_changed a_greatest a_numbersWere a_told a_waysOf a_waysWere a_blocks a_ordersOf a_imageLine a_bodyKind a_trace a_shelf a_many a_items a_carried people keptMany done tapeMany textMany base at__9 ends fault_10 opened_11 lineMany rowMany taller tallerBy pasts isKept imageMany bodies ran ownKind ownNumber tape text names) [some 0, some 1, some 2, some 3] rfl (by decide +kernel) rfl rfl (Nat.le_of_ble_eq_true rfl) dX12_compared_48 (fun hz_12 => ?_)
      refine z_istore_n F [(3, .int r_8), (2, .int r_6), (1, .int r_1), (0, .ref a_this)] dX12_compared_51 rfl (by decide) rfl ?_
      refine z_iload_n F 1 dX12_compared_52 rfl rfl ?_
      refine z_bipush F (60) dX12_compared_53 rfl ?_
      refine z_icmp_ne F 66 dX12_compared_55 (by decide) hf (fun hf _ => ?_) (fun hf _ => ?_)
      · refine z_iload_n F 1 dX12_compared_66 rfl rfl ?_
        refine z_bipush F (61) dX12_compared_67 rfl ?_
        refine z_icmp_ne F 80 dX12_compared_69 (by decide) hf (fun hf _ => ?_) (fun hf _ => ?_)
        · refine z_iload_n F 2 dX12_compared_80 rfl rfl ?_
          refine z_iload_n F 0 dX12_compared_81 rfl rfl ?_
          refine z_icmp_le F 89 dX12_compared_82 (by decide) hf (fun hf _ => ?_) (fun hf _ => ?_)
          · refine z_iconst F (0) dX12_compared_89 rfl ?_
            have eq1 := Option.some.inj hf
            obtain ⟨ee1, eq2⟩ := Prod.mk.inj eq1
            obtain ⟨ee2, eq3⟩ := Prod.mk.inj eq2
            obtain ⟨ee3, ee4⟩ := Prod.mk.inj eq3
            subst ee1
            subst ee2
            subst ee3
            subst ee4
            exact z_iret F rfl rfl rfl rfl dX12_compared_90
          · refine z_iconst F (1) dX12_compared_85 rfl ?_
            refine z_goto F 90 dX12_compared_86 (by decide) ?_
            have eq1 := Option.some.inj hf
            obtain ⟨ee1, eq2⟩ := Prod.mk.inj eq1
            obtain ⟨ee2, eq3⟩ := Prod.mk.inj eq2
            obtain ⟨ee3, ee4⟩ := Prod.mk.inj eq3
            subst ee1
            subst ee2
            subst ee3
            subst ee4
            exact z_iret F rfl rfl rfl rfl dX12_compared_90
        · refine z_iload_n F 2 dX12_compared_72 rfl rfl ?_
          refine z_iload_n F 0 dX12_compared_73 rfl rfl ?_
          refine z_icmp_ne F 89 dX12_compared_74 (by decide) hf (fun hf _ => ?_) (fun hf _ => ?_)
          · refine z_iconst F (0) dX12_compared_89 rfl ?_
            have eq1 := Option.some.inj hf
            obtain ⟨ee1, eq2⟩ := Prod.mk.inj eq1
            obtain ⟨ee2, eq3⟩ := Prod.mk.inj eq2
            obtain ⟨ee3, ee4⟩ := Prod.mk.inj eq3
            subst ee1
            subst ee2
            subst ee3
            subst ee4
            exact z_iret F rfl rfl rfl rfl dX12_compared_90
          · refine z_goto F 85 dX12_compared_77 (by decide) ?_
            refine z_iconst F (1) dX12_compared_85 rfl ?_
            refine z_goto F 90 dX12_compared_86 (by decide) ?_
            have eq1 := Option.some.inj hf
            obtain ⟨ee1, eq2⟩ := Prod.mk.inj eq1
            obtain ⟨ee2, eq3⟩ := Prod.mk.inj eq2
            obtain ⟨ee3, ee4⟩ := Prod.mk.inj eq3
            subst ee1
            subst ee2
            subst ee3
            subst ee4
            exact z_iret F rfl rfl rfl rfl dX12_compared_90
      · refine z_iload_n F 2 dX12_compared_58 rfl rfl ?_
        refine z_iload_n F 0 dX12_compared_59 rfl rfl ?_
        refine z_icmp_ge F 89 dX12_compared_60 (by decide) hf (fun hf _ => ?_) (fun hf _ => ?_)
        · refine z_iconst F (0) dX12_compared_89 rfl ?_
          have eq1 := Option.some.inj hf
          obtain ⟨ee1, eq2⟩ := Prod.mk.inj eq1
          obtain ⟨ee2, eq3⟩ := Prod.mk.inj eq2
          obtain ⟨ee3, ee4⟩ := Prod.mk.inj eq3
          subst ee1
          subst ee2
          subst ee3
          subst ee4
          exact z_iret F rfl rfl rfl rfl dX12_compared_90
        · refine z_goto F 85 dX12_compared_63 (by decide) ?_
          refine z_iconst F (1) dX12_compared_85 rfl ?_
          refine z_goto F 90 dX12_compared_86 (by decide) ?_
          have eq1 := Option.some.inj hf
          obtain ⟨ee1, eq2⟩ := Prod.mk.inj eq1
          obtain ⟨ee2, eq3⟩ := Prod.mk.inj eq2
          obtain ⟨ee3, ee4⟩ := Prod.mk.inj eq3
          subst ee1
          subst ee2
          subst ee3
          subst ee4
          exact z_iret F rfl rfl rfl rfl dX12_compared_90
    · refine z_iload_n F 0 dX12_compared_23 rfl rfl ?_
      refine z_bipush F (61) dX12_compared_24 rfl ?_
      refine z_icmp_eq F 37 dX12_compared_26 (by decide) hf (fun hf _ => ?_) (fun hf _ => ?_)
      · refine z_aload_n F 2 dX12_compared_37 rfl rfl ?_
        refine z_dup F rfl dX12_compared_38 ?_
        refine z_get F 0 12 12 inlX12 rfl rfl (by decide) fl_X12_133 rfl dX12_compared_39 ?_
        refine z_iconst F (1) dX12_compared_42 rfl ?_
        refine z_iadd F dX12_compared_43 ?_
        refine z_put F 0 12 12 (w_M_compared G a_this a_height a_changeAt a_changeWas a_changeIs a_tape a_text a_names a_line a_row a_pastMany a_past a_changed a_greatest a_numbersWere a_told a_waysOf a_waysWere a_blocks a_ordersOf a_imageLine a_bodyKind a_trace a_shelf a_many a_items a_carried people keptMany done tapeMany textMany base (at__2 + (1 : Int32)) ends fault_3 opened_4 lineMany rowMany taller tallerBy pasts isKept imageMany bodies ran ownKind ownNumber tape text names) inlX12 tyX12 tyX12_ok nmX12 rfl rfl (by decide) fl_X12_133 rfl rfl rfl (Nat.le_of_ble_eq_true rfl) rfl dX12_compared_44 ?_
        refine z_aload_n F 2 dX12_compared_47 rfl rfl ?_
        obtain ⟨r_13, at__14, fault_15, opened_16, hg, hf⟩ := zb4_some hf
        refine z_callVm (rest := []) F 12 (c_M_sums (xL X) G a_this a_height a_changeAt a_changeWas a_changeIs a_tape a_text a_names a_line a_row a_pastMany a_past a_changed a_greatest a_numbersWere a_told a_waysOf a_waysWere a_blocks a_ordersOf a_imageLine a_bodyKind a_trace a_shelf a_many a_items a_carried people keptMany done tapeMany textMany base (at__2 + (1 : Int32)) ends fault_3 opened_4 lineMany rowMany taller tallerBy pasts isKept imageMany bodies ran ownKind ownNumber tape text names rec hrec r_13 at__14 fault_15 opened_16 hg) hy_X12_sums ml_X12_158 hd_X12_sums ⟨by omega, by omega⟩ rfl [0, 1, 2, 3] rfl rfl 0 rfl rfl (w_M_compared G a_this a_height a_changeAt a_changeWas a_changeIs a_tape a_text a_names a_line a_row a_pastMany a_past a_changed a_greatest a_numbersWere a_told a_waysOf a_waysWere a_blocks a_ordersOf a_imageLine a_bodyKind a_trace a_shelf a_many a_items a_carried people keptMany done tapeMany textMany base at__14 ends fault_15 opened_16 lineMany rowMany taller tallerBy pasts isKept imageMany bodies ran ownKind ownNumber tape text names) [some 0, some 1, some 2, some 3] rfl (by decide +kernel) rfl rfl (Nat.le_of_ble_eq_true rfl) dX12_compared_48 (fun hz_17 => ?_)
        refine z_istore_n F [(3, .int r_13), (2, .int r_6), (1, .int r_1), (0, .ref a_this)] dX12_compared_51 rfl (by decide) rfl ?_
        refine z_iload_n F 1 dX12_compared_52 rfl rfl ?_
        refine z_bipush F (60) dX12_compared_53 rfl ?_
        refine z_icmp_ne F 66 dX12_compared_55 (by decide) hf (fun hf _ => ?_) (fun hf _ => ?_)
        · refine z_iload_n F 1 dX12_compared_66 rfl rfl ?_
          refine z_bipush F (61) dX12_compared_67 rfl ?_
          refine z_icmp_ne F 80 dX12_compared_69 (by decide) hf (fun hf _ => ?_) (fun hf _ => ?_)
          · refine z_iload_n F 2 dX12_compared_80 rfl rfl ?_
            refine z_iload_n F 0 dX12_compared_81 rfl rfl ?_
            refine z_icmp_le F 89 dX12_compared_82 (by decide) hf (fun hf _ => ?_) (fun hf _ => ?_)
            · refine z_iconst F (0) dX12_compared_89 rfl ?_
              have eq1 := Option.some.inj hf
              obtain ⟨ee1, eq2⟩ := Prod.mk.inj eq1
              obtain ⟨ee2, eq3⟩ := Prod.mk.inj eq2
              obtain ⟨ee3, ee4⟩ := Prod.mk.inj eq3
              subst ee1
              subst ee2
              subst ee3
              subst ee4
              exact z_iret F rfl rfl rfl rfl dX12_compared_90
            · refine z_iconst F (1) dX12_compared_85 rfl ?_
              refine z_goto F 90 dX12_compared_86 (by decide) ?_
              have eq1 := Option.some.inj hf
              obtain ⟨ee1, eq2⟩ := Prod.mk.inj eq1
              obtain ⟨ee2, eq3⟩ := Prod.mk.inj eq2
              obtain ⟨ee3, ee4⟩ := Prod.mk.inj eq3
              subst ee1
              subst ee2
              subst ee3
              subst ee4
              exact z_iret F rfl rfl rfl rfl dX12_compared_90
          · refine z_iload_n F 2 dX12_compared_72 rfl rfl ?_
            refine z_iload_n F 0 dX12_compared_73 rfl rfl ?_
            refine z_icmp_ne F 89 dX12_compared_74 (by decide) hf (fun hf _ => ?_) (fun hf _ => ?_)
            · refine z_iconst F (0) dX12_compared_89 rfl ?_
              have eq1 := Option.some.inj hf
              obtain ⟨ee1, eq2⟩ := Prod.mk.inj eq1
              obtain ⟨ee2, eq3⟩ := Prod.mk.inj eq2
              obtain ⟨ee3, ee4⟩ := Prod.mk.inj eq3
              subst ee1
              subst ee2
              subst ee3
              subst ee4
              exact z_iret F rfl rfl rfl rfl dX12_compared_90
            · refine z_goto F 85 dX12_compared_77 (by decide) ?_
              refine z_iconst F (1) dX12_compared_85 rfl ?_
              refine z_goto F 90 dX12_compared_86 (by decide) ?_
              have eq1 := Option.some.inj hf
              obtain ⟨ee1, eq2⟩ := Prod.mk.inj eq1
              obtain ⟨ee2, eq3⟩ := Prod.mk.inj eq2
              obtain ⟨ee3, ee4⟩ := Prod.mk.inj eq3
              subst ee1
              subst ee2
              subst ee3
              subst ee4
              exact z_iret F rfl rfl rfl rfl dX12_compared_90
        · refine z_iload_n F 2 dX12_compared_58 rfl rfl ?_
          refine z_iload_n F 0 dX12_compared_59 rfl rfl ?_
          refine z_icmp_ge F 89 dX12_compared_60 (by decide) hf (fun hf _ => ?_) (fun hf _ => ?_)
          · refine z_iconst F (0) dX12_compared_89 rfl ?_
            have eq1 := Option.some.inj hf
            obtain ⟨ee1, eq2⟩ := Prod.mk.inj eq1
            obtain ⟨ee2, eq3⟩ := Prod.mk.inj eq2
            obtain ⟨ee3, ee4⟩ := Prod.mk.inj eq3
            subst ee1
            subst ee2
            subst ee3
            subst ee4
            exact z_iret F rfl rfl rfl rfl dX12_compared_90
          · refine z_goto F 85 dX12_compared_63 (by decide) ?_
            refine z_iconst F (1) dX12_compared_85 rfl ?_
            refine z_goto F 90 dX12_compared_86 (by decide) ?_
            have eq1 := Option.some.inj hf
            obtain ⟨ee1, eq2⟩ := Prod.mk.inj eq1
            obtain ⟨ee2, eq3⟩ := Prod.mk.inj eq2
            obtain ⟨ee3, ee4⟩ := Prod.mk.inj eq3
            subst ee1
            subst ee2
            subst ee3
            subst ee4
            exact z_iret F rfl rfl rfl rfl dX12_compared_90
      · refine z_iload_n F 0 dX12_compared_29 rfl rfl ?_
        refine z_bipush F (62) dX12_compared_30 rfl ?_
        refine z_icmp_eq F 37 dX12_compared_32 (by decide) hf (fun hf _ => ?_) (fun hf _ => ?_)
        · refine z_aload_n F 2 dX12_compared_37 rfl rfl ?_
          refine z_dup F rfl dX12_compared_38 ?_
          refine z_get F 0 12 12 inlX12 rfl rfl (by decide) fl_X12_133 rfl dX12_compared_39 ?_
          refine z_iconst F (1) dX12_compared_42 rfl ?_
          refine z_iadd F dX12_compared_43 ?_
          refine z_put F 0 12 12 (w_M_compared G a_this a_height a_changeAt a_changeWas a_changeIs a_tape a_text a_names a_line a_row a_pastMany a_past a_changed a_greatest a_numbersWere a_told a_waysOf a_waysWere a_blocks a_ordersOf a_imageLine a_bodyKind a_trace a_shelf a_many a_items a_carried people keptMany done tapeMany textMany base (at__2 + (1 : Int32)) ends fault_3 opened_4 lineMany rowMany taller tallerBy pasts isKept imageMany bodies ran ownKind ownNumber tape text names) inlX12 tyX12 tyX12_ok nmX12 rfl rfl (by decide) fl_X12_133 rfl rfl rfl (Nat.le_of_ble_eq_true rfl) rfl dX12_compared_44 ?_
          refine z_aload_n F 2 dX12_compared_47 rfl rfl ?_
          obtain ⟨r_18, at__19, fault_20, opened_21, hg, hf⟩ := zb4_some hf
          refine z_callVm (rest := []) F 12 (c_M_sums (xL X) G a_this a_height a_changeAt a_changeWas a_changeIs a_tape a_text a_names a_line a_row a_pastMany a_past a_changed a_greatest a_numbersWere a_told a_waysOf a_waysWere a_blocks a_ordersOf a_imageLine a_bodyKind a_trace a_shelf a_many a_items a_carried people keptMany done tapeMany textMany base (at__2 + (1 : Int32)) ends fault_3 opened_4 lineMany rowMany taller tallerBy pasts isKept imageMany bodies ran ownKind ownNumber tape text names rec hrec r_18 at__19 fault_20 opened_21 hg) hy_X12_sums ml_X12_158 hd_X12_sums ⟨by omega, by omega⟩ rfl [0, 1, 2, 3] rfl rfl 0 rfl rfl (w_M_compared G a_this a_height a_changeAt a_changeWas a_changeIs a_tape a_text a_names a_line a_row a_pastMany a_past a_changed a_greatest a_numbersWere a_told a_waysOf a_waysWere a_blocks a_ordersOf a_imageLine a_bodyKind a_trace a_shelf a_many a_items a_carried people keptMany done tapeMany textMany base at__19 ends fault_20 opened_21 lineMany rowMany taller tallerBy pasts isKept imageMany bodies ran ownKind ownNumber tape text names) [some 0, some 1, some 2, some 3] rfl (by decide +kernel) rfl rfl (Nat.le_of_ble_eq_true rfl) dX12_compared_48 (fun hz_22 => ?_)
          refine z_istore_n F [(3, .int r_18), (2, .int r_6), (1, .int r_1), (0, .ref a_this)] dX12_compared_51 rfl (by decide) rfl ?_
          refine z_iload_n F 1 dX12_compared_52 rfl rfl ?_
          refine z_bipush F (60) dX12_compared_53 rfl ?_
          refine z_icmp_ne F 66 dX12_compared_55 (by decide) hf (fun hf _ => ?_) (fun hf _ => ?_)
          · refine z_iload_n F 1 dX12_compared_66 rfl rfl ?_
            refine z_bipush F (61) dX12_compared_67 rfl ?_
            refine z_icmp_ne F 80 dX12_compared_69 (by decide) hf (fun hf _ => ?_) (fun hf _ => ?_)
            · refine z_iload_n F 2 dX12_compared_80 rfl rfl ?_
              refine z_iload_n F 0 dX12_compared_81 rfl rfl ?_
              refine z_icmp_le F 89 dX12_compared_82 (by decide) hf (fun hf _ => ?_) (fun hf _ => ?_)
              · refine z_iconst F (0) dX12_compared_89 rfl ?_
                have eq1 := Option.some.inj hf
                obtain ⟨ee1, eq2⟩ := Prod.mk.inj eq1
                obtain ⟨ee2, eq3⟩ := Prod.mk.inj eq2
                obtain ⟨ee3, ee4⟩ := Prod.mk.inj eq3
                subst ee1
                subst ee2
                subst ee3
                subst ee4
                exact z_iret F rfl rfl rfl rfl dX12_compared_90
              · refine z_iconst F (1) dX12_compared_85 rfl ?_
                refine z_goto F 90 dX12_compared_86 (by decide) ?_
                have eq1 := Option.some.inj hf
                obtain ⟨ee1, eq2⟩ := Prod.mk.inj eq1
                obtain ⟨ee2, eq3⟩ := Prod.mk.inj eq2
                obtain ⟨ee3, ee4⟩ := Prod.mk.inj eq3
                subst ee1
                subst ee2
                subst ee3
                subst ee4
                exact z_iret F rfl rfl rfl rfl dX12_compared_90
            · refine z_iload_n F 2 dX12_compared_72 rfl rfl ?_
              refine z_iload_n F 0 dX12_compared_73 rfl rfl ?_
              refine z_icmp_ne F 89 dX12_compared_74 (by decide) hf (fun hf _ => ?_) (fun hf _ => ?_)
              · refine z_iconst F (0) dX12_compared_89 rfl ?_
                have eq1 := Option.some.inj hf
                obtain ⟨ee1, eq2⟩ := Prod.mk.inj eq1
                obtain ⟨ee2, eq3⟩ := Prod.mk.inj eq2
                obtain ⟨ee3, ee4⟩ := Prod.mk.inj eq3
                subst ee1
                subst ee2
                subst ee3
                subst ee4
                exact z_iret F rfl rfl rfl rfl dX12_compared_90
              · refine z_goto F 85 dX12_compared_77 (by decide) ?_
                refine z_iconst F (1) dX12_compared_85 rfl ?_
                refine z_goto F 90 dX12_compared_86 (by decide) ?_
                have eq1 := Option.some.inj hf
                obtain ⟨ee1, eq2⟩ := Prod.mk.inj eq1
                obtain ⟨ee2, eq3⟩ := Prod.mk.inj eq2
                obtain ⟨ee3, ee4⟩ := Prod.mk.inj eq3
                subst ee1
                subst ee2
                subst ee3
                subst ee4
                exact z_iret F rfl rfl rfl rfl dX12_compared_90
          · refine z_iload_n F 2 dX12_compared_58 rfl rfl ?_
            refine z_iload_n F 0 dX12_compared_59 rfl rfl ?_
            refine z_icmp_ge F 89 dX12_compared_60 (by decide) hf (fun hf _ => ?_) (fun hf _ => ?_)
            · refine z_iconst F (0) dX12_compared_89 rfl ?_
              have eq1 := Option.some.inj hf
              obtain ⟨ee1, eq2⟩ := Prod.mk.inj eq1
              obtain ⟨ee2, eq3⟩ := Prod.mk.inj eq2
              obtain ⟨ee3, ee4⟩ := Prod.mk.inj eq3
              subst ee1
              subst ee2
              subst ee3
              subst ee4
              exact z_iret F rfl rfl rfl rfl dX12_compared_90
            · refine z_goto F 85 dX12_compared_63 (by decide) ?_
              refine z_iconst F (1) dX12_compared_85 rfl ?_
              refine z_goto F 90 dX12_compared_86 (by decide) ?_
              have eq1 := Option.some.inj hf
              obtain ⟨ee1, eq2⟩ := Prod.mk.inj eq1
              obtain ⟨ee2, eq3⟩ := Prod.mk.inj eq2
              obtain ⟨ee3, ee4⟩ := Prod.mk.inj eq3
              subst ee1
              subst ee2
              subst ee3
              subst ee4
              exact z_iret F rfl rfl rfl rfl dX12_compared_90
        · refine z_iload_n F 1 dX12_compared_35 rfl rfl ?_
          have eq1 := Option.some.inj hf
          obtain ⟨ee1, eq2⟩ := Prod.mk.inj eq1
          obtain ⟨ee2, eq3⟩ := Prod.mk.inj eq2
          obtain ⟨ee3, ee4⟩ := Prod.mk.inj eq3
          subst ee1
          subst ee2
          subst ee3
          subst ee4
          exact z_iret F rfl rfl rfl rfl dX12_compared_36

abbrev w_M_both (G : zG) (a_this : Nat) (a_height : Nat) (a_changeAt : Nat) (a_changeWas : Nat) (a_changeIs : Nat) (a_tape : Nat) (a_text : Nat) (a_names : Nat) (a_line : Nat) (a_row : Nat) (a_pastMany : Nat) (a_past : Nat) (a_changed : Nat) (a_greatest : Nat) (a_numbersWere : Nat) (a_told : Nat) (a_waysOf : Nat) (a_waysWere : Nat) (a_blocks : Nat) (a_ordersOf : Nat) (a_imageLine : Nat) (a_bodyKind : Nat) (a_trace : Nat) (a_shelf : Nat) (a_many : Nat) (a_items : Nat) (a_carried : Nat) (people : Int32) (keptMany : Int32) (done : Int32) (tapeMany : Int32) (textMany : Int32) (base : Int32) (at_ : Int32) (ends : Int32) (fault : Int32) (opened : Int32) (lineMany : Int32) (rowMany : Int32) (taller : Int32) (tallerBy : Int32) (pasts : Int32) (isKept : Int32) (imageMany : Int32) (bodies : Int32) (ran : Int32) (ownKind : Int32) (ownNumber : Int32) (tape : Nat → Int32) (text : Nat → Int32) (names : Nat → Int32) : va_W := [(a_this, cO 12 [.int people, .ref a_height, .ref a_changeAt, .ref a_changeWas, .ref a_changeIs, .int keptMany, .int done, .ref a_tape, .int tapeMany, .ref a_text, .int textMany, .int base, .int at_, .int ends, .int fault, .int opened, .ref a_names, .ref a_line, .int lineMany, .ref a_row, .int rowMany, .int taller, .int tallerBy, .ref a_pastMany, .ref a_past, .int pasts, .ref a_changed, .ref a_greatest, .ref a_numbersWere, .ref a_told, .ref a_waysOf, .ref a_waysWere, .ref a_blocks, .ref a_ordersOf, .int isKept, .int imageMany, .ref a_imageLine, .int bodies, .ref a_bodyKind, .ref a_trace, .int ran, .int ownKind, .int ownNumber, .ref a_shelf, .ref a_many, .ref a_items, .ref a_carried]), (a_tape, cI G 120 tape), (a_text, cI G 120 text), (a_names, cI G 5 names)]
def f_M_both_L5 (rec : Int32 → Int32 → Int32 → Int32 → Int32 → (Nat → Int32) → (Nat → Int32) → (Nat → Int32) → Option (Int32 × Int32 × Int32 × Int32)) (base : Int32) (ends : Int32) (tape : Nat → Int32) (text : Nat → Int32) (names : Nat → Int32) : Nat → Int32 → Int32 → Int32 → Int32 → Option (Int32 × Int32 × Int32 × Int32)
  | 0, _, _, _, _ => none
  | fuel + 1, at_, fault, opened, v1 => (zb2 (f_M_takes base at_ ends fault tape text 38) fun r_6 at__7 => (if r_6 = 0 then (some (at__7, fault, opened, v1)) else (zb4 (f_M_compared rec base at__7 ends fault opened tape text names) fun r_9 at__10 fault_11 opened_12 => (if v1 = 0 then (f_M_both_L5 rec base ends tape text names fuel at__10 fault_11 opened_12 0) else (if r_9 = 0 then (f_M_both_L5 rec base ends tape text names fuel at__10 fault_11 opened_12 0) else (f_M_both_L5 rec base ends tape text names fuel at__10 fault_11 opened_12 1))))))
def f_M_both (rec : Int32 → Int32 → Int32 → Int32 → Int32 → (Nat → Int32) → (Nat → Int32) → (Nat → Int32) → Option (Int32 × Int32 × Int32 × Int32)) (base : Int32) (at_ : Int32) (ends : Int32) (fault : Int32) (opened : Int32) (tape : Nat → Int32) (text : Nat → Int32) (names : Nat → Int32) : Option (Int32 × Int32 × Int32 × Int32) := (zb4 (f_M_compared rec base at_ ends fault opened tape text names) fun r_1 at__2 fault_3 opened_4 => (zb4 (f_M_both_L5 rec base ends tape text names FU at__2 fault_3 opened_4 r_1) fun at__14 fault_15 opened_16 v1_17 => (some (v1_17, at__14, fault_15, opened_16))))
set_option maxRecDepth 100000 in
set_option maxHeartbeats 4000000 in
theorem l_M_both_5 {X : zX} (G : zG) (a_this : Nat) (a_height : Nat) (a_changeAt : Nat) (a_changeWas : Nat) (a_changeIs : Nat) (a_tape : Nat) (a_text : Nat) (a_names : Nat) (a_line : Nat) (a_row : Nat) (a_pastMany : Nat) (a_past : Nat) (a_changed : Nat) (a_greatest : Nat) (a_numbersWere : Nat) (a_told : Nat) (a_waysOf : Nat) (a_waysWere : Nat) (a_blocks : Nat) (a_ordersOf : Nat) (a_imageLine : Nat) (a_bodyKind : Nat) (a_trace : Nat) (a_shelf : Nat) (a_many : Nat) (a_items : Nat) (a_carried : Nat) (people : Int32) (keptMany : Int32) (done : Int32) (tapeMany : Int32) (textMany : Int32) (base : Int32) (ends : Int32) (lineMany : Int32) (rowMany : Int32) (taller : Int32) (tallerBy : Int32) (pasts : Int32) (isKept : Int32) (imageMany : Int32) (bodies : Int32) (ran : Int32) (ownKind : Int32) (ownNumber : Int32) (tape : Nat → Int32) (text : Nat → Int32) (names : Nat → Int32) (rec : Int32 → Int32 → Int32 → Int32 → Int32 → (Nat → Int32) → (Nat → Int32) → (Nat → Int32) → Option (Int32 × Int32 × Int32 × Int32)) {fr1 lo1 : Nat} (hrec : K_M_one (xL X) G a_this a_height a_changeAt a_changeWas a_changeIs a_tape a_text a_names a_line a_row a_pastMany a_past a_changed a_greatest a_numbersWere a_told a_waysOf a_waysWere a_blocks a_ordersOf a_imageLine a_bodyKind a_trace a_shelf a_many a_items a_carried fr1 lo1 rec) {v0 : Option Value} {w0 : va_W} (F : zF X G cX12_both RX12 3 (some .int) (fr1 + 4) (lo1 + 93) v0 w0) (e_at_ : Int32) (e_fault : Int32) (e_opened : Int32) (e_v1 : Int32) (hk : Z X G 3 (w_M_both G a_this a_height a_changeAt a_changeWas a_changeIs a_tape a_text a_names a_line a_row a_pastMany a_past a_changed a_greatest a_numbersWere a_told a_waysOf a_waysWere a_blocks a_ordersOf a_imageLine a_bodyKind a_trace a_shelf a_many a_items a_carried people keptMany done tapeMany textMany base e_at_ ends e_fault e_opened lineMany rowMany taller tallerBy pasts isKept imageMany bodies ran ownKind ownNumber tape text names) [(1, .int e_v1)] 36 []) :
    ∀ (fuel : Nat) (at_ : Int32) (fault : Int32) (opened : Int32) (v1 : Int32), f_M_both_L5 rec base ends tape text names fuel at_ fault opened v1 = some (e_at_, e_fault, e_opened, e_v1) → Z X G 3 (w_M_both G a_this a_height a_changeAt a_changeWas a_changeIs a_tape a_text a_names a_line a_row a_pastMany a_past a_changed a_greatest a_numbersWere a_told a_waysOf a_waysWere a_blocks a_ordersOf a_imageLine a_bodyKind a_trace a_shelf a_many a_items a_carried people keptMany done tapeMany textMany base at_ ends fault opened lineMany rowMany taller tallerBy pasts isKept imageMany bodies ran ownKind ownNumber tape text names) [(0, .ref a_this), (1, .int v1)] 5 [] := by
  intro fuel
  induction fuel with
  | zero => intro at_ fault opened v1 hf; exact absurd ((f_M_both_L5.eq_1 ..).symm.trans hf) (fun h => by cases h)
  | succ fuel ih =>
    intro at_ fault opened v1 hf
    replace hf := (f_M_both_L5.eq_2 ..).symm.trans hf
    refine z_aload_n F 0 dX12_both_5 rfl rfl ?_
    refine z_bipush F (38) dX12_both_6 rfl ?_
    obtain ⟨r_6, at__7, hg, hf⟩ := zb2_some hf
    refine z_callVm (rest := []) F 12 (c_M_takes (xL X) G a_this a_height a_changeAt a_changeWas a_changeIs a_tape a_text a_names a_line a_row a_pastMany a_past a_changed a_greatest a_numbersWere a_told a_waysOf a_waysWere a_blocks a_ordersOf a_imageLine a_bodyKind a_trace a_shelf a_many a_items a_carried people keptMany done tapeMany textMany base at_ ends fault opened lineMany rowMany taller tallerBy pasts isKept imageMany bodies ran ownKind ownNumber tape text 38 r_6 at__7 hg) hy_X12_takes ml_X12_152 hd_X12_takes ⟨by omega, by omega⟩ rfl [0, 1, 2] rfl rfl 0 rfl rfl (w_M_both G a_this a_height a_changeAt a_changeWas a_changeIs a_tape a_text a_names a_line a_row a_pastMany a_past a_changed a_greatest a_numbersWere a_told a_waysOf a_waysWere a_blocks a_ordersOf a_imageLine a_bodyKind a_trace a_shelf a_many a_items a_carried people keptMany done tapeMany textMany base at__7 ends fault opened lineMany rowMany taller tallerBy pasts isKept imageMany bodies ran ownKind ownNumber tape text names) [some 0, some 1, some 2, none] rfl (by decide +kernel) rfl rfl (Nat.le_of_ble_eq_true rfl) dX12_both_8 (fun hz_8 => ?_)
    refine z_if_eq F 36 dX12_both_11 (by decide) hf (fun hf _ => ?_) (fun hf _ => ?_)
    · have eq1 := Option.some.inj hf
      obtain ⟨ee1, eq2⟩ := Prod.mk.inj eq1
      obtain ⟨ee2, eq3⟩ := Prod.mk.inj eq2
      obtain ⟨ee3, ee4⟩ := Prod.mk.inj eq3
      subst ee1
      subst ee2
      subst ee3
      subst ee4
      exact z_sub [1] rfl hk
    · refine z_aload_n F 0 dX12_both_14 rfl rfl ?_
      obtain ⟨r_9, at__10, fault_11, opened_12, hg, hf⟩ := zb4_some hf
      refine z_callVm (rest := []) F 12 (c_M_compared (xL X) G a_this a_height a_changeAt a_changeWas a_changeIs a_tape a_text a_names a_line a_row a_pastMany a_past a_changed a_greatest a_numbersWere a_told a_waysOf a_waysWere a_blocks a_ordersOf a_imageLine a_bodyKind a_trace a_shelf a_many a_items a_carried people keptMany done tapeMany textMany base at__7 ends fault opened lineMany rowMany taller tallerBy pasts isKept imageMany bodies ran ownKind ownNumber tape text names rec hrec r_9 at__10 fault_11 opened_12 hg) hy_X12_compared ml_X12_155 hd_X12_compared ⟨by omega, by omega⟩ rfl [0, 1, 2, 3] rfl rfl 0 rfl rfl (w_M_both G a_this a_height a_changeAt a_changeWas a_changeIs a_tape a_text a_names a_line a_row a_pastMany a_past a_changed a_greatest a_numbersWere a_told a_waysOf a_waysWere a_blocks a_ordersOf a_imageLine a_bodyKind a_trace a_shelf a_many a_items a_carried people keptMany done tapeMany textMany base at__10 ends fault_11 opened_12 lineMany rowMany taller tallerBy pasts isKept imageMany bodies ran ownKind ownNumber tape text names) [some 0, some 1, some 2, some 3] rfl (by decide +kernel) rfl rfl (Nat.le_of_ble_eq_true rfl) dX12_both_15 (fun hz_13 => ?_)
      refine z_istore_n F [(2, .int r_9), (0, .ref a_this), (1, .int v1)] dX12_both_18 rfl (by decide) rfl ?_
      refine z_iload_n F 2 dX12_both_19 rfl rfl ?_
      refine z_if_eq F 31 dX12_both_20 (by decide) hf (fun hf _ => ?_) (fun hf _ => ?_)
      · refine z_iconst F (0) dX12_both_31 rfl ?_
        refine z_istore_n F [(1, .int 0), (2, .int r_9), (0, .ref a_this)] dX12_both_32 rfl (by decide) rfl ?_
        refine z_goto F 5 dX12_both_33 (by decide) ?_
        exact z_sub [2, 0] rfl (ih at__10 fault_11 opened_12 0 hf)
      · refine z_iload_n F 0 dX12_both_23 rfl rfl ?_
        refine z_if_eq F 31 dX12_both_24 (by decide) hf (fun hf _ => ?_) (fun hf _ => ?_)
        · refine z_iconst F (0) dX12_both_31 rfl ?_
          refine z_istore_n F [(1, .int 0), (2, .int r_9), (0, .ref a_this)] dX12_both_32 rfl (by decide) rfl ?_
          refine z_goto F 5 dX12_both_33 (by decide) ?_
          exact z_sub [2, 0] rfl (ih at__10 fault_11 opened_12 0 hf)
        · refine z_iconst F (1) dX12_both_27 rfl ?_
          refine z_goto F 32 dX12_both_28 (by decide) ?_
          refine z_istore_n F [(1, .int 1), (2, .int r_9), (0, .ref a_this)] dX12_both_32 rfl (by decide) rfl ?_
          refine z_goto F 5 dX12_both_33 (by decide) ?_
          exact z_sub [2, 0] rfl (ih at__10 fault_11 opened_12 1 hf)

set_option maxRecDepth 100000 in
set_option maxHeartbeats 4000000 in
theorem c_M_both (l : Launch) (G : zG) (a_this : Nat) (a_height : Nat) (a_changeAt : Nat) (a_changeWas : Nat) (a_changeIs : Nat) (a_tape : Nat) (a_text : Nat) (a_names : Nat) (a_line : Nat) (a_row : Nat) (a_pastMany : Nat) (a_past : Nat) (a_changed : Nat) (a_greatest : Nat) (a_numbersWere : Nat) (a_told : Nat) (a_waysOf : Nat) (a_waysWere : Nat) (a_blocks : Nat) (a_ordersOf : Nat) (a_imageLine : Nat) (a_bodyKind : Nat) (a_trace : Nat) (a_shelf : Nat) (a_many : Nat) (a_items : Nat) (a_carried : Nat) (people : Int32) (keptMany : Int32) (done : Int32) (tapeMany : Int32) (textMany : Int32) (base : Int32) (at_ : Int32) (ends : Int32) (fault : Int32) (opened : Int32) (lineMany : Int32) (rowMany : Int32) (taller : Int32) (tallerBy : Int32) (pasts : Int32) (isKept : Int32) (imageMany : Int32) (bodies : Int32) (ran : Int32) (ownKind : Int32) (ownNumber : Int32) (tape : Nat → Int32) (text : Nat → Int32) (names : Nat → Int32) (rec : Int32 → Int32 → Int32 → Int32 → Int32 → (Nat → Int32) → (Nat → Int32) → (Nat → Int32) → Option (Int32 × Int32 × Int32 × Int32)) {fr1 lo1 : Nat} (hrec : K_M_one l G a_this a_height a_changeAt a_changeWas a_changeIs a_tape a_text a_names a_line a_row a_pastMany a_past a_changed a_greatest a_numbersWere a_told a_waysOf a_waysWere a_blocks a_ordersOf a_imageLine a_bodyKind a_trace a_shelf a_many a_items a_carried fr1 lo1 rec) (r_ : Int32) (o_at_ : Int32) (o_fault : Int32) (o_opened : Int32) (hf : f_M_both rec base at_ ends fault opened tape text names = some (r_, o_at_, o_fault, o_opened)) : zM l yX12_both cX12_both 3 (some .int) (fr1 + 4) (lo1 + 93) G [.ref a_this] (w_M_both G a_this a_height a_changeAt a_changeWas a_changeIs a_tape a_text a_names a_line a_row a_pastMany a_past a_changed a_greatest a_numbersWere a_told a_waysOf a_waysWere a_blocks a_ordersOf a_imageLine a_bodyKind a_trace a_shelf a_many a_items a_carried people keptMany done tapeMany textMany base at_ ends fault opened lineMany rowMany taller tallerBy pasts isKept imageMany bodies ran ownKind ownNumber tape text names) (some (.int r_)) (w_M_both G a_this a_height a_changeAt a_changeWas a_changeIs a_tape a_text a_names a_line a_row a_pastMany a_past a_changed a_greatest a_numbersWere a_told a_waysOf a_waysWere a_blocks a_ordersOf a_imageLine a_bodyKind a_trace a_shelf a_many a_items a_carried people keptMany done tapeMany textMany base o_at_ ends o_fault o_opened lineMany rowMany taller tallerBy pasts isKept imageMany bodies ran ownKind ownNumber tape text names) := by
  refine zM.of [(0, .ref a_this)] (own := RX12) rfl (by decide +kernel) (Nat.le_of_ble_eq_true rfl) rfl rfl fun X hX F => ?_
  subst hX
  replace hf := (f_M_both.eq_1 ..).symm.trans hf
  refine z_aload_n F 0 dX12_both_0 rfl rfl ?_
  obtain ⟨r_1, at__2, fault_3, opened_4, hg, hf⟩ := zb4_some hf
  refine z_callVm (rest := []) F 12 (c_M_compared (xL X) G a_this a_height a_changeAt a_changeWas a_changeIs a_tape a_text a_names a_line a_row a_pastMany a_past a_changed a_greatest a_numbersWere a_told a_waysOf a_waysWere a_blocks a_ordersOf a_imageLine a_bodyKind a_trace a_shelf a_many a_items a_carried people keptMany done tapeMany textMany base at_ ends fault opened lineMany rowMany taller tallerBy pasts isKept imageMany bodies ran ownKind ownNumber tape text names rec hrec r_1 at__2 fault_3 opened_4 hg) hy_X12_compared ml_X12_155 hd_X12_compared ⟨by omega, by omega⟩ rfl [0, 1, 2, 3] rfl rfl 0 rfl rfl (w_M_both G a_this a_height a_changeAt a_changeWas a_changeIs a_tape a_text a_names a_line a_row a_pastMany a_past a_changed a_greatest a_numbersWere a_told a_waysOf a_waysWere a_blocks a_ordersOf a_imageLine a_bodyKind a_trace a_shelf a_many a_items a_carried people keptMany done tapeMany textMany base at__2 ends fault_3 opened_4 lineMany rowMany taller tallerBy pasts isKept imageMany bodies ran ownKind ownNumber tape text names) [some 0, some 1, some 2, some 3] rfl (by decide +kernel) rfl rfl (Nat.le_of_ble_eq_true rfl) dX12_both_1 (fun hz_5 => ?_)
  refine z_istore_n F [(1, .int r_1), (0, .ref a_this)] dX12_both_4 rfl (by decide) rfl ?_
  obtain ⟨at__14, fault_15, opened_16, v1_17, hg, hf⟩ := zb4_some hf
  refine z_sub [1, 0] rfl ?_
  refine l_M_both_5 G a_this a_height a_changeAt a_changeWas a_changeIs a_tape a_text a_names a_line a_row a_pastMany a_past a_changed a_greatest a_numbersWere a_told a_waysOf a_waysWere a_blocks a_ordersOf a_imageLine a_bodyKind a_trace a_shelf a_many a_items a_carried people keptMany done tapeMany textMany base ends lineMany rowMany taller tallerBy pasts isKept imageMany bodies ran ownKind ownNumber tape text names rec hrec F at__14 fault_15 opened_16 v1_17 ?_ FU at__2 fault_3 opened_4 r_1 hg
  refine z_iload_n F 0 dX12_both_36 rfl rfl ?_
  have eq1 := Option.some.inj hf
  obtain ⟨ee1, eq2⟩ := Prod.mk.inj eq1
  obtain ⟨ee2, eq3⟩ := Prod.mk.inj eq2
  obtain ⟨ee3, ee4⟩ := Prod.mk.inj eq3
  subst ee1
  subst ee2
  subst ee3
  subst ee4
  exact z_iret F rfl rfl rfl rfl dX12_both_37

abbrev w_M_either (G : zG) (a_this : Nat) (a_height : Nat) (a_changeAt : Nat) (a_changeWas : Nat) (a_changeIs : Nat) (a_tape : Nat) (a_text : Nat) (a_names : Nat) (a_line : Nat) (a_row : Nat) (a_pastMany : Nat) (a_past : Nat) (a_changed : Nat) (a_greatest : Nat) (a_numbersWere : Nat) (a_told : Nat) (a_waysOf : Nat) (a_waysWere : Nat) (a_blocks : Nat) (a_ordersOf : Nat) (a_imageLine : Nat) (a_bodyKind : Nat) (a_trace : Nat) (a_shelf : Nat) (a_many : Nat) (a_items : Nat) (a_carried : Nat) (people : Int32) (keptMany : Int32) (done : Int32) (tapeMany : Int32) (textMany : Int32) (base : Int32) (at_ : Int32) (ends : Int32) (fault : Int32) (opened : Int32) (lineMany : Int32) (rowMany : Int32) (taller : Int32) (tallerBy : Int32) (pasts : Int32) (isKept : Int32) (imageMany : Int32) (bodies : Int32) (ran : Int32) (ownKind : Int32) (ownNumber : Int32) (tape : Nat → Int32) (text : Nat → Int32) (names : Nat → Int32) : va_W := [(a_this, cO 12 [.int people, .ref a_height, .ref a_changeAt, .ref a_changeWas, .ref a_changeIs, .int keptMany, .int done, .ref a_tape, .int tapeMany, .ref a_text, .int textMany, .int base, .int at_, .int ends, .int fault, .int opened, .ref a_names, .ref a_line, .int lineMany, .ref a_row, .int rowMany, .int taller, .int tallerBy, .ref a_pastMany, .ref a_past, .int pasts, .ref a_changed, .ref a_greatest, .ref a_numbersWere, .ref a_told, .ref a_waysOf, .ref a_waysWere, .ref a_blocks, .ref a_ordersOf, .int isKept, .int imageMany, .ref a_imageLine, .int bodies, .ref a_bodyKind, .ref a_trace, .int ran, .int ownKind, .int ownNumber, .ref a_shelf, .ref a_many, .ref a_items, .ref a_carried]), (a_tape, cI G 120 tape), (a_text, cI G 120 text), (a_names, cI G 5 names)]
def f_M_either_L5 (rec : Int32 → Int32 → Int32 → Int32 → Int32 → (Nat → Int32) → (Nat → Int32) → (Nat → Int32) → Option (Int32 × Int32 × Int32 × Int32)) (base : Int32) (ends : Int32) (tape : Nat → Int32) (text : Nat → Int32) (names : Nat → Int32) : Nat → Int32 → Int32 → Int32 → Int32 → Option (Int32 × Int32 × Int32 × Int32)
  | 0, _, _, _, _ => none
  | fuel + 1, at_, fault, opened, v1 => (zb2 (f_M_takes base at_ ends fault tape text 124) fun r_6 at__7 => (if r_6 = 0 then (some (at__7, fault, opened, v1)) else (zb4 (f_M_both rec base at__7 ends fault opened tape text names) fun r_9 at__10 fault_11 opened_12 => (if v1 = 0 then (if r_9 = 0 then (f_M_either_L5 rec base ends tape text names fuel at__10 fault_11 opened_12 0) else (f_M_either_L5 rec base ends tape text names fuel at__10 fault_11 opened_12 1)) else (f_M_either_L5 rec base ends tape text names fuel at__10 fault_11 opened_12 1)))))
def f_M_either (rec : Int32 → Int32 → Int32 → Int32 → Int32 → (Nat → Int32) → (Nat → Int32) → (Nat → Int32) → Option (Int32 × Int32 × Int32 × Int32)) (base : Int32) (at_ : Int32) (ends : Int32) (fault : Int32) (opened : Int32) (tape : Nat → Int32) (text : Nat → Int32) (names : Nat → Int32) : Option (Int32 × Int32 × Int32 × Int32) := (zb4 (f_M_both rec base at_ ends fault opened tape text names) fun r_1 at__2 fault_3 opened_4 => (zb4 (f_M_either_L5 rec base ends tape text names FU at__2 fault_3 opened_4 r_1) fun at__14 fault_15 opened_16 v1_17 => (some (v1_17, at__14, fault_15, opened_16))))
set_option maxRecDepth 100000 in
set_option maxHeartbeats 4000000 in
theorem l_M_either_5 {X : zX} (G : zG) (a_this : Nat) (a_height : Nat) (a_changeAt : Nat) (a_changeWas : Nat) (a_changeIs : Nat) (a_tape : Nat) (a_text : Nat) (a_names : Nat) (a_line : Nat) (a_row : Nat) (a_pastMany : Nat) (a_past : Nat) (a_changed : Nat) (a_greatest : Nat) (a_numbersWere : Nat) (a_told : Nat) (a_waysOf : Nat) (a_waysWere : Nat) (a_blocks : Nat) (a_ordersOf : Nat) (a_imageLine : Nat) (a_bodyKind : Nat) (a_trace : Nat) (a_shelf : Nat) (a_many : Nat) (a_items : Nat) (a_carried : Nat) (people : Int32) (keptMany : Int32) (done : Int32) (tapeMany : Int32) (textMany : Int32) (base : Int32) (ends : Int32) (lineMany : Int32) (rowMany : Int32) (taller : Int32) (tallerBy : Int32) (pasts : Int32) (isKept : Int32) (imageMany : Int32) (bodies : Int32) (ran : Int32) (ownKind : Int32) (ownNumber : Int32) (tape : Nat → Int32) (text : Nat → Int32) (names : Nat → Int32) (rec : Int32 → Int32 → Int32 → Int32 → Int32 → (Nat → Int32) → (Nat → Int32) → (Nat → Int32) → Option (Int32 × Int32 × Int32 × Int32)) {fr1 lo1 : Nat} (hrec : K_M_one (xL X) G a_this a_height a_changeAt a_changeWas a_changeIs a_tape a_text a_names a_line a_row a_pastMany a_past a_changed a_greatest a_numbersWere a_told a_waysOf a_waysWere a_blocks a_ordersOf a_imageLine a_bodyKind a_trace a_shelf a_many a_items a_carried fr1 lo1 rec) {v0 : Option Value} {w0 : va_W} (F : zF X G cX12_either RX12 3 (some .int) (fr1 + 5) (lo1 + 115) v0 w0) (e_at_ : Int32) (e_fault : Int32) (e_opened : Int32) (e_v1 : Int32) (hk : Z X G 3 (w_M_either G a_this a_height a_changeAt a_changeWas a_changeIs a_tape a_text a_names a_line a_row a_pastMany a_past a_changed a_greatest a_numbersWere a_told a_waysOf a_waysWere a_blocks a_ordersOf a_imageLine a_bodyKind a_trace a_shelf a_many a_items a_carried people keptMany done tapeMany textMany base e_at_ ends e_fault e_opened lineMany rowMany taller tallerBy pasts isKept imageMany bodies ran ownKind ownNumber tape text names) [(1, .int e_v1)] 36 []) :
    ∀ (fuel : Nat) (at_ : Int32) (fault : Int32) (opened : Int32) (v1 : Int32), f_M_either_L5 rec base ends tape text names fuel at_ fault opened v1 = some (e_at_, e_fault, e_opened, e_v1) → Z X G 3 (w_M_either G a_this a_height a_changeAt a_changeWas a_changeIs a_tape a_text a_names a_line a_row a_pastMany a_past a_changed a_greatest a_numbersWere a_told a_waysOf a_waysWere a_blocks a_ordersOf a_imageLine a_bodyKind a_trace a_shelf a_many a_items a_carried people keptMany done tapeMany textMany base at_ ends fault opened lineMany rowMany taller tallerBy pasts isKept imageMany bodies ran ownKind ownNumber tape text names) [(0, .ref a_this), (1, .int v1)] 5 [] := by
  intro fuel
  induction fuel with
  | zero => intro at_ fault opened v1 hf; exact absurd ((f_M_either_L5.eq_1 ..).symm.trans hf) (fun h => by cases h)
  | succ fuel ih =>
    intro at_ fault opened v1 hf
    replace hf := (f_M_either_L5.eq_2 ..).symm.trans hf
    refine z_aload_n F 0 dX12_either_5 rfl rfl ?_
    refine z_bipush F (124) dX12_either_6 rfl ?_
    obtain ⟨r_6, at__7, hg, hf⟩ := zb2_some hf
    refine z_callVm (rest := []) F 12 (c_M_takes (xL X) G a_this a_height a_changeAt a_changeWas a_changeIs a_tape a_text a_names a_line a_row a_pastMany a_past a_changed a_greatest a_numbersWere a_told a_waysOf a_waysWere a_blocks a_ordersOf a_imageLine a_bodyKind a_trace a_shelf a_many a_items a_carried people keptMany done tapeMany textMany base at_ ends fault opened lineMany rowMany taller tallerBy pasts isKept imageMany bodies ran ownKind ownNumber tape text 124 r_6 at__7 hg) hy_X12_takes ml_X12_152 hd_X12_takes ⟨by omega, by omega⟩ rfl [0, 1, 2] rfl rfl 0 rfl rfl (w_M_either G a_this a_height a_changeAt a_changeWas a_changeIs a_tape a_text a_names a_line a_row a_pastMany a_past a_changed a_greatest a_numbersWere a_told a_waysOf a_waysWere a_blocks a_ordersOf a_imageLine a_bodyKind a_trace a_shelf a_many a_items a_carried people keptMany done tapeMany textMany base at__7 ends fault opened lineMany rowMany taller tallerBy pasts isKept imageMany bodies ran ownKind ownNumber tape text names) [some 0, some 1, some 2, none] rfl (by decide +kernel) rfl rfl (Nat.le_of_ble_eq_true rfl) dX12_either_8 (fun hz_8 => ?_)
    refine z_if_eq F 36 dX12_either_11 (by decide) hf (fun hf _ => ?_) (fun hf _ => ?_)
    · have eq1 := Option.some.inj hf
      obtain ⟨ee1, eq2⟩ := Prod.mk.inj eq1
      obtain ⟨ee2, eq3⟩ := Prod.mk.inj eq2
      obtain ⟨ee3, ee4⟩ := Prod.mk.inj eq3
      subst ee1
      subst ee2
      subst ee3
      subst ee4
      exact z_sub [1] rfl hk
    · refine z_aload_n F 0 dX12_either_14 rfl rfl ?_
      obtain ⟨r_9, at__10, fault_11, opened_12, hg, hf⟩ := zb4_some hf
      refine z_callVm (rest := []) F 12 (c_M_both (xL X) G a_this a_height a_changeAt a_changeWas a_changeIs a_tape a_text a_names a_line a_row a_pastMany a_past a_changed a_greatest a_numbersWere a_told a_waysOf a_waysWere a_blocks a_ordersOf a_imageLine a_bodyKind a_trace a_shelf a_many a_items a_carried people keptMany done tapeMany textMany base at__7 ends fault opened lineMany rowMany taller tallerBy pasts isKept imageMany bodies ran ownKind ownNumber tape text names rec hrec r_9 at__10 fault_11 opened_12 hg) hy_X12_both ml_X12_149 hd_X12_both ⟨by omega, by omega⟩ rfl [0, 1, 2, 3] rfl rfl 0 rfl rfl (w_M_either G a_this a_height a_changeAt a_changeWas a_changeIs a_tape a_text a_names a_line a_row a_pastMany a_past a_changed a_greatest a_numbersWere a_told a_waysOf a_waysWere a_blocks a_ordersOf a_imageLine a_bodyKind a_trace a_shelf a_many a_items a_carried people keptMany done tapeMany textMany base at__10 ends fault_11 opened_12 lineMany rowMany taller tallerBy pasts isKept imageMany bodies ran ownKind ownNumber tape text names) [some 0, some 1, some 2, some 3] rfl (by decide +kernel) rfl rfl (Nat.le_of_ble_eq_true rfl) dX12_either_15 (fun hz_13 => ?_)
      refine z_istore_n F [(2, .int r_9), (0, .ref a_this), (1, .int v1)] dX12_either_18 rfl (by decide) rfl ?_
      refine z_iload_n F 2 dX12_either_19 rfl rfl ?_
      refine z_if_ne F 27 dX12_either_20 (by decide) hf (fun hf _ => ?_) (fun hf _ => ?_)
      · refine z_iconst F (1) dX12_either_27 rfl ?_
        refine z_goto F 32 dX12_either_28 (by decide) ?_
        refine z_istore_n F [(1, .int 1), (2, .int r_9), (0, .ref a_this)] dX12_either_32 rfl (by decide) rfl ?_
        refine z_goto F 5 dX12_either_33 (by decide) ?_
        exact z_sub [2, 0] rfl (ih at__10 fault_11 opened_12 1 hf)
      · refine z_iload_n F 0 dX12_either_23 rfl rfl ?_
        refine z_if_eq F 31 dX12_either_24 (by decide) hf (fun hf _ => ?_) (fun hf _ => ?_)
        · refine z_iconst F (0) dX12_either_31 rfl ?_
          refine z_istore_n F [(1, .int 0), (2, .int r_9), (0, .ref a_this)] dX12_either_32 rfl (by decide) rfl ?_
          refine z_goto F 5 dX12_either_33 (by decide) ?_
          exact z_sub [2, 0] rfl (ih at__10 fault_11 opened_12 0 hf)
        · refine z_iconst F (1) dX12_either_27 rfl ?_
          refine z_goto F 32 dX12_either_28 (by decide) ?_
          refine z_istore_n F [(1, .int 1), (2, .int r_9), (0, .ref a_this)] dX12_either_32 rfl (by decide) rfl ?_
          refine z_goto F 5 dX12_either_33 (by decide) ?_
          exact z_sub [2, 0] rfl (ih at__10 fault_11 opened_12 1 hf)

set_option maxRecDepth 100000 in
set_option maxHeartbeats 4000000 in
theorem c_M_either (l : Launch) (G : zG) (a_this : Nat) (a_height : Nat) (a_changeAt : Nat) (a_changeWas : Nat) (a_changeIs : Nat) (a_tape : Nat) (a_text : Nat) (a_names : Nat) (a_line : Nat) (a_row : Nat) (a_pastMany : Nat) (a_past : Nat) (a_changed : Nat) (a_greatest : Nat) (a_numbersWere : Nat) (a_told : Nat) (a_waysOf : Nat) (a_waysWere : Nat) (a_blocks : Nat) (a_ordersOf : Nat) (a_imageLine : Nat) (a_bodyKind : Nat) (a_trace : Nat) (a_shelf : Nat) (a_many : Nat) (a_items : Nat) (a_carried : Nat) (people : Int32) (keptMany : Int32) (done : Int32) (tapeMany : Int32) (textMany : Int32) (base : Int32) (at_ : Int32) (ends : Int32) (fault : Int32) (opened : Int32) (lineMany : Int32) (rowMany : Int32) (taller : Int32) (tallerBy : Int32) (pasts : Int32) (isKept : Int32) (imageMany : Int32) (bodies : Int32) (ran : Int32) (ownKind : Int32) (ownNumber : Int32) (tape : Nat → Int32) (text : Nat → Int32) (names : Nat → Int32) (rec : Int32 → Int32 → Int32 → Int32 → Int32 → (Nat → Int32) → (Nat → Int32) → (Nat → Int32) → Option (Int32 × Int32 × Int32 × Int32)) {fr1 lo1 : Nat} (hrec : K_M_one l G a_this a_height a_changeAt a_changeWas a_changeIs a_tape a_text a_names a_line a_row a_pastMany a_past a_changed a_greatest a_numbersWere a_told a_waysOf a_waysWere a_blocks a_ordersOf a_imageLine a_bodyKind a_trace a_shelf a_many a_items a_carried fr1 lo1 rec) (r_ : Int32) (o_at_ : Int32) (o_fault : Int32) (o_opened : Int32) (hf : f_M_either rec base at_ ends fault opened tape text names = some (r_, o_at_, o_fault, o_opened)) : zM l yX12_either cX12_either 3 (some .int) (fr1 + 5) (lo1 + 115) G [.ref a_this] (w_M_either G a_this a_height a_changeAt a_changeWas a_changeIs a_tape a_text a_names a_line a_row a_pastMany a_past a_changed a_greatest a_numbersWere a_told a_waysOf a_waysWere a_blocks a_ordersOf a_imageLine a_bodyKind a_trace a_shelf a_many a_items a_carried people keptMany done tapeMany textMany base at_ ends fault opened lineMany rowMany taller tallerBy pasts isKept imageMany bodies ran ownKind ownNumber tape text names) (some (.int r_)) (w_M_either G a_this a_height a_changeAt a_changeWas a_changeIs a_tape a_text a_names a_line a_row a_pastMany a_past a_changed a_greatest a_numbersWere a_told a_waysOf a_waysWere a_blocks a_ordersOf a_imageLine a_bodyKind a_trace a_shelf a_many a_items a_carried people keptMany done tapeMany textMany base o_at_ ends o_fault o_opened lineMany rowMany taller tallerBy pasts isKept imageMany bodies ran ownKind ownNumber tape text names) := by
  refine zM.of [(0, .ref a_this)] (own := RX12) rfl (by decide +kernel) (Nat.le_of_ble_eq_true rfl) rfl rfl fun X hX F => ?_
  subst hX
  replace hf := (f_M_either.eq_1 ..).symm.trans hf
  refine z_aload_n F 0 dX12_either_0 rfl rfl ?_
  obtain ⟨r_1, at__2, fault_3, opened_4, hg, hf⟩ := zb4_some hf
  refine z_callVm (rest := []) F 12 (c_M_both (xL X) G a_this a_height a_changeAt a_changeWas a_changeIs a_tape a_text a_names a_line a_row a_pastMany a_past a_changed a_greatest a_numbersWere a_told a_waysOf a_waysWere a_blocks a_ordersOf a_imageLine a_bodyKind a_trace a_shelf a_many a_items a_carried people keptMany done tapeMany textMany base at_ ends fault opened lineMany rowMany taller tallerBy pasts isKept imageMany bodies ran ownKind ownNumber tape text names rec hrec r_1 at__2 fault_3 opened_4 hg) hy_X12_both ml_X12_149 hd_X12_both ⟨by omega, by omega⟩ rfl [0, 1, 2, 3] rfl rfl 0 rfl rfl (w_M_either G a_this a_height a_changeAt a_changeWas a_changeIs a_tape a_text a_names a_line a_row a_pastMany a_past a_changed a_greatest a_numbersWere a_told a_waysOf a_waysWere a_blocks a_ordersOf a_imageLine a_bodyKind a_trace a_shelf a_many a_items a_carried people keptMany done tapeMany textMany base at__2 ends fault_3 opened_4 lineMany rowMany taller tallerBy pasts isKept imageMany bodies ran ownKind ownNumber tape text names) [some 0, some 1, some 2, some 3] rfl (by decide +kernel) rfl rfl (Nat.le_of_ble_eq_true rfl) dX12_either_1 (fun hz_5 => ?_)
  refine z_istore_n F [(1, .int r_1), (0, .ref a_this)] dX12_either_4 rfl (by decide) rfl ?_
  obtain ⟨at__14, fault_15, opened_16, v1_17, hg, hf⟩ := zb4_some hf
  refine z_sub [1, 0] rfl ?_
  refine l_M_either_5 G a_this a_height a_changeAt a_changeWas a_changeIs a_tape a_text a_names a_line a_row a_pastMany a_past a_changed a_greatest a_numbersWere a_told a_waysOf a_waysWere a_blocks a_ordersOf a_imageLine a_bodyKind a_trace a_shelf a_many a_items a_carried people keptMany done tapeMany textMany base ends lineMany rowMany taller tallerBy pasts isKept imageMany bodies ran ownKind ownNumber tape text names rec hrec F at__14 fault_15 opened_16 v1_17 ?_ FU at__2 fault_3 opened_4 r_1 hg
  refine z_iload_n F 0 dX12_either_36 rfl rfl ?_
  have eq1 := Option.some.inj hf
  obtain ⟨ee1, eq2⟩ := Prod.mk.inj eq1
  obtain ⟨ee2, eq3⟩ := Prod.mk.inj eq2
  obtain ⟨ee3, ee4⟩ := Prod.mk.inj eq3
  subst ee1
  subst ee2
  subst ee3
  subst ee4
  exact z_iret F rfl rfl rfl rfl dX12_either_37

abbrev w_M_nameOf (G : zG) : va_W := []
def f_M_nameOf (x0 : Int32) : Int32 := (if x0 = 97 then 0 else (if x0 = 98 then 1 else (if x0 = 103 then 2 else (if x0 = 112 then 3 else (if x0 = 113 then 4 else (-1))))))
set_option maxRecDepth 100000 in
set_option maxHeartbeats 4000000 in
theorem c_M_nameOf (l : Launch) (G : zG) (x0 : Int32) (r_ : Int32) (hf : f_M_nameOf x0 = r_) : zM l yX12_nameOf cX12_nameOf 1 (some .int) 0 0 G [.int x0] (w_M_nameOf G) (some (.int r_)) (w_M_nameOf G) := by
  refine zM.of [(0, .int x0)] (own := RX12) rfl (by decide +kernel) (Nat.le_of_ble_eq_true rfl) rfl rfl fun X hX F => ?_
  subst hX
  replace hf := (f_M_nameOf.eq_1 ..).symm.trans hf
  refine z_iload_n F 0 dX12_nameOf_0 rfl rfl ?_
  by_cases hc_1 : x0 = 97
  · replace hf := zif_t hf hc_1
    refine z_lookup (off := 51) F 52 dX12_nameOf_1 (by decide +kernel) (by rw [hc_1]; decide +kernel) (by decide) ?_
    refine z_iconst F (0) dX12_nameOf_52 rfl ?_
    subst hf
    exact z_iret F rfl rfl rfl rfl dX12_nameOf_53
  · replace hf := zif_f hf hc_1
    by_cases hc_2 : x0 = 98
    · replace hf := zif_t hf hc_2
      refine z_lookup (off := 53) F 54 dX12_nameOf_1 (by decide +kernel) (by rw [hc_2]; decide +kernel) (by decide) ?_
      refine z_iconst F (1) dX12_nameOf_54 rfl ?_
      subst hf
      exact z_iret F rfl rfl rfl rfl dX12_nameOf_55
    · replace hf := zif_f hf hc_2
      by_cases hc_3 : x0 = 103
      · replace hf := zif_t hf hc_3
        refine z_lookup (off := 55) F 56 dX12_nameOf_1 (by decide +kernel) (by rw [hc_3]; decide +kernel) (by decide) ?_
        refine z_iconst F (2) dX12_nameOf_56 rfl ?_
        subst hf
        exact z_iret F rfl rfl rfl rfl dX12_nameOf_57
      · replace hf := zif_f hf hc_3
        by_cases hc_4 : x0 = 112
        · replace hf := zif_t hf hc_4
          refine z_lookup (off := 57) F 58 dX12_nameOf_1 (by decide +kernel) (by rw [hc_4]; decide +kernel) (by decide) ?_
          refine z_iconst F (3) dX12_nameOf_58 rfl ?_
          subst hf
          exact z_iret F rfl rfl rfl rfl dX12_nameOf_59
        · replace hf := zif_f hf hc_4
          by_cases hc_5 : x0 = 113
          · replace hf := zif_t hf hc_5
            refine z_lookup (off := 59) F 60 dX12_nameOf_1 (by decide +kernel) (by rw [hc_5]; decide +kernel) (by decide) ?_
            refine z_iconst F (4) dX12_nameOf_60 rfl ?_
            subst hf
            exact z_iret F rfl rfl rfl rfl dX12_nameOf_61
          · replace hf := zif_f hf hc_5
            refine z_lookup (off := 61) F 62 dX12_nameOf_1 (by decide +kernel) (zlk x0 [(97, 51), (98, 53), (103, 55), (112, 57), (113, 59)] (61) (List.forall_mem_cons.mpr ⟨zne hc_1 (c := 97) (k := 97) rfl, List.forall_mem_cons.mpr ⟨zne hc_2 (c := 98) (k := 98) rfl, List.forall_mem_cons.mpr ⟨zne hc_3 (c := 103) (k := 103) rfl, List.forall_mem_cons.mpr ⟨zne hc_4 (c := 112) (k := 112) rfl, List.forall_mem_cons.mpr ⟨zne hc_5 (c := 113) (k := 113) rfl, fun _ h => absurd h List.not_mem_nil⟩⟩⟩⟩⟩)) (by decide) ?_
            refine z_iconst F (-1) dX12_nameOf_62 rfl ?_
            subst hf
            exact z_iret F rfl rfl rfl rfl dX12_nameOf_63

def f_M_one_L176 (base : Int32) (ends : Int32) (tape : Nat → Int32) (text : Nat → Int32) : Nat → Int32 → Int32 → Int32 → Option (Int32 × Int32 × Int32)
  | 0, _, _, _ => none
  | fuel + 1, at_, v3, v4 => (if (4 : Int32) ≤ v4 then (some (at_, v3, v4)) else (zb1 (f_M_byteAt base at_ ends tape text) fun r_54 => (if r_54 < 48 then (some (at_, v3, v4)) else (zb1 (f_M_byteAt base at_ ends tape text) fun r_56 => (if (57 : Int32) < r_56 then (some (at_, v3, v4)) else (zb1 (f_M_byteAt base at_ ends tape text) fun r_58 => (f_M_one_L176 base ends tape text fuel (at_ + (1 : Int32)) ((((10 : Int32) * v3) + r_58) - (48 : Int32)) (v4 + 1))))))))
def f_M_one : Nat → Int32 → Int32 → Int32 → Int32 → Int32 → (Nat → Int32) → (Nat → Int32) → (Nat → Int32) → Option (Int32 × Int32 × Int32 × Int32)
  | 0, _, _, _, _, _, _, _, _ => none
  | fuel + 1, base, at_, ends, fault, opened, tape, text, names => (if fault < 0 then (zb1 (f_M_byteAt base at_ ends tape text) fun r_1 => (if r_1 = 33 then (if opened = 6 then (zb2 (f_M_wrong at_ fault) fun r_25 fault_26 => (some (r_25, at_, fault_26, opened))) else (if r_1 = 40 then (zb4 (f_M_either (fun y0 y1 y2 y3 y4 y5 y6 y7 => f_M_one fuel y0 y1 y2 y3 y4 y5 y6 y7) base (at_ + (1 : Int32)) ends fault (opened + (1 : Int32)) tape text names) fun r_14 at__15 fault_16 opened_17 => (if r_1 = 40 then (zb2 (f_M_takes base at__15 ends fault_16 tape text 41) fun r_19 at__20 => (if r_19 = 0 then (zb2 (f_M_wrong at__20 fault_16) fun r_22 fault_23 => (some (r_22, at__20, fault_23, opened_17))) else (if r_1 = 40 then (some (r_14, at__20, fault_16, (opened_17 - (1 : Int32)))) else (if r_1 = 45 then (some ((-r_14), at__20, fault_16, (opened_17 - (1 : Int32)))) else (if r_14 = 0 then (some (1, at__20, fault_16, (opened_17 - (1 : Int32)))) else (some (0, at__20, fault_16, (opened_17 - (1 : Int32))))))))) else (if r_1 = 40 then (some (r_14, at__15, fault_16, (opened_17 - (1 : Int32)))) else (if r_1 = 45 then (some ((-r_14), at__15, fault_16, (opened_17 - (1 : Int32)))) else (if r_14 = 0 then (some (1, at__15, fault_16, (opened_17 - (1 : Int32)))) else (some (0, at__15, fault_16, (opened_17 - (1 : Int32))))))))) else (zb4 ((f_M_one fuel) base (at_ + (1 : Int32)) ends fault (opened + (1 : Int32)) tape text names) fun r_3 at__4 fault_5 opened_6 => (if r_1 = 40 then (zb2 (f_M_takes base at__4 ends fault_5 tape text 41) fun r_8 at__9 => (if r_8 = 0 then (zb2 (f_M_wrong at__9 fault_5) fun r_11 fault_12 => (some (r_11, at__9, fault_12, opened_6))) else (if r_1 = 40 then (some (r_3, at__9, fault_5, (opened_6 - (1 : Int32)))) else (if r_1 = 45 then (some ((-r_3), at__9, fault_5, (opened_6 - (1 : Int32)))) else (if r_3 = 0 then (some (1, at__9, fault_5, (opened_6 - (1 : Int32)))) else (some (0, at__9, fault_5, (opened_6 - (1 : Int32))))))))) else (if r_1 = 40 then (some (r_3, at__4, fault_5, (opened_6 - (1 : Int32)))) else (if r_1 = 45 then (some ((-r_3), at__4, fault_5, (opened_6 - (1 : Int32)))) else (if r_3 = 0 then (some (1, at__4, fault_5, (opened_6 - (1 : Int32)))) else (some (0, at__4, fault_5, (opened_6 - (1 : Int32))))))))))) else (if r_1 = 45 then (if opened = 6 then (zb2 (f_M_wrong at_ fault) fun r_50 fault_51 => (some (r_50, at_, fault_51, opened))) else (if r_1 = 40 then (zb4 (f_M_either (fun y0 y1 y2 y3 y4 y5 y6 y7 => f_M_one fuel y0 y1 y2 y3 y4 y5 y6 y7) base (at_ + (1 : Int32)) ends fault (opened + (1 : Int32)) tape text names) fun r_39 at__40 fault_41 opened_42 => (if r_1 = 40 then (zb2 (f_M_takes base at__40 ends fault_41 tape text 41) fun r_44 at__45 => (if r_44 = 0 then (zb2 (f_M_wrong at__45 fault_41) fun r_47 fault_48 => (some (r_47, at__45, fault_48, opened_42))) else (if r_1 = 40 then (some (r_39, at__45, fault_41, (opened_42 - (1 : Int32)))) else (if r_1 = 45 then (some ((-r_39), at__45, fault_41, (opened_42 - (1 : Int32)))) else (if r_39 = 0 then (some (1, at__45, fault_41, (opened_42 - (1 : Int32)))) else (some (0, at__45, fault_41, (opened_42 - (1 : Int32))))))))) else (if r_1 = 40 then (some (r_39, at__40, fault_41, (opened_42 - (1 : Int32)))) else (if r_1 = 45 then (some ((-r_39), at__40, fault_41, (opened_42 - (1 : Int32)))) else (if r_39 = 0 then (some (1, at__40, fault_41, (opened_42 - (1 : Int32)))) else (some (0, at__40, fault_41, (opened_42 - (1 : Int32))))))))) else (zb4 ((f_M_one fuel) base (at_ + (1 : Int32)) ends fault (opened + (1 : Int32)) tape text names) fun r_28 at__29 fault_30 opened_31 => (if r_1 = 40 then (zb2 (f_M_takes base at__29 ends fault_30 tape text 41) fun r_33 at__34 => (if r_33 = 0 then (zb2 (f_M_wrong at__34 fault_30) fun r_36 fault_37 => (some (r_36, at__34, fault_37, opened_31))) else (if r_1 = 40 then (some (r_28, at__34, fault_30, (opened_31 - (1 : Int32)))) else (if r_1 = 45 then (some ((-r_28), at__34, fault_30, (opened_31 - (1 : Int32)))) else (if r_28 = 0 then (some (1, at__34, fault_30, (opened_31 - (1 : Int32)))) else (some (0, at__34, fault_30, (opened_31 - (1 : Int32))))))))) else (if r_1 = 40 then (some (r_28, at__29, fault_30, (opened_31 - (1 : Int32)))) else (if r_1 = 45 then (some ((-r_28), at__29, fault_30, (opened_31 - (1 : Int32)))) else (if r_28 = 0 then (some (1, at__29, fault_30, (opened_31 - (1 : Int32)))) else (some (0, at__29, fault_30, (opened_31 - (1 : Int32))))))))))) else (if r_1 = 40 then (if opened = 6 then (zb2 (f_M_wrong at_ fault) fun r_89 fault_90 => (some (r_89, at_, fault_90, opened))) else (if r_1 = 40 then (zb4 (f_M_either (fun y0 y1 y2 y3 y4 y5 y6 y7 => f_M_one fuel y0 y1 y2 y3 y4 y5 y6 y7) base (at_ + (1 : Int32)) ends fault (opened + (1 : Int32)) tape text names) fun r_78 at__79 fault_80 opened_81 => (if r_1 = 40 then (zb2 (f_M_takes base at__79 ends fault_80 tape text 41) fun r_83 at__84 => (if r_83 = 0 then (zb2 (f_M_wrong at__84 fault_80) fun r_86 fault_87 => (some (r_86, at__84, fault_87, opened_81))) else (if r_1 = 40 then (some (r_78, at__84, fault_80, (opened_81 - (1 : Int32)))) else (if r_1 = 45 then (some ((-r_78), at__84, fault_80, (opened_81 - (1 : Int32)))) else (if r_78 = 0 then (some (1, at__84, fault_80, (opened_81 - (1 : Int32)))) else (some (0, at__84, fault_80, (opened_81 - (1 : Int32))))))))) else (if r_1 = 40 then (some (r_78, at__79, fault_80, (opened_81 - (1 : Int32)))) else (if r_1 = 45 then (some ((-r_78), at__79, fault_80, (opened_81 - (1 : Int32)))) else (if r_78 = 0 then (some (1, at__79, fault_80, (opened_81 - (1 : Int32)))) else (some (0, at__79, fault_80, (opened_81 - (1 : Int32))))))))) else (zb4 ((f_M_one fuel) base (at_ + (1 : Int32)) ends fault (opened + (1 : Int32)) tape text names) fun r_67 at__68 fault_69 opened_70 => (if r_1 = 40 then (zb2 (f_M_takes base at__68 ends fault_69 tape text 41) fun r_72 at__73 => (if r_72 = 0 then (zb2 (f_M_wrong at__73 fault_69) fun r_75 fault_76 => (some (r_75, at__73, fault_76, opened_70))) else (if r_1 = 40 then (some (r_67, at__73, fault_69, (opened_70 - (1 : Int32)))) else (if r_1 = 45 then (some ((-r_67), at__73, fault_69, (opened_70 - (1 : Int32)))) else (if r_67 = 0 then (some (1, at__73, fault_69, (opened_70 - (1 : Int32)))) else (some (0, at__73, fault_69, (opened_70 - (1 : Int32))))))))) else (if r_1 = 40 then (some (r_67, at__68, fault_69, (opened_70 - (1 : Int32)))) else (if r_1 = 45 then (some ((-r_67), at__68, fault_69, (opened_70 - (1 : Int32)))) else (if r_67 = 0 then (some (1, at__68, fault_69, (opened_70 - (1 : Int32)))) else (some (0, at__68, fault_69, (opened_70 - (1 : Int32))))))))))) else (if (f_M_nameOf r_1) < 0 then (zb3 (f_M_one_L176 base ends tape text FU at_ 0 0) fun at__60 v3_61 v4_62 => (if v4_62 = 0 then (zb2 (f_M_wrong at__60 fault) fun r_63 fault_64 => (some (r_63, at__60, fault_64, opened))) else (some (v3_61, at__60, fault, opened)))) else (zg names 5 (f_M_nameOf r_1) fun v_66 => (some (v_66, (at_ + (1 : Int32)), fault, opened)))))))) else (some (0, at_, fault, opened)))
set_option maxRecDepth 100000 in
set_option maxHeartbeats 4000000 in
theorem l_M_one_176 {X : zX} (G : zG) (a_this : Nat) (a_height : Nat) (a_changeAt : Nat) (a_changeWas : Nat) (a_changeIs : Nat) (a_tape : Nat) (a_text : Nat) (a_names : Nat) (a_line : Nat) (a_row : Nat) (a_pastMany : Nat) (a_past : Nat) (a_changed : Nat) (a_greatest : Nat) (a_numbersWere : Nat) (a_told : Nat) (a_waysOf : Nat) (a_waysWere : Nat) (a_blocks : Nat) (a_ordersOf : Nat) (a_imageLine : Nat) (a_bodyKind : Nat) (a_trace : Nat) (a_shelf : Nat) (a_many : Nat) (a_items : Nat) (a_carried : Nat) (people : Int32) (keptMany : Int32) (done : Int32) (tapeMany : Int32) (textMany : Int32) (base : Int32) (ends : Int32) (fault : Int32) (opened : Int32) (lineMany : Int32) (rowMany : Int32) (taller : Int32) (tallerBy : Int32) (pasts : Int32) (isKept : Int32) (imageMany : Int32) (bodies : Int32) (ran : Int32) (ownKind : Int32) (ownNumber : Int32) (tape : Nat → Int32) (text : Nat → Int32) (names : Nat → Int32) {fr lo : Nat} (hfr2 : 2 ≤ fr) (hlo2 : 41 ≤ lo) {v0 : Option Value} {w0 : va_W} (F : zF X G cX12_one RX12 5 (some .int) fr lo v0 w0) (e_at_ : Int32) (e_v3 : Int32) (e_v4 : Int32) (hk : Z X G 5 (w_M_one G a_this a_height a_changeAt a_changeWas a_changeIs a_tape a_text a_names a_line a_row a_pastMany a_past a_changed a_greatest a_numbersWere a_told a_waysOf a_waysWere a_blocks a_ordersOf a_imageLine a_bodyKind a_trace a_shelf a_many a_items a_carried people keptMany done tapeMany textMany base e_at_ ends fault opened lineMany rowMany taller tallerBy pasts isKept imageMany bodies ran ownKind ownNumber tape text names) [(0, .ref a_this), (3, .int e_v3), (4, .int e_v4)] 229 []) :
    ∀ (fuel : Nat) (at_ : Int32) (v3 : Int32) (v4 : Int32), f_M_one_L176 base ends tape text fuel at_ v3 v4 = some (e_at_, e_v3, e_v4) → Z X G 5 (w_M_one G a_this a_height a_changeAt a_changeWas a_changeIs a_tape a_text a_names a_line a_row a_pastMany a_past a_changed a_greatest a_numbersWere a_told a_waysOf a_waysWere a_blocks a_ordersOf a_imageLine a_bodyKind a_trace a_shelf a_many a_items a_carried people keptMany done tapeMany textMany base at_ ends fault opened lineMany rowMany taller tallerBy pasts isKept imageMany bodies ran ownKind ownNumber tape text names) [(0, .ref a_this), (3, .int v3), (4, .int v4)] 176 [] := by
  intro fuel
  induction fuel with
  | zero => intro at_ v3 v4 hf; exact absurd ((f_M_one_L176.eq_1 ..).symm.trans hf) (fun h => by cases h)
  | succ fuel ih =>
    intro at_ v3 v4 hf
    replace hf := (f_M_one_L176.eq_2 ..).symm.trans hf
    refine z_iload F 2 dX12_one_176 rfl ?_
    refine z_iconst F (4) dX12_one_178 rfl ?_
    refine z_icmp_ge F 229 dX12_one_179 (by decide) hf (fun hf _ => ?_) (fun hf _ => ?_)
    · have eq1 := Option.some.inj hf
      obtain ⟨ee1, eq2⟩ := Prod.mk.inj eq1
      obtain ⟨ee2, ee3⟩ := Prod.mk.inj eq2
      subst ee1
      subst ee2
      subst ee3
      exact z_sub [0, 1, 2] rfl hk
    · refine z_aload_n F 0 dX12_one_182 rfl rfl ?_
      obtain ⟨r_54, hg, hf⟩ := zb1_some hf
      refine z_callVm (rest := []) F 12 (c_M_byteAt (xL X) G a_this a_height a_changeAt a_changeWas a_changeIs a_tape a_text a_names a_line a_row a_pastMany a_past a_changed a_greatest a_numbersWere a_told a_waysOf a_waysWere a_blocks a_ordersOf a_imageLine a_bodyKind a_trace a_shelf a_many a_items a_carried people keptMany done tapeMany textMany base at_ ends fault opened lineMany rowMany taller tallerBy pasts isKept imageMany bodies ran ownKind ownNumber tape text r_54 hg) hy_X12_byteAt ml_X12_145 hd_X12_byteAt ⟨by omega, by omega⟩ rfl [0, 1, 2] rfl rfl 0 rfl rfl (w_M_one G a_this a_height a_changeAt a_changeWas a_changeIs a_tape a_text a_names a_line a_row a_pastMany a_past a_changed a_greatest a_numbersWere a_told a_waysOf a_waysWere a_blocks a_ordersOf a_imageLine a_bodyKind a_trace a_shelf a_many a_items a_carried people keptMany done tapeMany textMany base at_ ends fault opened lineMany rowMany taller tallerBy pasts isKept imageMany bodies ran ownKind ownNumber tape text names) [some 0, some 1, some 2, none] rfl (by decide +kernel) rfl rfl (Nat.le_of_ble_eq_true rfl) dX12_one_183 (fun hz_55 => ?_)
      refine z_bipush F (48) dX12_one_186 rfl ?_
      refine z_icmp_lt F 229 dX12_one_188 (by decide) hf (fun hf _ => ?_) (fun hf _ => ?_)
      · have eq1 := Option.some.inj hf
        obtain ⟨ee1, eq2⟩ := Prod.mk.inj eq1
        obtain ⟨ee2, ee3⟩ := Prod.mk.inj eq2
        subst ee1
        subst ee2
        subst ee3
        exact z_sub [0, 1, 2] rfl hk
      · refine z_aload_n F 0 dX12_one_191 rfl rfl ?_
        obtain ⟨r_56, hg, hf⟩ := zb1_some hf
        refine z_callVm (rest := []) F 12 (c_M_byteAt (xL X) G a_this a_height a_changeAt a_changeWas a_changeIs a_tape a_text a_names a_line a_row a_pastMany a_past a_changed a_greatest a_numbersWere a_told a_waysOf a_waysWere a_blocks a_ordersOf a_imageLine a_bodyKind a_trace a_shelf a_many a_items a_carried people keptMany done tapeMany textMany base at_ ends fault opened lineMany rowMany taller tallerBy pasts isKept imageMany bodies ran ownKind ownNumber tape text r_56 hg) hy_X12_byteAt ml_X12_145 hd_X12_byteAt ⟨by omega, by omega⟩ rfl [0, 1, 2] rfl rfl 0 rfl rfl (w_M_one G a_this a_height a_changeAt a_changeWas a_changeIs a_tape a_text a_names a_line a_row a_pastMany a_past a_changed a_greatest a_numbersWere a_told a_waysOf a_waysWere a_blocks a_ordersOf a_imageLine a_bodyKind a_trace a_shelf a_many a_items a_carried people keptMany done tapeMany textMany base at_ ends fault opened lineMany rowMany taller tallerBy pasts isKept imageMany bodies ran ownKind ownNumber tape text names) [some 0, some 1, some 2, none] rfl (by decide +kernel) rfl rfl (Nat.le_of_ble_eq_true rfl) dX12_one_192 (fun hz_57 => ?_)
        refine z_bipush F (57) dX12_one_195 rfl ?_
        refine z_icmp_gt F 229 dX12_one_197 (by decide) hf (fun hf _ => ?_) (fun hf _ => ?_)
        · have eq1 := Option.some.inj hf
          obtain ⟨ee1, eq2⟩ := Prod.mk.inj eq1
          obtain ⟨ee2, ee3⟩ := Prod.mk.inj eq2
          subst ee1
          subst ee2
          subst ee3
          exact z_sub [0, 1, 2] rfl hk
        · refine z_bipush F (10) dX12_one_200 rfl ?_
          refine z_iload_n F 1 dX12_one_202 rfl rfl ?_
          refine z_imul F dX12_one_203 ?_
          refine z_aload_n F 0 dX12_one_204 rfl rfl ?_
          obtain ⟨r_58, hg, hf⟩ := zb1_some hf
          refine z_callVm (rest := [.int ((10 : Int32) * v3)]) F 12 (c_M_byteAt (xL X) G a_this a_height a_changeAt a_changeWas a_changeIs a_tape a_text a_names a_line a_row a_pastMany a_past a_changed a_greatest a_numbersWere a_told a_waysOf a_waysWere a_blocks a_ordersOf a_imageLine a_bodyKind a_trace a_shelf a_many a_items a_carried people keptMany done tapeMany textMany base at_ ends fault opened lineMany rowMany taller tallerBy pasts isKept imageMany bodies ran ownKind ownNumber tape text r_58 hg) hy_X12_byteAt ml_X12_145 hd_X12_byteAt ⟨by omega, by omega⟩ rfl [0, 1, 2] rfl rfl 0 rfl rfl (w_M_one G a_this a_height a_changeAt a_changeWas a_changeIs a_tape a_text a_names a_line a_row a_pastMany a_past a_changed a_greatest a_numbersWere a_told a_waysOf a_waysWere a_blocks a_ordersOf a_imageLine a_bodyKind a_trace a_shelf a_many a_items a_carried people keptMany done tapeMany textMany base at_ ends fault opened lineMany rowMany taller tallerBy pasts isKept imageMany bodies ran ownKind ownNumber tape text names) [some 0, some 1, some 2, none] rfl (by decide +kernel) rfl rfl (Nat.le_of_ble_eq_true rfl) dX12_one_205 (fun hz_59 => ?_)
          refine z_iadd F dX12_one_208 ?_
          refine z_bipush F (48) dX12_one_209 rfl ?_
          refine z_isub F dX12_one_211 ?_
          refine z_istore_n F [(3, .int ((((10 : Int32) * v3) + r_58) - (48 : Int32))), (0, .ref a_this), (4, .int v4)] dX12_one_212 rfl (by decide) rfl ?_
          refine z_iinc F [(4, .int (v4 + 1)), (3, .int ((((10 : Int32) * v3) + r_58) - (48 : Int32))), (0, .ref a_this)] dX12_one_213 2 rfl rfl (by decide) rfl ?_
          refine z_aload_n F 2 dX12_one_216 rfl rfl ?_
          refine z_dup F rfl dX12_one_217 ?_
          refine z_get F 0 12 12 inlX12 rfl rfl (by decide) fl_X12_133 rfl dX12_one_218 ?_
          refine z_iconst F (1) dX12_one_221 rfl ?_
          refine z_iadd F dX12_one_222 ?_
          refine z_put F 0 12 12 (w_M_one G a_this a_height a_changeAt a_changeWas a_changeIs a_tape a_text a_names a_line a_row a_pastMany a_past a_changed a_greatest a_numbersWere a_told a_waysOf a_waysWere a_blocks a_ordersOf a_imageLine a_bodyKind a_trace a_shelf a_many a_items a_carried people keptMany done tapeMany textMany base (at_ + (1 : Int32)) ends fault opened lineMany rowMany taller tallerBy pasts isKept imageMany bodies ran ownKind ownNumber tape text names) inlX12 tyX12 tyX12_ok nmX12 rfl rfl (by decide) fl_X12_133 rfl rfl rfl (Nat.le_of_ble_eq_true rfl) rfl dX12_one_223 ?_
          refine z_goto F 176 dX12_one_226 (by decide) ?_
          exact z_sub [2, 1, 0] rfl (ih (at_ + (1 : Int32)) ((((10 : Int32) * v3) + r_58) - (48 : Int32)) (v4 + 1) hf)

set_option maxRecDepth 100000 in
set_option maxHeartbeats 4000000 in
theorem kn_M_one (l : Launch) (G : zG) (a_this : Nat) (a_height : Nat) (a_changeAt : Nat) (a_changeWas : Nat) (a_changeIs : Nat) (a_tape : Nat) (a_text : Nat) (a_names : Nat) (a_line : Nat) (a_row : Nat) (a_pastMany : Nat) (a_past : Nat) (a_changed : Nat) (a_greatest : Nat) (a_numbersWere : Nat) (a_told : Nat) (a_waysOf : Nat) (a_waysWere : Nat) (a_blocks : Nat) (a_ordersOf : Nat) (a_imageLine : Nat) (a_bodyKind : Nat) (a_trace : Nat) (a_shelf : Nat) (a_many : Nat) (a_items : Nat) (a_carried : Nat) : ∀ fuel : Nat, K_M_one l G a_this a_height a_changeAt a_changeWas a_changeIs a_tape a_text a_names a_line a_row a_pastMany a_past a_changed a_greatest a_numbersWere a_told a_waysOf a_waysWere a_blocks a_ordersOf a_imageLine a_bodyKind a_trace a_shelf a_many a_items a_carried (fuel * 7 + 3) (fuel * 161 + 101) (f_M_one fuel) := by
  intro fuel
  induction fuel with
  | zero => intro people keptMany done tapeMany textMany base at_ ends fault opened lineMany rowMany taller tallerBy pasts isKept imageMany bodies ran ownKind ownNumber tape text names r_ o_at_ o_fault o_opened hf; exact absurd ((f_M_one.eq_1 ..).symm.trans hf) (fun h => by cases h)
  | succ fuel ih =>
    intro people keptMany done tapeMany textMany base at_ ends fault opened lineMany rowMany taller tallerBy pasts isKept imageMany bodies ran ownKind ownNumber tape text names r_ o_at_ o_fault o_opened hf
    refine zM.of [(0, .ref a_this)] (own := RX12) rfl (by decide +kernel) (Nat.le_of_ble_eq_true rfl) rfl rfl fun X hX F => ?_
    subst hX
    have hrec := ih
    replace hf := (f_M_one.eq_2 ..).symm.trans hf
    refine z_aload_n F 0 dX12_one_0 rfl rfl ?_
    refine z_get F 0 12 14 inlX12 rfl rfl (by decide) fl_X12_142 rfl dX12_one_1 ?_
    refine z_if_lt F 9 dX12_one_4 (by decide) hf (fun hf _ => ?_) (fun hf _ => ?_)
    · refine z_aload_n F 0 dX12_one_9 rfl rfl ?_
      obtain ⟨r_1, hg, hf⟩ := zb1_some hf
      refine z_callVm (rest := []) F 12 (c_M_byteAt (xL X) G a_this a_height a_changeAt a_changeWas a_changeIs a_tape a_text a_names a_line a_row a_pastMany a_past a_changed a_greatest a_numbersWere a_told a_waysOf a_waysWere a_blocks a_ordersOf a_imageLine a_bodyKind a_trace a_shelf a_many a_items a_carried people keptMany done tapeMany textMany base at_ ends fault opened lineMany rowMany taller tallerBy pasts isKept imageMany bodies ran ownKind ownNumber tape text r_1 hg) hy_X12_byteAt ml_X12_145 hd_X12_byteAt ⟨by omega, by omega⟩ rfl [0, 1, 2] rfl rfl 0 rfl rfl (w_M_one G a_this a_height a_changeAt a_changeWas a_changeIs a_tape a_text a_names a_line a_row a_pastMany a_past a_changed a_greatest a_numbersWere a_told a_waysOf a_waysWere a_blocks a_ordersOf a_imageLine a_bodyKind a_trace a_shelf a_many a_items a_carried people keptMany done tapeMany textMany base at_ ends fault opened lineMany rowMany taller tallerBy pasts isKept imageMany bodies ran ownKind ownNumber tape text names) [some 0, some 1, some 2, none] rfl (by decide +kernel) rfl rfl (Nat.le_of_ble_eq_true rfl) dX12_one_10 (fun hz_2 => ?_)
      refine z_istore_n F [(1, .int r_1), (0, .ref a_this)] dX12_one_13 rfl (by decide) rfl ?_
      refine z_iload_n F 0 dX12_one_14 rfl rfl ?_
      refine z_bipush F (33) dX12_one_15 rfl ?_
      refine z_icmp_eq F 32 dX12_one_17 (by decide) hf (fun hf _ => ?_) (fun hf _ => ?_)
      · refine z_aload_n F 1 dX12_one_32 rfl rfl ?_
        refine z_get F 0 12 15 inlX12 rfl rfl (by decide) fl_X12_167 rfl dX12_one_33 ?_
        refine z_bipush F (6) dX12_one_36 rfl ?_
        refine z_icmp_ne F 46 dX12_one_38 (by decide) hf (fun hf _ => ?_) (fun hf _ => ?_)
        · refine z_aload_n F 1 dX12_one_46 rfl rfl ?_
          refine z_dup F rfl dX12_one_47 ?_
          refine z_get F 0 12 15 inlX12 rfl rfl (by decide) fl_X12_167 rfl dX12_one_48 ?_
          refine z_iconst F (1) dX12_one_51 rfl ?_
          refine z_iadd F dX12_one_52 ?_
          refine z_put F 0 12 15 (w_M_one G a_this a_height a_changeAt a_changeWas a_changeIs a_tape a_text a_names a_line a_row a_pastMany a_past a_changed a_greatest a_numbersWere a_told a_waysOf a_waysWere a_blocks a_ordersOf a_imageLine a_bodyKind a_trace a_shelf a_many a_items a_carried people keptMany done tapeMany textMany base at_ ends fault (opened + (1 : Int32)) lineMany rowMany taller tallerBy pasts isKept imageMany bodies ran ownKind ownNumber tape text names) inlX12 tyX12 tyX12_ok nmX12 rfl rfl (by decide) fl_X12_167 rfl rfl rfl (Nat.le_of_ble_eq_true rfl) rfl dX12_one_53 ?_
          refine z_aload_n F 1 dX12_one_56 rfl rfl ?_
          refine z_dup F rfl dX12_one_57 ?_
          refine z_get F 0 12 12 inlX12 rfl rfl (by decide) fl_X12_133 rfl dX12_one_58 ?_
          refine z_iconst F (1) dX12_one_61 rfl ?_
          refine z_iadd F dX12_one_62 ?_
          refine z_put F 0 12 12 (w_M_one G a_this a_height a_changeAt a_changeWas a_changeIs a_tape a_text a_names a_line a_row a_pastMany a_past a_changed a_greatest a_numbersWere a_told a_waysOf a_waysWere a_blocks a_ordersOf a_imageLine a_bodyKind a_trace a_shelf a_many a_items a_carried people keptMany done tapeMany textMany base (at_ + (1 : Int32)) ends fault (opened + (1 : Int32)) lineMany rowMany taller tallerBy pasts isKept imageMany bodies ran ownKind ownNumber tape text names) inlX12 tyX12 tyX12_ok nmX12 rfl rfl (by decide) fl_X12_133 rfl rfl rfl (Nat.le_of_ble_eq_true rfl) rfl dX12_one_63 ?_
          refine z_iload_n F 0 dX12_one_66 rfl rfl ?_
          refine z_bipush F (40) dX12_one_67 rfl ?_
          refine z_icmp_ne F 79 dX12_one_69 (by decide) hf (fun hf _ => ?_) (fun hf _ => ?_)
          · refine z_aload_n F 1 dX12_one_79 rfl rfl ?_
            obtain ⟨r_3, at__4, fault_5, opened_6, hg, hf⟩ := zb4_some hf
            refine z_callVm (rest := []) F 12 (hrec people keptMany done tapeMany textMany base (at_ + (1 : Int32)) ends fault (opened + (1 : Int32)) lineMany rowMany taller tallerBy pasts isKept imageMany bodies ran ownKind ownNumber tape text names r_3 at__4 fault_5 opened_6 hg) hy_X12_one ml_X12_164 hd_X12_one ⟨by omega, by omega⟩ rfl [0, 1, 2, 3] rfl rfl 0 rfl rfl (w_M_one G a_this a_height a_changeAt a_changeWas a_changeIs a_tape a_text a_names a_line a_row a_pastMany a_past a_changed a_greatest a_numbersWere a_told a_waysOf a_waysWere a_blocks a_ordersOf a_imageLine a_bodyKind a_trace a_shelf a_many a_items a_carried people keptMany done tapeMany textMany base at__4 ends fault_5 opened_6 lineMany rowMany taller tallerBy pasts isKept imageMany bodies ran ownKind ownNumber tape text names) [some 0, some 1, some 2, some 3] rfl (by decide +kernel) rfl rfl (Nat.le_of_ble_eq_true rfl) dX12_one_80 (fun hz_7 => ?_)
            refine z_istore_n F [(2, .int r_3), (1, .int r_1), (0, .ref a_this)] dX12_one_83 rfl (by decide) rfl ?_
            refine z_iload_n F 1 dX12_one_84 rfl rfl ?_
            refine z_bipush F (40) dX12_one_85 rfl ?_
            refine z_icmp_ne F 104 dX12_one_87 (by decide) hf (fun hf _ => ?_) (fun hf _ => ?_)
            · refine z_aload_n F 2 dX12_one_104 rfl rfl ?_
              refine z_dup F rfl dX12_one_105 ?_
              refine z_get F 0 12 15 inlX12 rfl rfl (by decide) fl_X12_167 rfl dX12_one_106 ?_
              refine z_iconst F (1) dX12_one_109 rfl ?_
              refine z_isub F dX12_one_110 ?_
              refine z_put F 0 12 15 (w_M_one G a_this a_height a_changeAt a_changeWas a_changeIs a_tape a_text a_names a_line a_row a_pastMany a_past a_changed a_greatest a_numbersWere a_told a_waysOf a_waysWere a_blocks a_ordersOf a_imageLine a_bodyKind a_trace a_shelf a_many a_items a_carried people keptMany done tapeMany textMany base at__4 ends fault_5 (opened_6 - (1 : Int32)) lineMany rowMany taller tallerBy pasts isKept imageMany bodies ran ownKind ownNumber tape text names) inlX12 tyX12 tyX12_ok nmX12 rfl rfl (by decide) fl_X12_167 rfl rfl rfl (Nat.le_of_ble_eq_true rfl) rfl dX12_one_111 ?_
              refine z_iload_n F 1 dX12_one_114 rfl rfl ?_
              refine z_bipush F (40) dX12_one_115 rfl ?_
              refine z_icmp_ne F 124 dX12_one_117 (by decide) hf (fun hf _ => ?_) (fun hf _ => ?_)
              · refine z_iload_n F 1 dX12_one_124 rfl rfl ?_
                refine z_bipush F (45) dX12_one_125 rfl ?_
                refine z_icmp_ne F 135 dX12_one_127 (by decide) hf (fun hf _ => ?_) (fun hf _ => ?_)
                · refine z_iload_n F 0 dX12_one_135 rfl rfl ?_
                  refine z_if_ne F 143 dX12_one_136 (by decide) hf (fun hf _ => ?_) (fun hf _ => ?_)
                  · refine z_iconst F (0) dX12_one_143 rfl ?_
                    have eq1 := Option.some.inj hf
                    obtain ⟨ee1, eq2⟩ := Prod.mk.inj eq1
                    obtain ⟨ee2, eq3⟩ := Prod.mk.inj eq2
                    obtain ⟨ee3, ee4⟩ := Prod.mk.inj eq3
                    subst ee1
                    subst ee2
                    subst ee3
                    subst ee4
                    exact z_iret F rfl rfl rfl rfl dX12_one_144
                  · refine z_iconst F (1) dX12_one_139 rfl ?_
                    refine z_goto F 144 dX12_one_140 (by decide) ?_
                    have eq1 := Option.some.inj hf
                    obtain ⟨ee1, eq2⟩ := Prod.mk.inj eq1
                    obtain ⟨ee2, eq3⟩ := Prod.mk.inj eq2
                    obtain ⟨ee3, ee4⟩ := Prod.mk.inj eq3
                    subst ee1
                    subst ee2
                    subst ee3
                    subst ee4
                    exact z_iret F rfl rfl rfl rfl dX12_one_144
                · refine z_iload_n F 0 dX12_one_130 rfl rfl ?_
                  refine z_ineg F dX12_one_131 ?_
                  refine z_goto F 144 dX12_one_132 (by decide) ?_
                  have eq1 := Option.some.inj hf
                  obtain ⟨ee1, eq2⟩ := Prod.mk.inj eq1
                  obtain ⟨ee2, eq3⟩ := Prod.mk.inj eq2
                  obtain ⟨ee3, ee4⟩ := Prod.mk.inj eq3
                  subst ee1
                  subst ee2
                  subst ee3
                  subst ee4
                  exact z_iret F rfl rfl rfl rfl dX12_one_144
              · refine z_iload_n F 0 dX12_one_120 rfl rfl ?_
                refine z_goto F 144 dX12_one_121 (by decide) ?_
                have eq1 := Option.some.inj hf
                obtain ⟨ee1, eq2⟩ := Prod.mk.inj eq1
                obtain ⟨ee2, eq3⟩ := Prod.mk.inj eq2
                obtain ⟨ee3, ee4⟩ := Prod.mk.inj eq3
                subst ee1
                subst ee2
                subst ee3
                subst ee4
                exact z_iret F rfl rfl rfl rfl dX12_one_144
            · refine z_aload_n F 2 dX12_one_90 rfl rfl ?_
              refine z_bipush F (41) dX12_one_91 rfl ?_
              obtain ⟨r_8, at__9, hg, hf⟩ := zb2_some hf
              refine z_callVm (rest := []) F 12 (c_M_takes (xL X) G a_this a_height a_changeAt a_changeWas a_changeIs a_tape a_text a_names a_line a_row a_pastMany a_past a_changed a_greatest a_numbersWere a_told a_waysOf a_waysWere a_blocks a_ordersOf a_imageLine a_bodyKind a_trace a_shelf a_many a_items a_carried people keptMany done tapeMany textMany base at__4 ends fault_5 opened_6 lineMany rowMany taller tallerBy pasts isKept imageMany bodies ran ownKind ownNumber tape text 41 r_8 at__9 hg) hy_X12_takes ml_X12_152 hd_X12_takes ⟨by omega, by omega⟩ rfl [0, 1, 2] rfl rfl 0 rfl rfl (w_M_one G a_this a_height a_changeAt a_changeWas a_changeIs a_tape a_text a_names a_line a_row a_pastMany a_past a_changed a_greatest a_numbersWere a_told a_waysOf a_waysWere a_blocks a_ordersOf a_imageLine a_bodyKind a_trace a_shelf a_many a_items a_carried people keptMany done tapeMany textMany base at__9 ends fault_5 opened_6 lineMany rowMany taller tallerBy pasts isKept imageMany bodies ran ownKind ownNumber tape text names) [some 0, some 1, some 2, none] rfl (by decide +kernel) rfl rfl (Nat.le_of_ble_eq_true rfl) dX12_one_93 (fun hz_10 => ?_)
              refine z_if_ne F 104 dX12_one_96 (by decide) hf (fun hf _ => ?_) (fun hf _ => ?_)
              · refine z_aload_n F 2 dX12_one_104 rfl rfl ?_
                refine z_dup F rfl dX12_one_105 ?_
                refine z_get F 0 12 15 inlX12 rfl rfl (by decide) fl_X12_167 rfl dX12_one_106 ?_
                refine z_iconst F (1) dX12_one_109 rfl ?_
                refine z_isub F dX12_one_110 ?_
                refine z_put F 0 12 15 (w_M_one G a_this a_height a_changeAt a_changeWas a_changeIs a_tape a_text a_names a_line a_row a_pastMany a_past a_changed a_greatest a_numbersWere a_told a_waysOf a_waysWere a_blocks a_ordersOf a_imageLine a_bodyKind a_trace a_shelf a_many a_items a_carried people keptMany done tapeMany textMany base at__9 ends fault_5 (opened_6 - (1 : Int32)) lineMany rowMany taller tallerBy pasts isKept imageMany bodies ran ownKind ownNumber tape text names) inlX12 tyX12 tyX12_ok nmX12 rfl rfl (by decide) fl_X12_167 rfl rfl rfl (Nat.le_of_ble_eq_true rfl) rfl dX12_one_111 ?_
                refine z_iload_n F 1 dX12_one_114 rfl rfl ?_
                refine z_bipush F (40) dX12_one_115 rfl ?_
                refine z_icmp_ne F 124 dX12_one_117 (by decide) hf (fun hf _ => ?_) (fun hf _ => ?_)
                · refine z_iload_n F 1 dX12_one_124 rfl rfl ?_
                  refine z_bipush F (45) dX12_one_125 rfl ?_
                  refine z_icmp_ne F 135 dX12_one_127 (by decide) hf (fun hf _ => ?_) (fun hf _ => ?_)
                  · refine z_iload_n F 0 dX12_one_135 rfl rfl ?_
                    refine z_if_ne F 143 dX12_one_136 (by decide) hf (fun hf _ => ?_) (fun hf _ => ?_)
                    · refine z_iconst F (0) dX12_one_143 rfl ?_
                      have eq1 := Option.some.inj hf
                      obtain ⟨ee1, eq2⟩ := Prod.mk.inj eq1
                      obtain ⟨ee2, eq3⟩ := Prod.mk.inj eq2
                      obtain ⟨ee3, ee4⟩ := Prod.mk.inj eq3
                      subst ee1
                      subst ee2
                      subst ee3
                      subst ee4
                      exact z_iret F rfl rfl rfl rfl dX12_one_144
                    · refine z_iconst F (1) dX12_one_139 rfl ?_
                      refine z_goto F 144 dX12_one_140 (by decide) ?_
                      have eq1 := Option.some.inj hf
                      obtain ⟨ee1, eq2⟩ := Prod.mk.inj eq1
                      obtain ⟨ee2, eq3⟩ := Prod.mk.inj eq2
                      obtain ⟨ee3, ee4⟩ := Prod.mk.inj eq3
                      subst ee1
                      subst ee2
                      subst ee3
                      subst ee4
                      exact z_iret F rfl rfl rfl rfl dX12_one_144
                  · refine z_iload_n F 0 dX12_one_130 rfl rfl ?_
                    refine z_ineg F dX12_one_131 ?_
                    refine z_goto F 144 dX12_one_132 (by decide) ?_
                    have eq1 := Option.some.inj hf
                    obtain ⟨ee1, eq2⟩ := Prod.mk.inj eq1
                    obtain ⟨ee2, eq3⟩ := Prod.mk.inj eq2
                    obtain ⟨ee3, ee4⟩ := Prod.mk.inj eq3
                    subst ee1
                    subst ee2
                    subst ee3
                    subst ee4
                    exact z_iret F rfl rfl rfl rfl dX12_one_144
                · refine z_iload_n F 0 dX12_one_120 rfl rfl ?_
                  refine z_goto F 144 dX12_one_121 (by decide) ?_
                  have eq1 := Option.some.inj hf
                  obtain ⟨ee1, eq2⟩ := Prod.mk.inj eq1
                  obtain ⟨ee2, eq3⟩ := Prod.mk.inj eq2
                  obtain ⟨ee3, ee4⟩ := Prod.mk.inj eq3
                  subst ee1
                  subst ee2
                  subst ee3
                  subst ee4
                  exact z_iret F rfl rfl rfl rfl dX12_one_144
              · refine z_aload_n F 2 dX12_one_99 rfl rfl ?_
                obtain ⟨r_11, fault_12, hg, hf⟩ := zb2_some hf
                refine z_callVm (rest := []) F 12 (c_M_wrong (xL X) G a_this a_height a_changeAt a_changeWas a_changeIs a_tape a_text a_names a_line a_row a_pastMany a_past a_changed a_greatest a_numbersWere a_told a_waysOf a_waysWere a_blocks a_ordersOf a_imageLine a_bodyKind a_trace a_shelf a_many a_items a_carried people keptMany done tapeMany textMany base at__9 ends fault_5 opened_6 lineMany rowMany taller tallerBy pasts isKept imageMany bodies ran ownKind ownNumber r_11 fault_12 hg) hy_X12_wrong ml_X12_170 hd_X12_wrong ⟨by omega, by omega⟩ rfl [0] rfl rfl 0 rfl rfl (w_M_one G a_this a_height a_changeAt a_changeWas a_changeIs a_tape a_text a_names a_line a_row a_pastMany a_past a_changed a_greatest a_numbersWere a_told a_waysOf a_waysWere a_blocks a_ordersOf a_imageLine a_bodyKind a_trace a_shelf a_many a_items a_carried people keptMany done tapeMany textMany base at__9 ends fault_12 opened_6 lineMany rowMany taller tallerBy pasts isKept imageMany bodies ran ownKind ownNumber tape text names) [some 0, none, none, none] rfl (by decide +kernel) rfl rfl (Nat.le_of_ble_eq_true rfl) dX12_one_100 (fun hz_13 => ?_)
                have eq1 := Option.some.inj hf
                obtain ⟨ee1, eq2⟩ := Prod.mk.inj eq1
                obtain ⟨ee2, eq3⟩ := Prod.mk.inj eq2
                obtain ⟨ee3, ee4⟩ := Prod.mk.inj eq3
                subst ee1
                subst ee2
                subst ee3
                subst ee4
                exact z_iret F rfl rfl rfl rfl dX12_one_103
          · refine z_aload_n F 1 dX12_one_72 rfl rfl ?_
            obtain ⟨r_14, at__15, fault_16, opened_17, hg, hf⟩ := zb4_some hf
            refine z_callVm (rest := []) F 12 (c_M_either (xL X) G a_this a_height a_changeAt a_changeWas a_changeIs a_tape a_text a_names a_line a_row a_pastMany a_past a_changed a_greatest a_numbersWere a_told a_waysOf a_waysWere a_blocks a_ordersOf a_imageLine a_bodyKind a_trace a_shelf a_many a_items a_carried people keptMany done tapeMany textMany base (at_ + (1 : Int32)) ends fault (opened + (1 : Int32)) lineMany rowMany taller tallerBy pasts isKept imageMany bodies ran ownKind ownNumber tape text names (f_M_one fuel) hrec r_14 at__15 fault_16 opened_17 hg) hy_X12_either ml_X12_173 hd_X12_either ⟨by omega, by omega⟩ rfl [0, 1, 2, 3] rfl rfl 0 rfl rfl (w_M_one G a_this a_height a_changeAt a_changeWas a_changeIs a_tape a_text a_names a_line a_row a_pastMany a_past a_changed a_greatest a_numbersWere a_told a_waysOf a_waysWere a_blocks a_ordersOf a_imageLine a_bodyKind a_trace a_shelf a_many a_items a_carried people keptMany done tapeMany textMany base at__15 ends fault_16 opened_17 lineMany rowMany taller tallerBy pasts isKept imageMany bodies ran ownKind ownNumber tape text names) [some 0, some 1, some 2, some 3] rfl (by decide +kernel) rfl rfl (Nat.le_of_ble_eq_true rfl) dX12_one_73 (fun hz_18 => ?_)
            refine z_goto F 83 dX12_one_76 (by decide) ?_
            refine z_istore_n F [(2, .int r_14), (1, .int r_1), (0, .ref a_this)] dX12_one_83 rfl (by decide) rfl ?_
            refine z_iload_n F 1 dX12_one_84 rfl rfl ?_
            refine z_bipush F (40) dX12_one_85 rfl ?_
            refine z_icmp_ne F 104 dX12_one_87 (by decide) hf (fun hf _ => ?_) (fun hf _ => ?_)
            · refine z_aload_n F 2 dX12_one_104 rfl rfl ?_
              refine z_dup F rfl dX12_one_105 ?_
              refine z_get F 0 12 15 inlX12 rfl rfl (by decide) fl_X12_167 rfl dX12_one_106 ?_
              refine z_iconst F (1) dX12_one_109 rfl ?_
              refine z_isub F dX12_one_110 ?_
              refine z_put F 0 12 15 (w_M_one G a_this a_height a_changeAt a_changeWas a_changeIs a_tape a_text a_names a_line a_row a_pastMany a_past a_changed a_greatest a_numbersWere a_told a_waysOf a_waysWere a_blocks a_ordersOf a_imageLine a_bodyKind a_trace a_shelf a_many a_items a_carried people keptMany done tapeMany textMany base at__15 ends fault_16 (opened_17 - (1 : Int32)) lineMany rowMany taller tallerBy pasts isKept imageMany bodies ran ownKind ownNumber tape text names) inlX12 tyX12 tyX12_ok nmX12 rfl rfl (by decide) fl_X12_167 rfl rfl rfl (Nat.le_of_ble_eq_true rfl) rfl dX12_one_111 ?_
              refine z_iload_n F 1 dX12_one_114 rfl rfl ?_
              refine z_bipush F (40) dX12_one_115 rfl ?_
              refine z_icmp_ne F 124 dX12_one_117 (by decide) hf (fun hf _ => ?_) (fun hf _ => ?_)
              · refine z_iload_n F 1 dX12_one_124 rfl rfl ?_
                refine z_bipush F (45) dX12_one_125 rfl ?_
                refine z_icmp_ne F 135 dX12_one_127 (by decide) hf (fun hf _ => ?_) (fun hf _ => ?_)
                · refine z_iload_n F 0 dX12_one_135 rfl rfl ?_
                  refine z_if_ne F 143 dX12_one_136 (by decide) hf (fun hf _ => ?_) (fun hf _ => ?_)
                  · refine z_iconst F (0) dX12_one_143 rfl ?_
                    have eq1 := Option.some.inj hf
                    obtain ⟨ee1, eq2⟩ := Prod.mk.inj eq1
                    obtain ⟨ee2, eq3⟩ := Prod.mk.inj eq2
                    obtain ⟨ee3, ee4⟩ := Prod.mk.inj eq3
                    subst ee1
                    subst ee2
                    subst ee3
                    subst ee4
                    exact z_iret F rfl rfl rfl rfl dX12_one_144
                  · refine z_iconst F (1) dX12_one_139 rfl ?_
                    refine z_goto F 144 dX12_one_140 (by decide) ?_
                    have eq1 := Option.some.inj hf
                    obtain ⟨ee1, eq2⟩ := Prod.mk.inj eq1
                    obtain ⟨ee2, eq3⟩ := Prod.mk.inj eq2
                    obtain ⟨ee3, ee4⟩ := Prod.mk.inj eq3
                    subst ee1
                    subst ee2
                    subst ee3
                    subst ee4
                    exact z_iret F rfl rfl rfl rfl dX12_one_144
                · refine z_iload_n F 0 dX12_one_130 rfl rfl ?_
                  refine z_ineg F dX12_one_131 ?_
                  refine z_goto F 144 dX12_one_132 (by decide) ?_
                  have eq1 := Option.some.inj hf
                  obtain ⟨ee1, eq2⟩ := Prod.mk.inj eq1
                  obtain ⟨ee2, eq3⟩ := Prod.mk.inj eq2
                  obtain ⟨ee3, ee4⟩ := Prod.mk.inj eq3
                  subst ee1
                  subst ee2
                  subst ee3
                  subst ee4
                  exact z_iret F rfl rfl rfl rfl dX12_one_144
              · refine z_iload_n F 0 dX12_one_120 rfl rfl ?_
                refine z_goto F 144 dX12_one_121 (by decide) ?_
                have eq1 := Option.some.inj hf
                obtain ⟨ee1, eq2⟩ := Prod.mk.inj eq1
                obtain ⟨ee2, eq3⟩ := Prod.mk.inj eq2
                obtain ⟨ee3, ee4⟩ := Prod.mk.inj eq3
                subst ee1
                subst ee2
                subst ee3
                subst ee4
                exact z_iret F rfl rfl rfl rfl dX12_one_144
            · refine z_aload_n F 2 dX12_one_90 rfl rfl ?_
              refine z_bipush F (41) dX12_one_91 rfl ?_
              obtain ⟨r_19, at__20, hg, hf⟩ := zb2_some hf
              refine z_callVm (rest := []) F 12 (c_M_takes (xL X) G a_this a_height a_changeAt a_changeWas a_changeIs a_tape a_text a_names a_line a_row a_pastMany a_past a_changed a_greatest a_numbersWere a_told a_waysOf a_waysWere a_blocks a_ordersOf a_imageLine a_bodyKind a_trace a_shelf a_many a_items a_carried people keptMany done tapeMany textMany base at__15 ends fault_16 opened_17 lineMany rowMany taller tallerBy pasts isKept imageMany bodies ran ownKind ownNumber tape text 41 r_19 at__20 hg) hy_X12_takes ml_X12_152 hd_X12_takes ⟨by omega, by omega⟩ rfl [0, 1, 2] rfl rfl 0 rfl rfl (w_M_one G a_this a_height a_changeAt a_changeWas a_changeIs a_tape a_text a_names a_line a_row a_pastMany a_past a_changed a_greatest a_numbersWere a_told a_waysOf a_waysWere a_blocks a_ordersOf a_imageLine a_bodyKind a_trace a_shelf a_many a_items a_carried people keptMany done tapeMany textMany base at__20 ends fault_16 opened_17 lineMany rowMany taller tallerBy pasts isKept imageMany bodies ran ownKind ownNumber tape text names) [some 0, some 1, some 2, none] rfl (by decide +kernel) rfl rfl (Nat.le_of_ble_eq_true rfl) dX12_one_93 (fun hz_21 => ?_)
              refine z_if_ne F 104 dX12_one_96 (by decide) hf (fun hf _ => ?_) (fun hf _ => ?_)
              · refine z_aload_n F 2 dX12_one_104 rfl rfl ?_
                refine z_dup F rfl dX12_one_105 ?_
                refine z_get F 0 12 15 inlX12 rfl rfl (by decide) fl_X12_167 rfl dX12_one_106 ?_
                refine z_iconst F (1) dX12_one_109 rfl ?_
                refine z_isub F dX12_one_110 ?_
                refine z_put F 0 12 15 (w_M_one G a_this a_height a_changeAt a_changeWas a_changeIs a_tape a_text a_names a_line a_row a_pastMany a_past a_changed a_greatest a_numbersWere a_told a_waysOf a_waysWere a_blocks a_ordersOf a_imageLine a_bodyKind a_trace a_shelf a_many a_items a_carried people keptMany done tapeMany textMany base at__20 ends fault_16 (opened_17 - (1 : Int32)) lineMany rowMany taller tallerBy pasts isKept imageMany bodies ran ownKind ownNumber tape text names) inlX12 tyX12 tyX12_ok nmX12 rfl rfl (by decide) fl_X12_167 rfl rfl rfl (Nat.le_of_ble_eq_true rfl) rfl dX12_one_111 ?_
                refine z_iload_n F 1 dX12_one_114 rfl rfl ?_
                refine z_bipush F (40) dX12_one_115 rfl ?_
                refine z_icmp_ne F 124 dX12_one_117 (by decide) hf (fun hf _ => ?_) (fun hf _ => ?_)
                · refine z_iload_n F 1 dX12_one_124 rfl rfl ?_
                  refine z_bipush F (45) dX12_one_125 rfl ?_
                  refine z_icmp_ne F 135 dX12_one_127 (by decide) hf (fun hf _ => ?_) (fun hf _ => ?_)
                  · refine z_iload_n F 0 dX12_one_135 rfl rfl ?_
                    refine z_if_ne F 143 dX12_one_136 (by decide) hf (fun hf _ => ?_) (fun hf _ => ?_)
                    · refine z_iconst F (0) dX12_one_143 rfl ?_
                      have eq1 := Option.some.inj hf
                      obtain ⟨ee1, eq2⟩ := Prod.mk.inj eq1
                      obtain ⟨ee2, eq3⟩ := Prod.mk.inj eq2
                      obtain ⟨ee3, ee4⟩ := Prod.mk.inj eq3
                      subst ee1
                      subst ee2
                      subst ee3
                      subst ee4
                      exact z_iret F rfl rfl rfl rfl dX12_one_144
                    · refine z_iconst F (1) dX12_one_139 rfl ?_
                      refine z_goto F 144 dX12_one_140 (by decide) ?_
                      have eq1 := Option.some.inj hf
                      obtain ⟨ee1, eq2⟩ := Prod.mk.inj eq1
                      obtain ⟨ee2, eq3⟩ := Prod.mk.inj eq2
                      obtain ⟨ee3, ee4⟩ := Prod.mk.inj eq3
                      subst ee1
                      subst ee2
                      subst ee3
                      subst ee4
                      exact z_iret F rfl rfl rfl rfl dX12_one_144
                  · refine z_iload_n F 0 dX12_one_130 rfl rfl ?_
                    refine z_ineg F dX12_one_131 ?_
                    refine z_goto F 144 dX12_one_132 (by decide) ?_
                    have eq1 := Option.some.inj hf
                    obtain ⟨ee1, eq2⟩ := Prod.mk.inj eq1
                    obtain ⟨ee2, eq3⟩ := Prod.mk.inj eq2
                    obtain ⟨ee3, ee4⟩ := Prod.mk.inj eq3
                    subst ee1
                    subst ee2
                    subst ee3
                    subst ee4
                    exact z_iret F rfl rfl rfl rfl dX12_one_144
                · refine z_iload_n F 0 dX12_one_120 rfl rfl ?_
                  refine z_goto F 144 dX12_one_121 (by decide) ?_
                  have eq1 := Option.some.inj hf
                  obtain ⟨ee1, eq2⟩ := Prod.mk.inj eq1
                  obtain ⟨ee2, eq3⟩ := Prod.mk.inj eq2
                  obtain ⟨ee3, ee4⟩ := Prod.mk.inj eq3
                  subst ee1
                  subst ee2
                  subst ee3
                  subst ee4
                  exact z_iret F rfl rfl rfl rfl dX12_one_144
              · refine z_aload_n F 2 dX12_one_99 rfl rfl ?_
                obtain ⟨r_22, fault_23, hg, hf⟩ := zb2_some hf
                refine z_callVm (rest := []) F 12 (c_M_wrong (xL X) G a_this a_height a_changeAt a_changeWas a_changeIs a_tape a_text a_names a_line a_row a_pastMany a_past a_changed a_greatest a_numbersWere a_told a_waysOf a_waysWere a_blocks a_ordersOf a_imageLine a_bodyKind a_trace a_shelf a_many a_items a_carried people keptMany done tapeMany textMany base at__20 ends fault_16 opened_17 lineMany rowMany taller tallerBy pasts isKept imageMany bodies ran ownKind ownNumber r_22 fault_23 hg) hy_X12_wrong ml_X12_170 hd_X12_wrong ⟨by omega, by omega⟩ rfl [0] rfl rfl 0 rfl rfl (w_M_one G a_this a_height a_changeAt a_changeWas a_changeIs a_tape a_text a_names a_line a_row a_pastMany a_past a_changed a_greatest a_numbersWere a_told a_waysOf a_waysWere a_blocks a_ordersOf a_imageLine a_bodyKind a_trace a_shelf a_many a_items a_carried people keptMany done tapeMany textMany base at__20 ends fault_23 opened_17 lineMany rowMany taller tallerBy pasts isKept imageMany bodies ran ownKind ownNumber tape text names) [some 0, none, none, none] rfl (by decide +kernel) rfl rfl (Nat.le_of_ble_eq_true rfl) dX12_one_100 (fun hz_24 => ?_)
                have eq1 := Option.some.inj hf
                obtain ⟨ee1, eq2⟩ := Prod.mk.inj eq1
                obtain ⟨ee2, eq3⟩ := Prod.mk.inj eq2
                obtain ⟨ee3, ee4⟩ := Prod.mk.inj eq3
                subst ee1
                subst ee2
                subst ee3
                subst ee4
                exact z_iret F rfl rfl rfl rfl dX12_one_103
        · refine z_aload_n F 1 dX12_one_41 rfl rfl ?_
          obtain ⟨r_25, fault_26, hg, hf⟩ := zb2_some hf
          refine z_callVm (rest := []) F 12 (c_M_wrong (xL X) G a_this a_height a_changeAt a_changeWas a_changeIs a_tape a_text a_names a_line a_row a_pastMany a_past a_changed a_greatest a_numbersWere a_told a_waysOf a_waysWere a_blocks a_ordersOf a_imageLine a_bodyKind a_trace a_shelf a_many a_items a_carried people keptMany done tapeMany textMany base at_ ends fault opened lineMany rowMany taller tallerBy pasts isKept imageMany bodies ran ownKind ownNumber r_25 fault_26 hg) hy_X12_wrong ml_X12_170 hd_X12_wrong ⟨by omega, by omega⟩ rfl [0] rfl rfl 0 rfl rfl (w_M_one G a_this a_height a_changeAt a_changeWas a_changeIs a_tape a_text a_names a_line a_row a_pastMany a_past a_changed a_greatest a_numbersWere a_told a_waysOf a_waysWere a_blocks a_ordersOf a_imageLine a_bodyKind a_trace a_shelf a_many a_items a_carried people keptMany done tapeMany textMany base at_ ends fault_26 opened lineMany rowMany taller tallerBy pasts isKept imageMany bodies ran ownKind ownNumber tape text names) [some 0, none, none, none] rfl (by decide +kernel) rfl rfl (Nat.le_of_ble_eq_true rfl) dX12_one_42 (fun hz_27 => ?_)
          have eq1 := Option.some.inj hf
          obtain ⟨ee1, eq2⟩ := Prod.mk.inj eq1
          obtain ⟨ee2, eq3⟩ := Prod.mk.inj eq2
          obtain ⟨ee3, ee4⟩ := Prod.mk.inj eq3
          subst ee1
          subst ee2
          subst ee3
          subst ee4
          exact z_iret F rfl rfl rfl rfl dX12_one_45
      · refine z_iload_n F 0 dX12_one_20 rfl rfl ?_
        refine z_bipush F (45) dX12_one_21 rfl ?_
        refine z_icmp_eq F 32 dX12_one_23 (by decide) hf (fun hf _ => ?_) (fun hf _ => ?_)
        · refine z_aload_n F 1 dX12_one_32 rfl rfl ?_
          refine z_get F 0 12 15 inlX12 rfl rfl (by decide) fl_X12_167 rfl dX12_one_33 ?_
          refine z_bipush F (6) dX12_one_36 rfl ?_
          refine z_icmp_ne F 46 dX12_one_38 (by decide) hf (fun hf _ => ?_) (fun hf _ => ?_)
          · refine z_aload_n F 1 dX12_one_46 rfl rfl ?_
            refine z_dup F rfl dX12_one_47 ?_
            refine z_get F 0 12 15 inlX12 rfl rfl (by decide) fl_X12_167 rfl dX12_one_48 ?_
            refine z_iconst F (1) dX12_one_51 rfl ?_
            refine z_iadd F dX12_one_52 ?_
            refine z_put F 0 12 15 (w_M_one G a_this a_height a_changeAt a_changeWas a_changeIs a_tape a_text a_names a_line a_row a_pastMany a_past a_changed a_greatest a_numbersWere a_told a_waysOf a_waysWere a_blocks a_ordersOf a_imageLine a_bodyKind a_trace a_shelf a_many a_items a_carried people keptMany done tapeMany textMany base at_ ends fault (opened + (1 : Int32)) lineMany rowMany taller tallerBy pasts isKept imageMany bodies ran ownKind ownNumber tape text names) inlX12 tyX12 tyX12_ok nmX12 rfl rfl (by decide) fl_X12_167 rfl rfl rfl (Nat.le_of_ble_eq_true rfl) rfl dX12_one_53 ?_
            refine z_aload_n F 1 dX12_one_56 rfl rfl ?_
            refine z_dup F rfl dX12_one_57 ?_
            refine z_get F 0 12 12 inlX12 rfl rfl (by decide) fl_X12_133 rfl dX12_one_58 ?_
            refine z_iconst F (1) dX12_one_61 rfl ?_
            refine z_iadd F dX12_one_62 ?_
            refine z_put F 0 12 12 (w_M_one G a_this a_height a_changeAt a_changeWas a_changeIs a_tape a_text a_names a_line a_row a_pastMany a_past a_changed a_greatest a_numbersWere a_told a_waysOf a_waysWere a_blocks a_ordersOf a_imageLine a_bodyKind a_trace a_shelf a_many a_items a_carried people keptMany done tapeMany textMany base (at_ + (1 : Int32)) ends fault (opened + (1 : Int32)) lineMany rowMany taller tallerBy pasts isKept imageMany bodies ran ownKind ownNumber tape text names) inlX12 tyX12 tyX12_ok nmX12 rfl rfl (by decide) fl_X12_133 rfl rfl rfl (Nat.le_of_ble_eq_true rfl) rfl dX12_one_63 ?_
            refine z_iload_n F 0 dX12_one_66 rfl rfl ?_
            refine z_bipush F (40) dX12_one_67 rfl ?_
            refine z_icmp_ne F 79 dX12_one_69 (by decide) hf (fun hf _ => ?_) (fun hf _ => ?_)
            · refine z_aload_n F 1 dX12_one_79 rfl rfl ?_
              obtain ⟨r_28, at__29, fault_30, opened_31, hg, hf⟩ := zb4_some hf
              refine z_callVm (rest := []) F 12 (hrec people keptMany done tapeMany textMany base (at_ + (1 : Int32)) ends fault (opened + (1 : Int32)) lineMany rowMany taller tallerBy pasts isKept imageMany bodies ran ownKind ownNumber tape text names r_28 at__29 fault_30 opened_31 hg) hy_X12_one ml_X12_164 hd_X12_one ⟨by omega, by omega⟩ rfl [0, 1, 2, 3] rfl rfl 0 rfl rfl (w_M_one G a_this a_height a_changeAt a_changeWas a_changeIs a_tape a_text a_names a_line a_row a_pastMany a_past a_changed a_greatest a_numbersWere a_told a_waysOf a_waysWere a_blocks a_ordersOf a_imageLine a_bodyKind a_trace a_shelf a_many a_items a_carried people keptMany done tapeMany textMany base at__29 ends fault_30 opened_31 lineMany rowMany taller tallerBy pasts isKept imageMany bodies ran ownKind ownNumber tape text names) [some 0, some 1, some 2, some 3] rfl (by decide +kernel) rfl rfl (Nat.le_of_ble_eq_true rfl) dX12_one_80 (fun hz_32 => ?_)
              refine z_istore_n F [(2, .int r_28), (1, .int r_1), (0, .ref a_this)] dX12_one_83 rfl (by decide) rfl ?_
              refine z_iload_n F 1 dX12_one_84 rfl rfl ?_
              refine z_bipush F (40) dX12_one_85 rfl ?_
              refine z_icmp_ne F 104 dX12_one_87 (by decide) hf (fun hf _ => ?_) (fun hf _ => ?_)
              · refine z_aload_n F 2 dX12_one_104 rfl rfl ?_
                refine z_dup F rfl dX12_one_105 ?_
                refine z_get F 0 12 15 inlX12 rfl rfl (by decide) fl_X12_167 rfl dX12_one_106 ?_
                refine z_iconst F (1) dX12_one_109 rfl ?_
                refine z_isub F dX12_one_110 ?_
                refine z_put F 0 12 15 (w_M_one G a_this a_height a_changeAt a_changeWas a_changeIs a_tape a_text a_names a_line a_row a_pastMany a_past a_changed a_greatest a_numbersWere a_told a_waysOf a_waysWere a_blocks a_ordersOf a_imageLine a_bodyKind a_trace a_shelf a_many a_items a_carried people keptMany done tapeMany textMany base at__29 ends fault_30 (opened_31 - (1 : Int32)) lineMany rowMany taller tallerBy pasts isKept imageMany bodies ran ownKind ownNumber tape text names) inlX12 tyX12 tyX12_ok nmX12 rfl rfl (by decide) fl_X12_167 rfl rfl rfl (Nat.le_of_ble_eq_true rfl) rfl dX12_one_111 ?_
                refine z_iload_n F 1 dX12_one_114 rfl rfl ?_
                refine z_bipush F (40) dX12_one_115 rfl ?_
                refine z_icmp_ne F 124 dX12_one_117 (by decide) hf (fun hf _ => ?_) (fun hf _ => ?_)
                · refine z_iload_n F 1 dX12_one_124 rfl rfl ?_
                  refine z_bipush F (45) dX12_one_125 rfl ?_
                  refine z_icmp_ne F 135 dX12_one_127 (by decide) hf (fun hf _ => ?_) (fun hf _ => ?_)
                  · refine z_iload_n F 0 dX12_one_135 rfl rfl ?_
                    refine z_if_ne F 143 dX12_one_136 (by decide) hf (fun hf _ => ?_) (fun hf _ => ?_)
                    · refine z_iconst F (0) dX12_one_143 rfl ?_
                      have eq1 := Option.some.inj hf
                      obtain ⟨ee1, eq2⟩ := Prod.mk.inj eq1
                      obtain ⟨ee2, eq3⟩ := Prod.mk.inj eq2
                      obtain ⟨ee3, ee4⟩ := Prod.mk.inj eq3
                      subst ee1
                      subst ee2
                      subst ee3
                      subst ee4
                      exact z_iret F rfl rfl rfl rfl dX12_one_144
                    · refine z_iconst F (1) dX12_one_139 rfl ?_
                      refine z_goto F 144 dX12_one_140 (by decide) ?_
                      have eq1 := Option.some.inj hf
                      obtain ⟨ee1, eq2⟩ := Prod.mk.inj eq1
                      obtain ⟨ee2, eq3⟩ := Prod.mk.inj eq2
                      obtain ⟨ee3, ee4⟩ := Prod.mk.inj eq3
                      subst ee1
                      subst ee2
                      subst ee3
                      subst ee4
                      exact z_iret F rfl rfl rfl rfl dX12_one_144
                  · refine z_iload_n F 0 dX12_one_130 rfl rfl ?_
                    refine z_ineg F dX12_one_131 ?_
                    refine z_goto F 144 dX12_one_132 (by decide) ?_
                    have eq1 := Option.some.inj hf
                    obtain ⟨ee1, eq2⟩ := Prod.mk.inj eq1
                    obtain ⟨ee2, eq3⟩ := Prod.mk.inj eq2
                    obtain ⟨ee3, ee4⟩ := Prod.mk.inj eq3
                    subst ee1
                    subst ee2
                    subst ee3
                    subst ee4
                    exact z_iret F rfl rfl rfl rfl dX12_one_144
                · refine z_iload_n F 0 dX12_one_120 rfl rfl ?_
                  refine z_goto F 144 dX12_one_121 (by decide) ?_
                  have eq1 := Option.some.inj hf
                  obtain ⟨ee1, eq2⟩ := Prod.mk.inj eq1
                  obtain ⟨ee2, eq3⟩ := Prod.mk.inj eq2
                  obtain ⟨ee3, ee4⟩ := Prod.mk.inj eq3
                  subst ee1
                  subst ee2
                  subst ee3
                  subst ee4
                  exact z_iret F rfl rfl rfl rfl dX12_one_144
              · refine z_aload_n F 2 dX12_one_90 rfl rfl ?_
                refine z_bipush F (41) dX12_one_91 rfl ?_
                obtain ⟨r_33, at__34, hg, hf⟩ := zb2_some hf
                refine z_callVm (rest := []) F 12 (c_M_takes (xL X) G a_this a_height a_changeAt a_changeWas a_changeIs a_tape a_text a_names a_line a_row a_pastMany a_past a_changed a_greatest a_numbersWere a_told a_waysOf a_waysWere a_blocks a_ordersOf a_imageLine a_bodyKind a_trace a_shelf a_many a_items a_carried people keptMany done tapeMany textMany base at__29 ends fault_30 opened_31 lineMany rowMany taller tallerBy pasts isKept imageMany bodies ran ownKind ownNumber tape text 41 r_33 at__34 hg) hy_X12_takes ml_X12_152 hd_X12_takes ⟨by omega, by omega⟩ rfl [0, 1, 2] rfl rfl 0 rfl rfl (w_M_one G a_this a_height a_changeAt a_changeWas a_changeIs a_tape a_text a_names a_line a_row a_pastMany a_past a_changed a_greatest a_numbersWere a_told a_waysOf a_waysWere a_blocks a_ordersOf a_imageLine a_bodyKind a_trace a_shelf a_many a_items a_carried people keptMany done tapeMany textMany base at__34 ends fault_30 opened_31 lineMany rowMany taller tallerBy pasts isKept imageMany bodies ran ownKind ownNumber tape text names) [some 0, some 1, some 2, none] rfl (by decide +kernel) rfl rfl (Nat.le_of_ble_eq_true rfl) dX12_one_93 (fun hz_35 => ?_)
                refine z_if_ne F 104 dX12_one_96 (by decide) hf (fun hf _ => ?_) (fun hf _ => ?_)
                · refine z_aload_n F 2 dX12_one_104 rfl rfl ?_
                  refine z_dup F rfl dX12_one_105 ?_
                  refine z_get F 0 12 15 inlX12 rfl rfl (by decide) fl_X12_167 rfl dX12_one_106 ?_
                  refine z_iconst F (1) dX12_one_109 rfl ?_
                  refine z_isub F dX12_one_110 ?_
                  refine z_put F 0 12 15 (w_M_one G a_this a_height a_changeAt a_changeWas a_changeIs a_tape a_text a_names a_line a_row a_pastMany a_past a_changed a_greatest a_numbersWere a_told a_waysOf a_waysWere a_blocks a_ordersOf a_imageLine a_bodyKind a_trace a_shelf a_many a_items a_carried people keptMany done tapeMany textMany base at__34 ends fault_30 (opened_31 - (1 : Int32)) lineMany rowMany taller tallerBy pasts isKept imageMany bodies ran ownKind ownNumber tape text names) inlX12 tyX12 tyX12_ok nmX12 rfl rfl (by decide) fl_X12_167 rfl rfl rfl (Nat.le_of_ble_eq_true rfl) rfl dX12_one_111 ?_
                  refine z_iload_n F 1 dX12_one_114 rfl rfl ?_
                  refine z_bipush F (40) dX12_one_115 rfl ?_
                  refine z_icmp_ne F 124 dX12_one_117 (by decide) hf (fun hf _ => ?_) (fun hf _ => ?_)
                  · refine z_iload_n F 1 dX12_one_124 rfl rfl ?_
                    refine z_bipush F (45) dX12_one_125 rfl ?_
                    refine z_icmp_ne F 135 dX12_one_127 (by decide) hf (fun hf _ => ?_) (fun hf _ => ?_)
                    · refine z_iload_n F 0 dX12_one_135 rfl rfl ?_
                      refine z_if_ne F 143 dX12_one_136 (by decide) hf (fun hf _ => ?_) (fun hf _ => ?_)
                      · refine z_iconst F (0) dX12_one_143 rfl ?_
                        have eq1 := Option.some.inj hf
                        obtain ⟨ee1, eq2⟩ := Prod.mk.inj eq1
                        obtain ⟨ee2, eq3⟩ := Prod.mk.inj eq2
                        obtain ⟨ee3, ee4⟩ := Prod.mk.inj eq3
                        subst ee1
                        subst ee2
                        subst ee3
                        subst ee4
                        exact z_iret F rfl rfl rfl rfl dX12_one_144
                      · refine z_iconst F (1) dX12_one_139 rfl ?_
                        refine z_goto F 144 dX12_one_140 (by decide) ?_
                        have eq1 := Option.some.inj hf
                        obtain ⟨ee1, eq2⟩ := Prod.mk.inj eq1
                        obtain ⟨ee2, eq3⟩ := Prod.mk.inj eq2
                        obtain ⟨ee3, ee4⟩ := Prod.mk.inj eq3
                        subst ee1
                        subst ee2
                        subst ee3
                        subst ee4
                        exact z_iret F rfl rfl rfl rfl dX12_one_144
                    · refine z_iload_n F 0 dX12_one_130 rfl rfl ?_
                      refine z_ineg F dX12_one_131 ?_
                      refine z_goto F 144 dX12_one_132 (by decide) ?_
                      have eq1 := Option.some.inj hf
                      obtain ⟨ee1, eq2⟩ := Prod.mk.inj eq1
                      obtain ⟨ee2, eq3⟩ := Prod.mk.inj eq2
                      obtain ⟨ee3, ee4⟩ := Prod.mk.inj eq3
                      subst ee1
                      subst ee2
                      subst ee3
                      subst ee4
                      exact z_iret F rfl rfl rfl rfl dX12_one_144
                  · refine z_iload_n F 0 dX12_one_120 rfl rfl ?_
                    refine z_goto F 144 dX12_one_121 (by decide) ?_
                    have eq1 := Option.some.inj hf
                    obtain ⟨ee1, eq2⟩ := Prod.mk.inj eq1
                    obtain ⟨ee2, eq3⟩ := Prod.mk.inj eq2
                    obtain ⟨ee3, ee4⟩ := Prod.mk.inj eq3
                    subst ee1
                    subst ee2
                    subst ee3
                    subst ee4
                    exact z_iret F rfl rfl rfl rfl dX12_one_144
                · refine z_aload_n F 2 dX12_one_99 rfl rfl ?_
                  obtain ⟨r_36, fault_37, hg, hf⟩ := zb2_some hf
                  refine z_callVm (rest := []) F 12 (c_M_wrong (xL X) G a_this a_height a_changeAt a_changeWas a_changeIs a_tape a_text a_names a_line a_row a_pastMany a_past a_changed a_greatest a_numbersWere a_told a_waysOf a_waysWere a_blocks a_ordersOf a_imageLine a_bodyKind a_trace a_shelf a_many a_items a_carried people keptMany done tapeMany textMany base at__34 ends fault_30 opened_31 lineMany rowMany taller tallerBy pasts isKept imageMany bodies ran ownKind ownNumber r_36 fault_37 hg) hy_X12_wrong ml_X12_170 hd_X12_wrong ⟨by omega, by omega⟩ rfl [0] rfl rfl 0 rfl rfl (w_M_one G a_this a_height a_changeAt a_changeWas a_changeIs a_tape a_text a_names a_line a_row a_pastMany a_past a_changed a_greatest a_numbersWere a_told a_waysOf a_waysWere a_blocks a_ordersOf a_imageLine a_bodyKind a_trace a_shelf a_many a_items a_carried people keptMany done tapeMany textMany base at__34 ends fault_37 opened_31 lineMany rowMany taller tallerBy pasts isKept imageMany bodies ran ownKind ownNumber tape text names) [some 0, none, none, none] rfl (by decide +kernel) rfl rfl (Nat.le_of_ble_eq_true rfl) dX12_one_100 (fun hz_38 => ?_)
                  have eq1 := Option.some.inj hf
                  obtain ⟨ee1, eq2⟩ := Prod.mk.inj eq1
                  obtain ⟨ee2, eq3⟩ := Prod.mk.inj eq2
                  obtain ⟨ee3, ee4⟩ := Prod.mk.inj eq3
                  subst ee1
                  subst ee2
                  subst ee3
                  subst ee4
                  exact z_iret F rfl rfl rfl rfl dX12_one_103
            · refine z_aload_n F 1 dX12_one_72 rfl rfl ?_
              obtain ⟨r_39, at__40, fault_41, opened_42, hg, hf⟩ := zb4_some hf
              refine z_callVm (rest := []) F 12 (c_M_either (xL X) G a_this a_height a_changeAt a_changeWas a_changeIs a_tape a_text a_names a_line a_row a_pastMany a_past a_changed a_greatest a_numbersWere a_told a_waysOf a_waysWere a_blocks a_ordersOf a_imageLine a_bodyKind a_trace a_shelf a_many a_items a_carried people keptMany done tapeMany textMany base (at_ + (1 : Int32)) ends fault (opened + (1 : Int32)) lineMany rowMany taller tallerBy pasts isKept imageMany bodies ran ownKind ownNumber tape text names (f_M_one fuel) hrec r_39 at__40 fault_41 opened_42 hg) hy_X12_either ml_X12_173 hd_X12_either ⟨by omega, by omega⟩ rfl [0, 1, 2, 3] rfl rfl 0 rfl rfl (w_M_one G a_this a_height a_changeAt a_changeWas a_changeIs a_tape a_text a_names a_line a_row a_pastMany a_past a_changed a_greatest a_numbersWere a_told a_waysOf a_waysWere a_blocks a_ordersOf a_imageLine a_bodyKind a_trace a_shelf a_many a_items a_carried people keptMany done tapeMany textMany base at__40 ends fault_41 opened_42 lineMany rowMany taller tallerBy pasts isKept imageMany bodies ran ownKind ownNumber tape text names) [some 0, some 1, some 2, some 3] rfl (by decide +kernel) rfl rfl (Nat.le_of_ble_eq_true rfl) dX12_one_73 (fun hz_43 => ?_)
              refine z_goto F 83 dX12_one_76 (by decide) ?_
              refine z_istore_n F [(2, .int r_39), (1, .int r_1), (0, .ref a_this)] dX12_one_83 rfl (by decide) rfl ?_
              refine z_iload_n F 1 dX12_one_84 rfl rfl ?_
              refine z_bipush F (40) dX12_one_85 rfl ?_
              refine z_icmp_ne F 104 dX12_one_87 (by decide) hf (fun hf _ => ?_) (fun hf _ => ?_)
              · refine z_aload_n F 2 dX12_one_104 rfl rfl ?_
                refine z_dup F rfl dX12_one_105 ?_
                refine z_get F 0 12 15 inlX12 rfl rfl (by decide) fl_X12_167 rfl dX12_one_106 ?_
                refine z_iconst F (1) dX12_one_109 rfl ?_
                refine z_isub F dX12_one_110 ?_
                refine z_put F 0 12 15 (w_M_one G a_this a_height a_changeAt a_changeWas a_changeIs a_tape a_text a_names a_line a_row a_pastMany a_past a_changed a_greatest a_numbersWere a_told a_waysOf a_waysWere a_blocks a_ordersOf a_imageLine a_bodyKind a_trace a_shelf a_many a_items a_carried people keptMany done tapeMany textMany base at__40 ends fault_41 (opened_42 - (1 : Int32)) lineMany rowMany taller tallerBy pasts isKept imageMany bodies ran ownKind ownNumber tape text names) inlX12 tyX12 tyX12_ok nmX12 rfl rfl (by decide) fl_X12_167 rfl rfl rfl (Nat.le_of_ble_eq_true rfl) rfl dX12_one_111 ?_
                refine z_iload_n F 1 dX12_one_114 rfl rfl ?_
                refine z_bipush F (40) dX12_one_115 rfl ?_
                refine z_icmp_ne F 124 dX12_one_117 (by decide) hf (fun hf _ => ?_) (fun hf _ => ?_)
                · refine z_iload_n F 1 dX12_one_124 rfl rfl ?_
                  refine z_bipush F (45) dX12_one_125 rfl ?_
                  refine z_icmp_ne F 135 dX12_one_127 (by decide) hf (fun hf _ => ?_) (fun hf _ => ?_)
                  · refine z_iload_n F 0 dX12_one_135 rfl rfl ?_
                    refine z_if_ne F 143 dX12_one_136 (by decide) hf (fun hf _ => ?_) (fun hf _ => ?_)
                    · refine z_iconst F (0) dX12_one_143 rfl ?_
                      have eq1 := Option.some.inj hf
                      obtain ⟨ee1, eq2⟩ := Prod.mk.inj eq1
                      obtain ⟨ee2, eq3⟩ := Prod.mk.inj eq2
                      obtain ⟨ee3, ee4⟩ := Prod.mk.inj eq3
                      subst ee1
                      subst ee2
                      subst ee3
                      subst ee4
                      exact z_iret F rfl rfl rfl rfl dX12_one_144
                    · refine z_iconst F (1) dX12_one_139 rfl ?_
                      refine z_goto F 144 dX12_one_140 (by decide) ?_
                      have eq1 := Option.some.inj hf
                      obtain ⟨ee1, eq2⟩ := Prod.mk.inj eq1
                      obtain ⟨ee2, eq3⟩ := Prod.mk.inj eq2
                      obtain ⟨ee3, ee4⟩ := Prod.mk.inj eq3
                      subst ee1
                      subst ee2
                      subst ee3
                      subst ee4
                      exact z_iret F rfl rfl rfl rfl dX12_one_144
                  · refine z_iload_n F 0 dX12_one_130 rfl rfl ?_
                    refine z_ineg F dX12_one_131 ?_
                    refine z_goto F 144 dX12_one_132 (by decide) ?_
                    have eq1 := Option.some.inj hf
                    obtain ⟨ee1, eq2⟩ := Prod.mk.inj eq1
                    obtain ⟨ee2, eq3⟩ := Prod.mk.inj eq2
                    obtain ⟨ee3, ee4⟩ := Prod.mk.inj eq3
                    subst ee1
                    subst ee2
                    subst ee3
                    subst ee4
                    exact z_iret F rfl rfl rfl rfl dX12_one_144
                · refine z_iload_n F 0 dX12_one_120 rfl rfl ?_
                  refine z_goto F 144 dX12_one_121 (by decide) ?_
                  have eq1 := Option.some.inj hf
                  obtain ⟨ee1, eq2⟩ := Prod.mk.inj eq1
                  obtain ⟨ee2, eq3⟩ := Prod.mk.inj eq2
                  obtain ⟨ee3, ee4⟩ := Prod.mk.inj eq3
                  subst ee1
                  subst ee2
                  subst ee3
                  subst ee4
                  exact z_iret F rfl rfl rfl rfl dX12_one_144
              · refine z_aload_n F 2 dX12_one_90 rfl rfl ?_
                refine z_bipush F (41) dX12_one_91 rfl ?_
                obtain ⟨r_44, at__45, hg, hf⟩ := zb2_some hf
                refine z_callVm (rest := []) F 12 (c_M_takes (xL X) G a_this a_height a_changeAt a_changeWas a_changeIs a_tape a_text a_names a_line a_row a_pastMany a_past a_changed a_greatest a_numbersWere a_told a_waysOf a_waysWere a_blocks a_ordersOf a_imageLine a_bodyKind a_trace a_shelf a_many a_items a_carried people keptMany done tapeMany textMany base at__40 ends fault_41 opened_42 lineMany rowMany taller tallerBy pasts isKept imageMany bodies ran ownKind ownNumber tape text 41 r_44 at__45 hg) hy_X12_takes ml_X12_152 hd_X12_takes ⟨by omega, by omega⟩ rfl [0, 1, 2] rfl rfl 0 rfl rfl (w_M_one G a_this a_height a_changeAt a_changeWas a_changeIs a_tape a_text a_names a_line a_row a_pastMany a_past a_changed a_greatest a_numbersWere a_told a_waysOf a_waysWere a_blocks a_ordersOf a_imageLine a_bodyKind a_trace a_shelf a_many a_items a_carried people keptMany done tapeMany textMany base at__45 ends fault_41 opened_42 lineMany rowMany taller tallerBy pasts isKept imageMany bodies ran ownKind ownNumber tape text names) [some 0, some 1, some 2, none] rfl (by decide +kernel) rfl rfl (Nat.le_of_ble_eq_true rfl) dX12_one_93 (fun hz_46 => ?_)
                refine z_if_ne F 104 dX12_one_96 (by decide) hf (fun hf _ => ?_) (fun hf _ => ?_)
                · refine z_aload_n F 2 dX12_one_104 rfl rfl ?_
                  refine z_dup F rfl dX12_one_105 ?_
                  refine z_get F 0 12 15 inlX12 rfl rfl (by decide) fl_X12_167 rfl dX12_one_106 ?_
                  refine z_iconst F (1) dX12_one_109 rfl ?_
                  refine z_isub F dX12_one_110 ?_
                  refine z_put F 0 12 15 (w_M_one G a_this a_height a_changeAt a_changeWas a_changeIs a_tape a_text a_names a_line a_row a_pastMany a_past a_changed a_greatest a_numbersWere a_told a_waysOf a_waysWere a_blocks a_ordersOf a_imageLine a_bodyKind a_trace a_shelf a_many a_items a_carried people keptMany done tapeMany textMany base at__45 ends fault_41 (opened_42 - (1 : Int32)) lineMany rowMany taller tallerBy pasts isKept imageMany bodies ran ownKind ownNumber tape text names) inlX12 tyX12 tyX12_ok nmX12 rfl rfl (by decide) fl_X12_167 rfl rfl rfl (Nat.le_of_ble_eq_true rfl) rfl dX12_one_111 ?_
                  refine z_iload_n F 1 dX12_one_114 rfl rfl ?_
                  refine z_bipush F (40) dX12_one_115 rfl ?_
                  refine z_icmp_ne F 124 dX12_one_117 (by decide) hf (fun hf _ => ?_) (fun hf _ => ?_)
                  · refine z_iload_n F 1 dX12_one_124 rfl rfl ?_
                    refine z_bipush F (45) dX12_one_125 rfl ?_
                    refine z_icmp_ne F 135 dX12_one_127 (by decide) hf (fun hf _ => ?_) (fun hf _ => ?_)
                    · refine z_iload_n F 0 dX12_one_135 rfl rfl ?_
                      refine z_if_ne F 143 dX12_one_136 (by decide) hf (fun hf _ => ?_) (fun hf _ => ?_)
                      · refine z_iconst F (0) dX12_one_143 rfl ?_
                        have eq1 := Option.some.inj hf
                        obtain ⟨ee1, eq2⟩ := Prod.mk.inj eq1
                        obtain ⟨ee2, eq3⟩ := Prod.mk.inj eq2
                        obtain ⟨ee3, ee4⟩ := Prod.mk.inj eq3
                        subst ee1
                        subst ee2
                        subst ee3
                        subst ee4
                        exact z_iret F rfl rfl rfl rfl dX12_one_144
                      · refine z_iconst F (1) dX12_one_139 rfl ?_
                        refine z_goto F 144 dX12_one_140 (by decide) ?_
                        have eq1 := Option.some.inj hf
                        obtain ⟨ee1, eq2⟩ := Prod.mk.inj eq1
                        obtain ⟨ee2, eq3⟩ := Prod.mk.inj eq2
                        obtain ⟨ee3, ee4⟩ := Prod.mk.inj eq3
                        subst ee1
                        subst ee2
                        subst ee3
                        subst ee4
                        exact z_iret F rfl rfl rfl rfl dX12_one_144
                    · refine z_iload_n F 0 dX12_one_130 rfl rfl ?_
                      refine z_ineg F dX12_one_131 ?_
                      refine z_goto F 144 dX12_one_132 (by decide) ?_
                      have eq1 := Option.some.inj hf
                      obtain ⟨ee1, eq2⟩ := Prod.mk.inj eq1
                      obtain ⟨ee2, eq3⟩ := Prod.mk.inj eq2
                      obtain ⟨ee3, ee4⟩ := Prod.mk.inj eq3
                      subst ee1
                      subst ee2
                      subst ee3
                      subst ee4
                      exact z_iret F rfl rfl rfl rfl dX12_one_144
                  · refine z_iload_n F 0 dX12_one_120 rfl rfl ?_
                    refine z_goto F 144 dX12_one_121 (by decide) ?_
                    have eq1 := Option.some.inj hf
                    obtain ⟨ee1, eq2⟩ := Prod.mk.inj eq1
                    obtain ⟨ee2, eq3⟩ := Prod.mk.inj eq2
                    obtain ⟨ee3, ee4⟩ := Prod.mk.inj eq3
                    subst ee1
                    subst ee2
                    subst ee3
                    subst ee4
                    exact z_iret F rfl rfl rfl rfl dX12_one_144
                · refine z_aload_n F 2 dX12_one_99 rfl rfl ?_
                  obtain ⟨r_47, fault_48, hg, hf⟩ := zb2_some hf
                  refine z_callVm (rest := []) F 12 (c_M_wrong (xL X) G a_this a_height a_changeAt a_changeWas a_changeIs a_tape a_text a_names a_line a_row a_pastMany a_past a_changed a_greatest a_numbersWere a_told a_waysOf a_waysWere a_blocks a_ordersOf a_imageLine a_bodyKind a_trace a_shelf a_many a_items a_carried people keptMany done tapeMany textMany base at__45 ends fault_41 opened_42 lineMany rowMany taller tallerBy pasts isKept imageMany bodies ran ownKind ownNumber r_47 fault_48 hg) hy_X12_wrong ml_X12_170 hd_X12_wrong ⟨by omega, by omega⟩ rfl [0] rfl rfl 0 rfl rfl (w_M_one G a_this a_height a_changeAt a_changeWas a_changeIs a_tape a_text a_names a_line a_row a_pastMany a_past a_changed a_greatest a_numbersWere a_told a_waysOf a_waysWere a_blocks a_ordersOf a_imageLine a_bodyKind a_trace a_shelf a_many a_items a_carried people keptMany done tapeMany textMany base at__45 ends fault_48 opened_42 lineMany rowMany taller tallerBy pasts isKept imageMany bodies ran ownKind ownNumber tape text names) [some 0, none, none, none] rfl (by decide +kernel) rfl rfl (Nat.le_of_ble_eq_true rfl) dX12_one_100 (fun hz_49 => ?_)
                  have eq1 := Option.some.inj hf
                  obtain ⟨ee1, eq2⟩ := Prod.mk.inj eq1
                  obtain ⟨ee2, eq3⟩ := Prod.mk.inj eq2
                  obtain ⟨ee3, ee4⟩ := Prod.mk.inj eq3
                  subst ee1
                  subst ee2
                  subst ee3
                  subst ee4
                  exact z_iret F rfl rfl rfl rfl dX12_one_103
          · refine z_aload_n F 1 dX12_one_41 rfl rfl ?_
            obtain ⟨r_50, fault_51, hg, hf⟩ := zb2_some hf
            refine z_callVm (rest := []) F 12 (c_M_wrong (xL X) G a_this a_height a_changeAt a_changeWas a_changeIs a_tape a_text a_names a_line a_row a_pastMany a_past a_changed a_greatest a_numbersWere a_told a_waysOf a_waysWere a_blocks a_ordersOf a_imageLine a_bodyKind a_trace a_shelf a_many a_items a_carried people keptMany done tapeMany textMany base at_ ends fault opened lineMany rowMany taller tallerBy pasts isKept imageMany bodies ran ownKind ownNumber r_50 fault_51 hg) hy_X12_wrong ml_X12_170 hd_X12_wrong ⟨by omega, by omega⟩ rfl [0] rfl rfl 0 rfl rfl (w_M_one G a_this a_height a_changeAt a_changeWas a_changeIs a_tape a_text a_names a_line a_row a_pastMany a_past a_changed a_greatest a_numbersWere a_told a_waysOf a_waysWere a_blocks a_ordersOf a_imageLine a_bodyKind a_trace a_shelf a_many a_items a_carried people keptMany done tapeMany textMany base at_ ends fault_51 opened lineMany rowMany taller tallerBy pasts isKept imageMany bodies ran ownKind ownNumber tape text names) [some 0, none, none, none] rfl (by decide +kernel) rfl rfl (Nat.le_of_ble_eq_true rfl) dX12_one_42 (fun hz_52 => ?_)
            have eq1 := Option.some.inj hf
            obtain ⟨ee1, eq2⟩ := Prod.mk.inj eq1
            obtain ⟨ee2, eq3⟩ := Prod.mk.inj eq2
            obtain ⟨ee3, ee4⟩ := Prod.mk.inj eq3
            subst ee1
            subst ee2
            subst ee3
            subst ee4
            exact z_iret F rfl rfl rfl rfl dX12_one_45
        · refine z_iload_n F 0 dX12_one_26 rfl rfl ?_
          refine z_bipush F (40) dX12_one_27 rfl ?_
          refine z_icmp_ne F 145 dX12_one_29 (by decide) hf (fun hf _ => ?_) (fun hf _ => ?_)
          · refine z_iload_n F 0 dX12_one_145 rfl rfl ?_
            refine z_callSm (rest := []) F (c_M_nameOf (xL X) G r_1 _ rfl) hy_X12_nameOf ml_X12_176 hd_X12_nameOf ⟨by omega, by omega⟩ rfl [] rfl rfl (w_M_one G a_this a_height a_changeAt a_changeWas a_changeIs a_tape a_text a_names a_line a_row a_pastMany a_past a_changed a_greatest a_numbersWere a_told a_waysOf a_waysWere a_blocks a_ordersOf a_imageLine a_bodyKind a_trace a_shelf a_many a_items a_carried people keptMany done tapeMany textMany base at_ ends fault opened lineMany rowMany taller tallerBy pasts isKept imageMany bodies ran ownKind ownNumber tape text names) [none, none, none, none] rfl (by decide +kernel) rfl rfl (Nat.le_of_ble_eq_true rfl) dX12_one_146 (fun hz_53 => ?_)
            refine z_istore_n F [(2, .int (f_M_nameOf r_1)), (1, .int r_1), (0, .ref a_this)] dX12_one_149 rfl (by decide) rfl ?_
            refine z_iload_n F 0 dX12_one_150 rfl rfl ?_
            refine z_if_lt F 171 dX12_one_151 (by decide) hf (fun hf _ => ?_) (fun hf _ => ?_)
            · refine z_iconst F (0) dX12_one_171 rfl ?_
              refine z_istore_n F [(3, .int 0), (2, .int (f_M_nameOf r_1)), (1, .int r_1), (0, .ref a_this)] dX12_one_172 rfl (by decide) rfl ?_
              refine z_iconst F (0) dX12_one_173 rfl ?_
              refine z_istore F [(4, .int 0), (3, .int 0), (2, .int (f_M_nameOf r_1)), (1, .int r_1), (0, .ref a_this)] dX12_one_174 (by decide) rfl ?_
              obtain ⟨at__60, v3_61, v4_62, hg, hf⟩ := zb3_some hf
              refine z_sub [4, 1, 0] rfl ?_
              refine l_M_one_176 G a_this a_height a_changeAt a_changeWas a_changeIs a_tape a_text a_names a_line a_row a_pastMany a_past a_changed a_greatest a_numbersWere a_told a_waysOf a_waysWere a_blocks a_ordersOf a_imageLine a_bodyKind a_trace a_shelf a_many a_items a_carried people keptMany done tapeMany textMany base ends fault opened lineMany rowMany taller tallerBy pasts isKept imageMany bodies ran ownKind ownNumber tape text names (by omega) (by omega) F at__60 v3_61 v4_62 ?_ FU at_ 0 0 hg
              refine z_iload F 2 dX12_one_229 rfl ?_
              refine z_if_ne F 241 dX12_one_231 (by decide) hf (fun hf _ => ?_) (fun hf _ => ?_)
              · refine z_iload_n F 1 dX12_one_241 rfl rfl ?_
                have eq1 := Option.some.inj hf
                obtain ⟨ee1, eq2⟩ := Prod.mk.inj eq1
                obtain ⟨ee2, eq3⟩ := Prod.mk.inj eq2
                obtain ⟨ee3, ee4⟩ := Prod.mk.inj eq3
                subst ee1
                subst ee2
                subst ee3
                subst ee4
                exact z_iret F rfl rfl rfl rfl dX12_one_242
              · refine z_aload_n F 0 dX12_one_234 rfl rfl ?_
                obtain ⟨r_63, fault_64, hg, hf⟩ := zb2_some hf
                refine z_callVm (rest := []) F 12 (c_M_wrong (xL X) G a_this a_height a_changeAt a_changeWas a_changeIs a_tape a_text a_names a_line a_row a_pastMany a_past a_changed a_greatest a_numbersWere a_told a_waysOf a_waysWere a_blocks a_ordersOf a_imageLine a_bodyKind a_trace a_shelf a_many a_items a_carried people keptMany done tapeMany textMany base at__60 ends fault opened lineMany rowMany taller tallerBy pasts isKept imageMany bodies ran ownKind ownNumber r_63 fault_64 hg) hy_X12_wrong ml_X12_170 hd_X12_wrong ⟨by omega, by omega⟩ rfl [0] rfl rfl 0 rfl rfl (w_M_one G a_this a_height a_changeAt a_changeWas a_changeIs a_tape a_text a_names a_line a_row a_pastMany a_past a_changed a_greatest a_numbersWere a_told a_waysOf a_waysWere a_blocks a_ordersOf a_imageLine a_bodyKind a_trace a_shelf a_many a_items a_carried people keptMany done tapeMany textMany base at__60 ends fault_64 opened lineMany rowMany taller tallerBy pasts isKept imageMany bodies ran ownKind ownNumber tape text names) [some 0, none, none, none] rfl (by decide +kernel) rfl rfl (Nat.le_of_ble_eq_true rfl) dX12_one_235 (fun hz_65 => ?_)
                refine z_goto F 242 dX12_one_238 (by decide) ?_
                have eq1 := Option.some.inj hf
                obtain ⟨ee1, eq2⟩ := Prod.mk.inj eq1
                obtain ⟨ee2, eq3⟩ := Prod.mk.inj eq2
                obtain ⟨ee3, ee4⟩ := Prod.mk.inj eq3
                subst ee1
                subst ee2
                subst ee3
                subst ee4
                exact z_iret F rfl rfl rfl rfl dX12_one_242
            · refine z_aload_n F 2 dX12_one_154 rfl rfl ?_
              refine z_dup F rfl dX12_one_155 ?_
              refine z_get F 0 12 12 inlX12 rfl rfl (by decide) fl_X12_133 rfl dX12_one_156 ?_
              refine z_iconst F (1) dX12_one_159 rfl ?_
              refine z_iadd F dX12_one_160 ?_
              refine z_put F 0 12 12 (w_M_one G a_this a_height a_changeAt a_changeWas a_changeIs a_tape a_text a_names a_line a_row a_pastMany a_past a_changed a_greatest a_numbersWere a_told a_waysOf a_waysWere a_blocks a_ordersOf a_imageLine a_bodyKind a_trace a_shelf a_many a_items a_carried people keptMany done tapeMany textMany base (at_ + (1 : Int32)) ends fault opened lineMany rowMany taller tallerBy pasts isKept imageMany bodies ran ownKind ownNumber tape text names) inlX12 tyX12 tyX12_ok nmX12 rfl rfl (by decide) fl_X12_133 rfl rfl rfl (Nat.le_of_ble_eq_true rfl) rfl dX12_one_161 ?_
              refine z_aload_n F 2 dX12_one_164 rfl rfl ?_
              refine z_get F 0 12 16 inlX12 rfl rfl (by decide) fl_X12_28 rfl dX12_one_165 ?_
              refine z_iload_n F 0 dX12_one_168 rfl rfl ?_
              refine z_iald F 3 rfl hf dX12_one_169 (fun v_66 hf => ?_)
              have eq1 := Option.some.inj hf
              obtain ⟨ee1, eq2⟩ := Prod.mk.inj eq1
              obtain ⟨ee2, eq3⟩ := Prod.mk.inj eq2
              obtain ⟨ee3, ee4⟩ := Prod.mk.inj eq3
              subst ee1
              subst ee2
              subst ee3
              subst ee4
              exact z_iret F rfl rfl rfl rfl dX12_one_170
          · refine z_aload_n F 1 dX12_one_32 rfl rfl ?_
            refine z_get F 0 12 15 inlX12 rfl rfl (by decide) fl_X12_167 rfl dX12_one_33 ?_
            refine z_bipush F (6) dX12_one_36 rfl ?_
            refine z_icmp_ne F 46 dX12_one_38 (by decide) hf (fun hf _ => ?_) (fun hf _ => ?_)
            · refine z_aload_n F 1 dX12_one_46 rfl rfl ?_
              refine z_dup F rfl dX12_one_47 ?_
              refine z_get F 0 12 15 inlX12 rfl rfl (by decide) fl_X12_167 rfl dX12_one_48 ?_
              refine z_iconst F (1) dX12_one_51 rfl ?_
              refine z_iadd F dX12_one_52 ?_
              refine z_put F 0 12 15 (w_M_one G a_this a_height a_changeAt a_changeWas a_changeIs a_tape a_text a_names a_line a_row a_pastMany a_past a_changed a_greatest a_numbersWere a_told a_waysOf a_waysWere a_blocks a_ordersOf a_imageLine a_bodyKind a_trace a_shelf a_many a_items a_carried people keptMany done tapeMany textMany base at_ ends fault (opened + (1 : Int32)) lineMany rowMany taller tallerBy pasts isKept imageMany bodies ran ownKind ownNumber tape text names) inlX12 tyX12 tyX12_ok nmX12 rfl rfl (by decide) fl_X12_167 rfl rfl rfl (Nat.le_of_ble_eq_true rfl) rfl dX12_one_53 ?_
              refine z_aload_n F 1 dX12_one_56 rfl rfl ?_
              refine z_dup F rfl dX12_one_57 ?_
              refine z_get F 0 12 12 inlX12 rfl rfl (by decide) fl_X12_133 rfl dX12_one_58 ?_
              refine z_iconst F (1) dX12_one_61 rfl ?_
              refine z_iadd F dX12_one_62 ?_
              refine z_put F 0 12 12 (w_M_one G a_this a_height a_changeAt a_changeWas a_changeIs a_tape a_text a_names a_line a_row a_pastMany a_past a_changed a_greatest a_numbersWere a_told a_waysOf a_waysWere a_blocks a_ordersOf a_imageLine a_bodyKind a_trace a_shelf a_many a_items a_carried people keptMany done tapeMany textMany base (at_ + (1 : Int32)) ends fault (opened + (1 : Int32)) lineMany rowMany taller tallerBy pasts isKept imageMany bodies ran ownKind ownNumber tape text names) inlX12 tyX12 tyX12_ok nmX12 rfl rfl (by decide) fl_X12_133 rfl rfl rfl (Nat.le_of_ble_eq_true rfl) rfl dX12_one_63 ?_
              refine z_iload_n F 0 dX12_one_66 rfl rfl ?_
              refine z_bipush F (40) dX12_one_67 rfl ?_
              refine z_icmp_ne F 79 dX12_one_69 (by decide) hf (fun hf _ => ?_) (fun hf _ => ?_)
              · refine z_aload_n F 1 dX12_one_79 rfl rfl ?_
                obtain ⟨r_67, at__68, fault_69, opened_70, hg, hf⟩ := zb4_some hf
                refine z_callVm (rest := []) F 12 (hrec people keptMany done tapeMany textMany base (at_ + (1 : Int32)) ends fault (opened + (1 : Int32)) lineMany rowMany taller tallerBy pasts isKept imageMany bodies ran ownKind ownNumber tape text names r_67 at__68 fault_69 opened_70 hg) hy_X12_one ml_X12_164 hd_X12_one ⟨by omega, by omega⟩ rfl [0, 1, 2, 3] rfl rfl 0 rfl rfl (w_M_one G a_this a_height a_changeAt a_changeWas a_changeIs a_tape a_text a_names a_line a_row a_pastMany a_past a_changed a_greatest a_numbersWere a_told a_waysOf a_waysWere a_blocks a_ordersOf a_imageLine a_bodyKind a_trace a_shelf a_many a_items a_carried people keptMany done tapeMany textMany base at__68 ends fault_69 opened_70 lineMany rowMany taller tallerBy pasts isKept imageMany bodies ran ownKind ownNumber tape text names) [some 0, some 1, some 2, some 3] rfl (by decide +kernel) rfl rfl (Nat.le_of_ble_eq_true rfl) dX12_one_80 (fun hz_71 => ?_)
                refine z_istore_n F [(2, .int r_67), (1, .int r_1), (0, .ref a_this)] dX12_one_83 rfl (by decide) rfl ?_
                refine z_iload_n F 1 dX12_one_84 rfl rfl ?_
                refine z_bipush F (40) dX12_one_85 rfl ?_
                refine z_icmp_ne F 104 dX12_one_87 (by decide) hf (fun hf _ => ?_) (fun hf _ => ?_)
                · refine z_aload_n F 2 dX12_one_104 rfl rfl ?_
                  refine z_dup F rfl dX12_one_105 ?_
                  refine z_get F 0 12 15 inlX12 rfl rfl (by decide) fl_X12_167 rfl dX12_one_106 ?_
                  refine z_iconst F (1) dX12_one_109 rfl ?_
                  refine z_isub F dX12_one_110 ?_
                  refine z_put F 0 12 15 (w_M_one G a_this a_height a_changeAt a_changeWas a_changeIs a_tape a_text a_names a_line a_row a_pastMany a_past a_changed a_greatest a_numbersWere a_told a_waysOf a_waysWere a_blocks a_ordersOf a_imageLine a_bodyKind a_trace a_shelf a_many a_items a_carried people keptMany done tapeMany textMany base at__68 ends fault_69 (opened_70 - (1 : Int32)) lineMany rowMany taller tallerBy pasts isKept imageMany bodies ran ownKind ownNumber tape text names) inlX12 tyX12 tyX12_ok nmX12 rfl rfl (by decide) fl_X12_167 rfl rfl rfl (Nat.le_of_ble_eq_true rfl) rfl dX12_one_111 ?_
                  refine z_iload_n F 1 dX12_one_114 rfl rfl ?_
                  refine z_bipush F (40) dX12_one_115 rfl ?_
                  refine z_icmp_ne F 124 dX12_one_117 (by decide) hf (fun hf _ => ?_) (fun hf _ => ?_)
                  · refine z_iload_n F 1 dX12_one_124 rfl rfl ?_
                    refine z_bipush F (45) dX12_one_125 rfl ?_
                    refine z_icmp_ne F 135 dX12_one_127 (by decide) hf (fun hf _ => ?_) (fun hf _ => ?_)
                    · refine z_iload_n F 0 dX12_one_135 rfl rfl ?_
                      refine z_if_ne F 143 dX12_one_136 (by decide) hf (fun hf _ => ?_) (fun hf _ => ?_)
                      · refine z_iconst F (0) dX12_one_143 rfl ?_
                        have eq1 := Option.some.inj hf
                        obtain ⟨ee1, eq2⟩ := Prod.mk.inj eq1
                        obtain ⟨ee2, eq3⟩ := Prod.mk.inj eq2
                        obtain ⟨ee3, ee4⟩ := Prod.mk.inj eq3
                        subst ee1
                        subst ee2
                        subst ee3
                        subst ee4
                        exact z_iret F rfl rfl rfl rfl dX12_one_144
                      · refine z_iconst F (1) dX12_one_139 rfl ?_
                        refine z_goto F 144 dX12_one_140 (by decide) ?_
                        have eq1 := Option.some.inj hf
                        obtain ⟨ee1, eq2⟩ := Prod.mk.inj eq1
                        obtain ⟨ee2, eq3⟩ := Prod.mk.inj eq2
                        obtain ⟨ee3, ee4⟩ := Prod.mk.inj eq3
                        subst ee1
                        subst ee2
                        subst ee3
                        subst ee4
                        exact z_iret F rfl rfl rfl rfl dX12_one_144
                    · refine z_iload_n F 0 dX12_one_130 rfl rfl ?_
                      refine z_ineg F dX12_one_131 ?_
                      refine z_goto F 144 dX12_one_132 (by decide) ?_
                      have eq1 := Option.some.inj hf
                      obtain ⟨ee1, eq2⟩ := Prod.mk.inj eq1
                      obtain ⟨ee2, eq3⟩ := Prod.mk.inj eq2
                      obtain ⟨ee3, ee4⟩ := Prod.mk.inj eq3
                      subst ee1
                      subst ee2
                      subst ee3
                      subst ee4
                      exact z_iret F rfl rfl rfl rfl dX12_one_144
                  · refine z_iload_n F 0 dX12_one_120 rfl rfl ?_
                    refine z_goto F 144 dX12_one_121 (by decide) ?_
                    have eq1 := Option.some.inj hf
                    obtain ⟨ee1, eq2⟩ := Prod.mk.inj eq1
                    obtain ⟨ee2, eq3⟩ := Prod.mk.inj eq2
                    obtain ⟨ee3, ee4⟩ := Prod.mk.inj eq3
                    subst ee1
                    subst ee2
                    subst ee3
                    subst ee4
                    exact z_iret F rfl rfl rfl rfl dX12_one_144
                · refine z_aload_n F 2 dX12_one_90 rfl rfl ?_
                  refine z_bipush F (41) dX12_one_91 rfl ?_
                  obtain ⟨r_72, at__73, hg, hf⟩ := zb2_some hf
                  refine z_callVm (rest := []) F 12 (c_M_takes (xL X) G a_this a_height a_changeAt a_changeWas a_changeIs a_tape a_text a_names a_line a_row a_pastMany a_past a_changed a_greatest a_numbersWere a_told a_waysOf a_waysWere a_blocks a_ordersOf a_imageLine a_bodyKind a_trace a_shelf a_many a_items a_carried people keptMany done tapeMany textMany base at__68 ends fault_69 opened_70 lineMany rowMany taller tallerBy pasts isKept imageMany bodies ran ownKind ownNumber tape text 41 r_72 at__73 hg) hy_X12_takes ml_X12_152 hd_X12_takes ⟨by omega, by omega⟩ rfl [0, 1, 2] rfl rfl 0 rfl rfl (w_M_one G a_this a_height a_changeAt a_changeWas a_changeIs a_tape a_text a_names a_line a_row a_pastMany a_past a_changed a_greatest a_numbersWere a_told a_waysOf a_waysWere a_blocks a_ordersOf a_imageLine a_bodyKind a_trace a_shelf a_many a_items a_carried people keptMany done tapeMany textMany base at__73 ends fault_69 opened_70 lineMany rowMany taller tallerBy pasts isKept imageMany bodies ran ownKind ownNumber tape text names) [some 0, some 1, some 2, none] rfl (by decide +kernel) rfl rfl (Nat.le_of_ble_eq_true rfl) dX12_one_93 (fun hz_74 => ?_)
                  refine z_if_ne F 104 dX12_one_96 (by decide) hf (fun hf _ => ?_) (fun hf _ => ?_)
                  · refine z_aload_n F 2 dX12_one_104 rfl rfl ?_
                    refine z_dup F rfl dX12_one_105 ?_
                    refine z_get F 0 12 15 inlX12 rfl rfl (by decide) fl_X12_167 rfl dX12_one_106 ?_
                    refine z_iconst F (1) dX12_one_109 rfl ?_
                    refine z_isub F dX12_one_110 ?_
                    refine z_put F 0 12 15 (w_M_one G a_this a_height a_changeAt a_changeWas a_changeIs a_tape a_text a_names a_line a_row a_pastMany a_past a_changed a_greatest a_numbersWere a_told a_waysOf a_waysWere a_blocks a_ordersOf a_imageLine a_bodyKind a_trace a_shelf a_many a_items a_carried people keptMany done tapeMany textMany base at__73 ends fault_69 (opened_70 - (1 : Int32)) lineMany rowMany taller tallerBy pasts isKept imageMany bodies ran ownKind ownNumber tape text names) inlX12 tyX12 tyX12_ok nmX12 rfl rfl (by decide) fl_X12_167 rfl rfl rfl (Nat.le_of_ble_eq_true rfl) rfl dX12_one_111 ?_
                    refine z_iload_n F 1 dX12_one_114 rfl rfl ?_
                    refine z_bipush F (40) dX12_one_115 rfl ?_
                    refine z_icmp_ne F 124 dX12_one_117 (by decide) hf (fun hf _ => ?_) (fun hf _ => ?_)
                    · refine z_iload_n F 1 dX12_one_124 rfl rfl ?_
                      refine z_bipush F (45) dX12_one_125 rfl ?_
                      refine z_icmp_ne F 135 dX12_one_127 (by decide) hf (fun hf _ => ?_) (fun hf _ => ?_)
                      · refine z_iload_n F 0 dX12_one_135 rfl rfl ?_
                        refine z_if_ne F 143 dX12_one_136 (by decide) hf (fun hf _ => ?_) (fun hf _ => ?_)
                        · refine z_iconst F (0) dX12_one_143 rfl ?_
                          have eq1 := Option.some.inj hf
                          obtain ⟨ee1, eq2⟩ := Prod.mk.inj eq1
                          obtain ⟨ee2, eq3⟩ := Prod.mk.inj eq2
                          obtain ⟨ee3, ee4⟩ := Prod.mk.inj eq3
                          subst ee1
                          subst ee2
                          subst ee3
                          subst ee4
                          exact z_iret F rfl rfl rfl rfl dX12_one_144
                        · refine z_iconst F (1) dX12_one_139 rfl ?_
                          refine z_goto F 144 dX12_one_140 (by decide) ?_
                          have eq1 := Option.some.inj hf
                          obtain ⟨ee1, eq2⟩ := Prod.mk.inj eq1
                          obtain ⟨ee2, eq3⟩ := Prod.mk.inj eq2
                          obtain ⟨ee3, ee4⟩ := Prod.mk.inj eq3
                          subst ee1
                          subst ee2
                          subst ee3
                          subst ee4
                          exact z_iret F rfl rfl rfl rfl dX12_one_144
                      · refine z_iload_n F 0 dX12_one_130 rfl rfl ?_
                        refine z_ineg F dX12_one_131 ?_
                        refine z_goto F 144 dX12_one_132 (by decide) ?_
                        have eq1 := Option.some.inj hf
                        obtain ⟨ee1, eq2⟩ := Prod.mk.inj eq1
                        obtain ⟨ee2, eq3⟩ := Prod.mk.inj eq2
                        obtain ⟨ee3, ee4⟩ := Prod.mk.inj eq3
                        subst ee1
                        subst ee2
                        subst ee3
                        subst ee4
                        exact z_iret F rfl rfl rfl rfl dX12_one_144
                    · refine z_iload_n F 0 dX12_one_120 rfl rfl ?_
                      refine z_goto F 144 dX12_one_121 (by decide) ?_
                      have eq1 := Option.some.inj hf
                      obtain ⟨ee1, eq2⟩ := Prod.mk.inj eq1
                      obtain ⟨ee2, eq3⟩ := Prod.mk.inj eq2
                      obtain ⟨ee3, ee4⟩ := Prod.mk.inj eq3
                      subst ee1
                      subst ee2
                      subst ee3
                      subst ee4
                      exact z_iret F rfl rfl rfl rfl dX12_one_144
                  · refine z_aload_n F 2 dX12_one_99 rfl rfl ?_
                    obtain ⟨r_75, fault_76, hg, hf⟩ := zb2_some hf
                    refine z_callVm (rest := []) F 12 (c_M_wrong (xL X) G a_this a_height a_changeAt a_changeWas a_changeIs a_tape a_text a_names a_line a_row a_pastMany a_past a_changed a_greatest a_numbersWere a_told a_waysOf a_waysWere a_blocks a_ordersOf a_imageLine a_bodyKind a_trace a_shelf a_many a_items a_carried people keptMany done tapeMany textMany base at__73 ends fault_69 opened_70 lineMany rowMany taller tallerBy pasts isKept imageMany bodies ran ownKind ownNumber r_75 fault_76 hg) hy_X12_wrong ml_X12_170 hd_X12_wrong ⟨by omega, by omega⟩ rfl [0] rfl rfl 0 rfl rfl (w_M_one G a_this a_height a_changeAt a_changeWas a_changeIs a_tape a_text a_names a_line a_row a_pastMany a_past a_changed a_greatest a_numbersWere a_told a_waysOf a_waysWere a_blocks a_ordersOf a_imageLine a_bodyKind a_trace a_shelf a_many a_items a_carried people keptMany done tapeMany textMany base at__73 ends fault_76 opened_70 lineMany rowMany taller tallerBy pasts isKept imageMany bodies ran ownKind ownNumber tape text names) [some 0, none, none, none] rfl (by decide +kernel) rfl rfl (Nat.le_of_ble_eq_true rfl) dX12_one_100 (fun hz_77 => ?_)
                    have eq1 := Option.some.inj hf
                    obtain ⟨ee1, eq2⟩ := Prod.mk.inj eq1
                    obtain ⟨ee2, eq3⟩ := Prod.mk.inj eq2
                    obtain ⟨ee3, ee4⟩ := Prod.mk.inj eq3
                    subst ee1
                    subst ee2
                    subst ee3
                    subst ee4
                    exact z_iret F rfl rfl rfl rfl dX12_one_103
              · refine z_aload_n F 1 dX12_one_72 rfl rfl ?_
                obtain ⟨r_78, at__79, fault_80, opened_81, hg, hf⟩ := zb4_some hf
                refine z_callVm (rest := []) F 12 (c_M_either (xL X) G a_this a_height a_changeAt a_changeWas a_changeIs a_tape a_text a_names a_line a_row a_pastMany a_past a_changed a_greatest a_numbersWere a_told a_waysOf a_waysWere a_blocks a_ordersOf a_imageLine a_bodyKind a_trace a_shelf a_many a_items a_carried people keptMany done tapeMany textMany base (at_ + (1 : Int32)) ends fault (opened + (1 : Int32)) lineMany rowMany taller tallerBy pasts isKept imageMany bodies ran ownKind ownNumber tape text names (f_M_one fuel) hrec r_78 at__79 fault_80 opened_81 hg) hy_X12_either ml_X12_173 hd_X12_either ⟨by omega, by omega⟩ rfl [0, 1, 2, 3] rfl rfl 0 rfl rfl (w_M_one G a_this a_height a_changeAt a_changeWas a_changeIs a_tape a_text a_names a_line a_row a_pastMany a_past a_changed a_greatest a_numbersWere a_told a_waysOf a_waysWere a_blocks a_ordersOf a_imageLine a_bodyKind a_trace a_shelf a_many a_items a_carried people keptMany done tapeMany textMany base at__79 ends fault_80 opened_81 lineMany rowMany taller tallerBy pasts isKept imageMany bodies ran ownKind ownNumber tape text names) [some 0, some 1, some 2, some 3] rfl (by decide +kernel) rfl rfl (Nat.le_of_ble_eq_true rfl) dX12_one_73 (fun hz_82 => ?_)
                refine z_goto F 83 dX12_one_76 (by decide) ?_
                refine z_istore_n F [(2, .int r_78), (1, .int r_1), (0, .ref a_this)] dX12_one_83 rfl (by decide) rfl ?_
                refine z_iload_n F 1 dX12_one_84 rfl rfl ?_
                refine z_bipush F (40) dX12_one_85 rfl ?_
                refine z_icmp_ne F 104 dX12_one_87 (by decide) hf (fun hf _ => ?_) (fun hf _ => ?_)
                · refine z_aload_n F 2 dX12_one_104 rfl rfl ?_
                  refine z_dup F rfl dX12_one_105 ?_
                  refine z_get F 0 12 15 inlX12 rfl rfl (by decide) fl_X12_167 rfl dX12_one_106 ?_
                  refine z_iconst F (1) dX12_one_109 rfl ?_
                  refine z_isub F dX12_one_110 ?_
                  refine z_put F 0 12 15 (w_M_one G a_this a_height a_changeAt a_changeWas a_changeIs a_tape a_text a_names a_line a_row a_pastMany a_past a_changed a_greatest a_numbersWere a_told a_waysOf a_waysWere a_blocks a_ordersOf a_imageLine a_bodyKind a_trace a_shelf a_many a_items a_carried people keptMany done tapeMany textMany base at__79 ends fault_80 (opened_81 - (1 : Int32)) lineMany rowMany taller tallerBy pasts isKept imageMany bodies ran ownKind ownNumber tape text names) inlX12 tyX12 tyX12_ok nmX12 rfl rfl (by decide) fl_X12_167 rfl rfl rfl (Nat.le_of_ble_eq_true rfl) rfl dX12_one_111 ?_
                  refine z_iload_n F 1 dX12_one_114 rfl rfl ?_
                  refine z_bipush F (40) dX12_one_115 rfl ?_
                  refine z_icmp_ne F 124 dX12_one_117 (by decide) hf (fun hf _ => ?_) (fun hf _ => ?_)
                  · refine z_iload_n F 1 dX12_one_124 rfl rfl ?_
                    refine z_bipush F (45) dX12_one_125 rfl ?_
                    refine z_icmp_ne F 135 dX12_one_127 (by decide) hf (fun hf _ => ?_) (fun hf _ => ?_)
                    · refine z_iload_n F 0 dX12_one_135 rfl rfl ?_
                      refine z_if_ne F 143 dX12_one_136 (by decide) hf (fun hf _ => ?_) (fun hf _ => ?_)
                      · refine z_iconst F (0) dX12_one_143 rfl ?_
                        have eq1 := Option.some.inj hf
                        obtain ⟨ee1, eq2⟩ := Prod.mk.inj eq1
                        obtain ⟨ee2, eq3⟩ := Prod.mk.inj eq2
                        obtain ⟨ee3, ee4⟩ := Prod.mk.inj eq3
                        subst ee1
                        subst ee2
                        subst ee3
                        subst ee4
                        exact z_iret F rfl rfl rfl rfl dX12_one_144
                      · refine z_iconst F (1) dX12_one_139 rfl ?_
                        refine z_goto F 144 dX12_one_140 (by decide) ?_
                        have eq1 := Option.some.inj hf
                        obtain ⟨ee1, eq2⟩ := Prod.mk.inj eq1
                        obtain ⟨ee2, eq3⟩ := Prod.mk.inj eq2
                        obtain ⟨ee3, ee4⟩ := Prod.mk.inj eq3
                        subst ee1
                        subst ee2
                        subst ee3
                        subst ee4
                        exact z_iret F rfl rfl rfl rfl dX12_one_144
                    · refine z_iload_n F 0 dX12_one_130 rfl rfl ?_
                      refine z_ineg F dX12_one_131 ?_
                      refine z_goto F 144 dX12_one_132 (by decide) ?_
                      have eq1 := Option.some.inj hf
                      obtain ⟨ee1, eq2⟩ := Prod.mk.inj eq1
                      obtain ⟨ee2, eq3⟩ := Prod.mk.inj eq2
                      obtain ⟨ee3, ee4⟩ := Prod.mk.inj eq3
                      subst ee1
                      subst ee2
                      subst ee3
                      subst ee4
                      exact z_iret F rfl rfl rfl rfl dX12_one_144
                  · refine z_iload_n F 0 dX12_one_120 rfl rfl ?_
                    refine z_goto F 144 dX12_one_121 (by decide) ?_
                    have eq1 := Option.some.inj hf
                    obtain ⟨ee1, eq2⟩ := Prod.mk.inj eq1
                    obtain ⟨ee2, eq3⟩ := Prod.mk.inj eq2
                    obtain ⟨ee3, ee4⟩ := Prod.mk.inj eq3
                    subst ee1
                    subst ee2
                    subst ee3
                    subst ee4
                    exact z_iret F rfl rfl rfl rfl dX12_one_144
                · refine z_aload_n F 2 dX12_one_90 rfl rfl ?_
                  refine z_bipush F (41) dX12_one_91 rfl ?_
                  obtain ⟨r_83, at__84, hg, hf⟩ := zb2_some hf
                  refine z_callVm (rest := []) F 12 (c_M_takes (xL X) G a_this a_height a_changeAt a_changeWas a_changeIs a_tape a_text a_names a_line a_row a_pastMany a_past a_changed a_greatest a_numbersWere a_told a_waysOf a_waysWere a_blocks a_ordersOf a_imageLine a_bodyKind a_trace a_shelf a_many a_items a_carried people keptMany done tapeMany textMany base at__79 ends fault_80 opened_81 lineMany rowMany taller tallerBy pasts isKept imageMany bodies ran ownKind ownNumber tape text 41 r_83 at__84 hg) hy_X12_takes ml_X12_152 hd_X12_takes ⟨by omega, by omega⟩ rfl [0, 1, 2] rfl rfl 0 rfl rfl (w_M_one G a_this a_height a_changeAt a_changeWas a_changeIs a_tape a_text a_names a_line a_row a_pastMany a_past a_changed a_greatest a_numbersWere a_told a_waysOf a_waysWere a_blocks a_ordersOf a_imageLine a_bodyKind a_trace a_shelf a_many a_items a_carried people keptMany done tapeMany textMany base at__84 ends fault_80 opened_81 lineMany rowMany taller tallerBy pasts isKept imageMany bodies ran ownKind ownNumber tape text names) [some 0, some 1, some 2, none] rfl (by decide +kernel) rfl rfl (Nat.le_of_ble_eq_true rfl) dX12_one_93 (fun hz_85 => ?_)
                  refine z_if_ne F 104 dX12_one_96 (by decide) hf (fun hf _ => ?_) (fun hf _ => ?_)
                  · refine z_aload_n F 2 dX12_one_104 rfl rfl ?_
                    refine z_dup F rfl dX12_one_105 ?_
                    refine z_get F 0 12 15 inlX12 rfl rfl (by decide) fl_X12_167 rfl dX12_one_106 ?_
                    refine z_iconst F (1) dX12_one_109 rfl ?_
                    refine z_isub F dX12_one_110 ?_
                    refine z_put F 0 12 15 (w_M_one G a_this a_height a_changeAt a_changeWas a_changeIs a_tape a_text a_names a_line a_row a_pastMany a_past a_changed a_greatest a_numbersWere a_told a_waysOf a_waysWere a_blocks a_ordersOf a_imageLine a_bodyKind a_trace a_shelf a_many a_items a_carried people keptMany done tapeMany textMany base at__84 ends fault_80 (opened_81 - (1 : Int32)) lineMany rowMany taller tallerBy pasts isKept imageMany bodies ran ownKind ownNumber tape text names) inlX12 tyX12 tyX12_ok nmX12 rfl rfl (by decide) fl_X12_167 rfl rfl rfl (Nat.le_of_ble_eq_true rfl) rfl dX12_one_111 ?_
                    refine z_iload_n F 1 dX12_one_114 rfl rfl ?_
                    refine z_bipush F (40) dX12_one_115 rfl ?_
                    refine z_icmp_ne F 124 dX12_one_117 (by decide) hf (fun hf _ => ?_) (fun hf _ => ?_)
                    · refine z_iload_n F 1 dX12_one_124 rfl rfl ?_
                      refine z_bipush F (45) dX12_one_125 rfl ?_
                      refine z_icmp_ne F 135 dX12_one_127 (by decide) hf (fun hf _ => ?_) (fun hf _ => ?_)
                      · refine z_iload_n F 0 dX12_one_135 rfl rfl ?_
                        refine z_if_ne F 143 dX12_one_136 (by decide) hf (fun hf _ => ?_) (fun hf _ => ?_)
                        · refine z_iconst F (0) dX12_one_143 rfl ?_
                          have eq1 := Option.some.inj hf
                          obtain ⟨ee1, eq2⟩ := Prod.mk.inj eq1
                          obtain ⟨ee2, eq3⟩ := Prod.mk.inj eq2
                          obtain ⟨ee3, ee4⟩ := Prod.mk.inj eq3
                          subst ee1
                          subst ee2
                          subst ee3
                          subst ee4
                          exact z_iret F rfl rfl rfl rfl dX12_one_144
                        · refine z_iconst F (1) dX12_one_139 rfl ?_
                          refine z_goto F 144 dX12_one_140 (by decide) ?_
                          have eq1 := Option.some.inj hf
                          obtain ⟨ee1, eq2⟩ := Prod.mk.inj eq1
                          obtain ⟨ee2, eq3⟩ := Prod.mk.inj eq2
                          obtain ⟨ee3, ee4⟩ := Prod.mk.inj eq3
                          subst ee1
                          subst ee2
                          subst ee3
                          subst ee4
                          exact z_iret F rfl rfl rfl rfl dX12_one_144
                      · refine z_iload_n F 0 dX12_one_130 rfl rfl ?_
                        refine z_ineg F dX12_one_131 ?_
                        refine z_goto F 144 dX12_one_132 (by decide) ?_
                        have eq1 := Option.some.inj hf
                        obtain ⟨ee1, eq2⟩ := Prod.mk.inj eq1
                        obtain ⟨ee2, eq3⟩ := Prod.mk.inj eq2
                        obtain ⟨ee3, ee4⟩ := Prod.mk.inj eq3
                        subst ee1
                        subst ee2
                        subst ee3
                        subst ee4
                        exact z_iret F rfl rfl rfl rfl dX12_one_144
                    · refine z_iload_n F 0 dX12_one_120 rfl rfl ?_
                      refine z_goto F 144 dX12_one_121 (by decide) ?_
                      have eq1 := Option.some.inj hf
                      obtain ⟨ee1, eq2⟩ := Prod.mk.inj eq1
                      obtain ⟨ee2, eq3⟩ := Prod.mk.inj eq2
                      obtain ⟨ee3, ee4⟩ := Prod.mk.inj eq3
                      subst ee1
                      subst ee2
                      subst ee3
                      subst ee4
                      exact z_iret F rfl rfl rfl rfl dX12_one_144
                  · refine z_aload_n F 2 dX12_one_99 rfl rfl ?_
                    obtain ⟨r_86, fault_87, hg, hf⟩ := zb2_some hf
                    refine z_callVm (rest := []) F 12 (c_M_wrong (xL X) G a_this a_height a_changeAt a_changeWas a_changeIs a_tape a_text a_names a_line a_row a_pastMany a_past a_changed a_greatest a_numbersWere a_told a_waysOf a_waysWere a_blocks a_ordersOf a_imageLine a_bodyKind a_trace a_shelf a_many a_items a_carried people keptMany done tapeMany textMany base at__84 ends fault_80 opened_81 lineMany rowMany taller tallerBy pasts isKept imageMany bodies ran ownKind ownNumber r_86 fault_87 hg) hy_X12_wrong ml_X12_170 hd_X12_wrong ⟨by omega, by omega⟩ rfl [0] rfl rfl 0 rfl rfl (w_M_one G a_this a_height a_changeAt a_changeWas a_changeIs a_tape a_text a_names a_line a_row a_pastMany a_past a_changed a_greatest a_numbersWere a_told a_waysOf a_waysWere a_blocks a_ordersOf a_imageLine a_bodyKind a_trace a_shelf a_many a_items a_carried people keptMany done tapeMany textMany base at__84 ends fault_87 opened_81 lineMany rowMany taller tallerBy pasts isKept imageMany bodies ran ownKind ownNumber tape text names) [some 0, none, none, none] rfl (by decide +kernel) rfl rfl (Nat.le_of_ble_eq_true rfl) dX12_one_100 (fun hz_88 => ?_)
                    have eq1 := Option.some.inj hf
                    obtain ⟨ee1, eq2⟩ := Prod.mk.inj eq1
                    obtain ⟨ee2, eq3⟩ := Prod.mk.inj eq2
                    obtain ⟨ee3, ee4⟩ := Prod.mk.inj eq3
                    subst ee1
                    subst ee2
                    subst ee3
                    subst ee4
                    exact z_iret F rfl rfl rfl rfl dX12_one_103
            · refine z_aload_n F 1 dX12_one_41 rfl rfl ?_
              obtain ⟨r_89, fault_90, hg, hf⟩ := zb2_some hf
              refine z_callVm (rest := []) F 12 (c_M_wrong (xL X) G a_this a_height a_changeAt a_changeWas a_changeIs a_tape a_text a_names a_line a_row a_pastMany a_past a_changed a_greatest a_numbersWere a_told a_waysOf a_waysWere a_blocks a_ordersOf a_imageLine a_bodyKind a_trace a_shelf a_many a_items a_carried people keptMany done tapeMany textMany base at_ ends fault opened lineMany rowMany taller tallerBy pasts isKept imageMany bodies ran ownKind ownNumber r_89 fault_90 hg) hy_X12_wrong ml_X12_170 hd_X12_wrong ⟨by omega, by omega⟩ rfl [0] rfl rfl 0 rfl rfl (w_M_one G a_this a_height a_changeAt a_changeWas a_changeIs a_tape a_text a_names a_line a_row a_pastMany a_past a_changed a_greatest a_numbersWere a_told a_waysOf a_waysWere a_blocks a_ordersOf a_imageLine a_bodyKind a_trace a_shelf a_many a_items a_carried people keptMany done tapeMany textMany base at_ ends fault_90 opened lineMany rowMany taller tallerBy pasts isKept imageMany bodies ran ownKind ownNumber tape text names) [some 0, none, none, none] rfl (by decide +kernel) rfl rfl (Nat.le_of_ble_eq_true rfl) dX12_one_42 (fun hz_91 => ?_)
              have eq1 := Option.some.inj hf
              obtain ⟨ee1, eq2⟩ := Prod.mk.inj eq1
              obtain ⟨ee2, eq3⟩ := Prod.mk.inj eq2
              obtain ⟨ee3, ee4⟩ := Prod.mk.inj eq3
              subst ee1
              subst ee2
              subst ee3
              subst ee4
              exact z_iret F rfl rfl rfl rfl dX12_one_45
    · refine z_iconst F (0) dX12_one_7 rfl ?_
      have eq1 := Option.some.inj hf
      obtain ⟨ee1, eq2⟩ := Prod.mk.inj eq1
      obtain ⟨ee2, eq3⟩ := Prod.mk.inj eq2
      obtain ⟨ee3, ee4⟩ := Prod.mk.inj eq3
      subst ee1
      subst ee2
      subst ee3
      subst ee4
      exact z_iret F rfl rfl rfl rfl dX12_one_8

