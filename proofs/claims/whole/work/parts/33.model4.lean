/-! by program (wip/whole/gen.py): pure functions and contracts -/
theorem dX12_ends1_0 : decode cX12_ends1 0 = .ok (.aload_n 0, 1) := by decide +kernel
theorem dX12_ends1_1 : decode cX12_ends1 1 = .ok (.aload_n 0, 1) := by decide +kernel
theorem dX12_ends1_2 : decode cX12_ends1 2 = .ok (.getfield 184, 3) := by decide +kernel
theorem dX12_ends1_5 : decode cX12_ends1 5 = .ok (.putfield 100, 3) := by decide +kernel
theorem dX12_ends1_8 : decode cX12_ends1 8 = .ok (.iconst 0, 1) := by decide +kernel
theorem dX12_ends1_9 : decode cX12_ends1 9 = .ok (.istore_n 1, 1) := by decide +kernel
theorem dX12_ends1_10 : decode cX12_ends1 10 = .ok (.iload_n 1, 1) := by decide +kernel
theorem dX12_ends1_11 : decode cX12_ends1 11 = .ok (.aload_n 0, 1) := by decide +kernel
theorem dX12_ends1_12 : decode cX12_ends1 12 = .ok (.getfield 184, 3) := by decide +kernel
theorem dX12_ends1_15 : decode cX12_ends1 15 = .ok (.if_icmp .ge 21, 3) := by decide +kernel
theorem dX12_ends1_18 : decode cX12_ends1 18 = .ok (.aload_n 0, 1) := by decide +kernel
theorem dX12_ends1_19 : decode cX12_ends1 19 = .ok (.getfield 31, 3) := by decide +kernel
theorem dX12_ends1_22 : decode cX12_ends1 22 = .ok (.iload_n 1, 1) := by decide +kernel
theorem dX12_ends1_23 : decode cX12_ends1 23 = .ok (.aload_n 0, 1) := by decide +kernel
theorem dX12_ends1_24 : decode cX12_ends1 24 = .ok (.getfield 34, 3) := by decide +kernel
theorem dX12_ends1_27 : decode cX12_ends1 27 = .ok (.iload_n 1, 1) := by decide +kernel
theorem dX12_ends1_28 : decode cX12_ends1 28 = .ok (.iaload, 1) := by decide +kernel
theorem dX12_ends1_29 : decode cX12_ends1 29 = .ok (.iastore, 1) := by decide +kernel
theorem dX12_ends1_30 : decode cX12_ends1 30 = .ok (.iinc 1 1, 3) := by decide +kernel
theorem dX12_ends1_33 : decode cX12_ends1 33 = .ok (.goto (-23), 3) := by decide +kernel
theorem dX12_ends1_36 : decode cX12_ends1 36 = .ok (.iconst 0, 1) := by decide +kernel
theorem dX12_ends1_37 : decode cX12_ends1 37 = .ok (.istore_n 1, 1) := by decide +kernel
theorem dX12_ends1_38 : decode cX12_ends1 38 = .ok (.iload_n 1, 1) := by decide +kernel
theorem dX12_ends1_39 : decode cX12_ends1 39 = .ok (.aload_n 0, 1) := by decide +kernel
theorem dX12_ends1_40 : decode cX12_ends1 40 = .ok (.getfield 100, 3) := by decide +kernel
theorem dX12_ends1_43 : decode cX12_ends1 43 = .ok (.if_icmp .ge 83, 3) := by decide +kernel
theorem dX12_ends1_46 : decode cX12_ends1 46 = .ok (.aload_n 0, 1) := by decide +kernel
theorem dX12_ends1_47 : decode cX12_ends1 47 = .ok (.getfield 31, 3) := by decide +kernel
theorem dX12_ends1_50 : decode cX12_ends1 50 = .ok (.iload_n 1, 1) := by decide +kernel
theorem dX12_ends1_51 : decode cX12_ends1 51 = .ok (.iaload, 1) := by decide +kernel
theorem dX12_ends1_52 : decode cX12_ends1 52 = .ok (.istore_n 2, 1) := by decide +kernel
theorem dX12_ends1_53 : decode cX12_ends1 53 = .ok (.aload_n 0, 1) := by decide +kernel
theorem dX12_ends1_54 : decode cX12_ends1 54 = .ok (.iload_n 1, 1) := by decide +kernel
theorem dX12_ends1_55 : decode cX12_ends1 55 = .ok (.invokevirtual 200, 3) := by decide +kernel
theorem dX12_ends1_58 : decode cX12_ends1 58 = .ok (.istore_n 3, 1) := by decide +kernel
theorem dX12_ends1_59 : decode cX12_ends1 59 = .ok (.aload_n 0, 1) := by decide +kernel
theorem dX12_ends1_60 : decode cX12_ends1 60 = .ok (.getfield 43, 3) := by decide +kernel
theorem dX12_ends1_63 : decode cX12_ends1 63 = .ok (.iload_n 2, 1) := by decide +kernel
theorem dX12_ends1_64 : decode cX12_ends1 64 = .ok (.dup2, 1) := by decide +kernel
theorem dX12_ends1_65 : decode cX12_ends1 65 = .ok (.iaload, 1) := by decide +kernel
theorem dX12_ends1_66 : decode cX12_ends1 66 = .ok (.aload_n 0, 1) := by decide +kernel
theorem dX12_ends1_67 : decode cX12_ends1 67 = .ok (.getfield 49, 3) := by decide +kernel
theorem dX12_ends1_70 : decode cX12_ends1 70 = .ok (.iload_n 2, 1) := by decide +kernel
theorem dX12_ends1_71 : decode cX12_ends1 71 = .ok (.iaload, 1) := by decide +kernel
theorem dX12_ends1_72 : decode cX12_ends1 72 = .ok (.bipush (-2), 2) := by decide +kernel
theorem dX12_ends1_74 : decode cX12_ends1 74 = .ok (.if_icmp .eq 17, 3) := by decide +kernel
theorem dX12_ends1_77 : decode cX12_ends1 77 = .ok (.aload_n 0, 1) := by decide +kernel
theorem dX12_ends1_78 : decode cX12_ends1 78 = .ok (.getfield 49, 3) := by decide +kernel
theorem dX12_ends1_81 : decode cX12_ends1 81 = .ok (.iload_n 2, 1) := by decide +kernel
theorem dX12_ends1_82 : decode cX12_ends1 82 = .ok (.iaload, 1) := by decide +kernel
theorem dX12_ends1_83 : decode cX12_ends1 83 = .ok (.iload_n 3, 1) := by decide +kernel
theorem dX12_ends1_84 : decode cX12_ends1 84 = .ok (.if_icmp .eq 7, 3) := by decide +kernel
theorem dX12_ends1_87 : decode cX12_ends1 87 = .ok (.iconst 1, 1) := by decide +kernel
theorem dX12_ends1_88 : decode cX12_ends1 88 = .ok (.goto 4, 3) := by decide +kernel
theorem dX12_ends1_91 : decode cX12_ends1 91 = .ok (.iconst 0, 1) := by decide +kernel
theorem dX12_ends1_92 : decode cX12_ends1 92 = .ok (.iadd, 1) := by decide +kernel
theorem dX12_ends1_93 : decode cX12_ends1 93 = .ok (.iastore, 1) := by decide +kernel
theorem dX12_ends1_94 : decode cX12_ends1 94 = .ok (.aload_n 0, 1) := by decide +kernel
theorem dX12_ends1_95 : decode cX12_ends1 95 = .ok (.getfield 46, 3) := by decide +kernel
theorem dX12_ends1_98 : decode cX12_ends1 98 = .ok (.iload_n 2, 1) := by decide +kernel
theorem dX12_ends1_99 : decode cX12_ends1 99 = .ok (.iload_n 3, 1) := by decide +kernel
theorem dX12_ends1_100 : decode cX12_ends1 100 = .ok (.aload_n 0, 1) := by decide +kernel
theorem dX12_ends1_101 : decode cX12_ends1 101 = .ok (.getfield 46, 3) := by decide +kernel
theorem dX12_ends1_104 : decode cX12_ends1 104 = .ok (.iload_n 2, 1) := by decide +kernel
theorem dX12_ends1_105 : decode cX12_ends1 105 = .ok (.iaload, 1) := by decide +kernel
theorem dX12_ends1_106 : decode cX12_ends1 106 = .ok (.if_icmp .le 7, 3) := by decide +kernel
theorem dX12_ends1_109 : decode cX12_ends1 109 = .ok (.iload_n 3, 1) := by decide +kernel
theorem dX12_ends1_110 : decode cX12_ends1 110 = .ok (.goto 9, 3) := by decide +kernel
theorem dX12_ends1_113 : decode cX12_ends1 113 = .ok (.aload_n 0, 1) := by decide +kernel
theorem dX12_ends1_114 : decode cX12_ends1 114 = .ok (.getfield 46, 3) := by decide +kernel
theorem dX12_ends1_117 : decode cX12_ends1 117 = .ok (.iload_n 2, 1) := by decide +kernel
theorem dX12_ends1_118 : decode cX12_ends1 118 = .ok (.iaload, 1) := by decide +kernel
theorem dX12_ends1_119 : decode cX12_ends1 119 = .ok (.iastore, 1) := by decide +kernel
theorem dX12_ends1_120 : decode cX12_ends1 120 = .ok (.iinc 1 1, 3) := by decide +kernel
theorem dX12_ends1_123 : decode cX12_ends1 123 = .ok (.goto (-85), 3) := by decide +kernel
theorem dX12_ends1_126 : decode cX12_ends1 126 = .ok (.return_, 1) := by decide +kernel
theorem dX12_swap_0 : decode cX12_swap 0 = .ok (.iload_n 1, 1) := by decide +kernel
theorem dX12_swap_1 : decode cX12_swap 1 = .ok (.i2l, 1) := by decide +kernel
theorem dX12_swap_2 : decode cX12_swap 2 = .ok (.lconst 0, 1) := by decide +kernel
theorem dX12_swap_3 : decode cX12_swap 3 = .ok (.aload_n 0, 1) := by decide +kernel
theorem dX12_swap_4 : decode cX12_swap 4 = .ok (.getfield 100, 3) := by decide +kernel
theorem dX12_swap_7 : decode cX12_swap 7 = .ok (.iconst 2, 1) := by decide +kernel
theorem dX12_swap_8 : decode cX12_swap 8 = .ok (.isub, 1) := by decide +kernel
theorem dX12_swap_9 : decode cX12_swap 9 = .ok (.i2l, 1) := by decide +kernel
theorem dX12_swap_10 : decode cX12_swap 10 = .ok (.invokestatic 96, 3) := by decide +kernel
theorem dX12_swap_13 : decode cX12_swap 13 = .ok (.ifCond .ne 5, 3) := by decide +kernel
theorem dX12_swap_16 : decode cX12_swap 16 = .ok (.iconst (-1), 1) := by decide +kernel
theorem dX12_swap_17 : decode cX12_swap 17 = .ok (.ireturn, 1) := by decide +kernel
theorem dX12_swap_18 : decode cX12_swap 18 = .ok (.aload_n 0, 1) := by decide +kernel
theorem dX12_swap_19 : decode cX12_swap 19 = .ok (.invokevirtual 245, 3) := by decide +kernel
theorem dX12_swap_22 : decode cX12_swap 22 = .ok (.aload_n 0, 1) := by decide +kernel
theorem dX12_swap_23 : decode cX12_swap 23 = .ok (.iload_n 1, 1) := by decide +kernel
theorem dX12_swap_24 : decode cX12_swap 24 = .ok (.iload_n 1, 1) := by decide +kernel
theorem dX12_swap_25 : decode cX12_swap 25 = .ok (.iconst 1, 1) := by decide +kernel
theorem dX12_swap_26 : decode cX12_swap 26 = .ok (.iadd, 1) := by decide +kernel
theorem dX12_swap_27 : decode cX12_swap 27 = .ok (.invokevirtual 248, 3) := by decide +kernel
theorem dX12_swap_30 : decode cX12_swap 30 = .ok (.aload_n 0, 1) := by decide +kernel
theorem dX12_swap_31 : decode cX12_swap 31 = .ok (.invokevirtual 252, 3) := by decide +kernel
theorem dX12_swap_34 : decode cX12_swap 34 = .ok (.aload_n 0, 1) := by decide +kernel
theorem dX12_swap_35 : decode cX12_swap 35 = .ok (.invokevirtual 206, 3) := by decide +kernel
theorem dX12_swap_38 : decode cX12_swap 38 = .ok (.ireturn, 1) := by decide +kernel
theorem dX12_enter_0 : decode cX12_enter 0 = .ok (.aload_n 0, 1) := by decide +kernel
theorem dX12_enter_1 : decode cX12_enter 1 = .ok (.iload_n 1, 1) := by decide +kernel
theorem dX12_enter_2 : decode cX12_enter 2 = .ok (.invokevirtual 119, 3) := by decide +kernel
theorem dX12_enter_5 : decode cX12_enter 5 = .ok (.ifCond .eq 17, 3) := by decide +kernel
theorem dX12_enter_8 : decode cX12_enter 8 = .ok (.iload_n 2, 1) := by decide +kernel
theorem dX12_enter_9 : decode cX12_enter 9 = .ok (.i2l, 1) := by decide +kernel
theorem dX12_enter_10 : decode cX12_enter 10 = .ok (.lconst 0, 1) := by decide +kernel
theorem dX12_enter_11 : decode cX12_enter 11 = .ok (.aload_n 0, 1) := by decide +kernel
theorem dX12_enter_12 : decode cX12_enter 12 = .ok (.getfield 100, 3) := by decide +kernel
theorem dX12_enter_15 : decode cX12_enter 15 = .ok (.i2l, 1) := by decide +kernel
theorem dX12_enter_16 : decode cX12_enter 16 = .ok (.invokestatic 96, 3) := by decide +kernel
theorem dX12_enter_19 : decode cX12_enter 19 = .ok (.ifCond .ne 5, 3) := by decide +kernel
theorem dX12_enter_22 : decode cX12_enter 22 = .ok (.iconst (-1), 1) := by decide +kernel
theorem dX12_enter_23 : decode cX12_enter 23 = .ok (.ireturn, 1) := by decide +kernel
theorem dX12_enter_24 : decode cX12_enter 24 = .ok (.aload_n 0, 1) := by decide +kernel
theorem dX12_enter_25 : decode cX12_enter 25 = .ok (.iload_n 1, 1) := by decide +kernel
theorem dX12_enter_26 : decode cX12_enter 26 = .ok (.invokevirtual 224, 3) := by decide +kernel
theorem dX12_enter_29 : decode cX12_enter 29 = .ok (.ifCond .lt 6, 3) := by decide +kernel
theorem dX12_enter_32 : decode cX12_enter 32 = .ok (.bipush (-5), 2) := by decide +kernel
theorem dX12_enter_34 : decode cX12_enter 34 = .ok (.ireturn, 1) := by decide +kernel
theorem dX12_enter_35 : decode cX12_enter 35 = .ok (.aload_n 0, 1) := by decide +kernel
theorem dX12_enter_36 : decode cX12_enter 36 = .ok (.invokevirtual 245, 3) := by decide +kernel
theorem dX12_enter_39 : decode cX12_enter 39 = .ok (.aload_n 0, 1) := by decide +kernel
theorem dX12_enter_40 : decode cX12_enter 40 = .ok (.iload_n 1, 1) := by decide +kernel
theorem dX12_enter_41 : decode cX12_enter 41 = .ok (.iload_n 2, 1) := by decide +kernel
theorem dX12_enter_42 : decode cX12_enter 42 = .ok (.invokevirtual 255, 3) := by decide +kernel
theorem dX12_enter_45 : decode cX12_enter 45 = .ok (.aload_n 0, 1) := by decide +kernel
theorem dX12_enter_46 : decode cX12_enter 46 = .ok (.invokevirtual 252, 3) := by decide +kernel
theorem dX12_enter_49 : decode cX12_enter 49 = .ok (.aload_n 0, 1) := by decide +kernel
theorem dX12_enter_50 : decode cX12_enter 50 = .ok (.invokevirtual 206, 3) := by decide +kernel
theorem dX12_enter_53 : decode cX12_enter 53 = .ok (.ireturn, 1) := by decide +kernel
theorem dX12_leave_0 : decode cX12_leave 0 = .ok (.aload_n 0, 1) := by decide +kernel
theorem dX12_leave_1 : decode cX12_leave 1 = .ok (.iload_n 1, 1) := by decide +kernel
theorem dX12_leave_2 : decode cX12_leave 2 = .ok (.invokevirtual 239, 3) := by decide +kernel
theorem dX12_leave_5 : decode cX12_leave 5 = .ok (.ifCond .ne 5, 3) := by decide +kernel
theorem dX12_leave_8 : decode cX12_leave 8 = .ok (.iconst (-1), 1) := by decide +kernel
theorem dX12_leave_9 : decode cX12_leave 9 = .ok (.ireturn, 1) := by decide +kernel
theorem dX12_leave_10 : decode cX12_leave 10 = .ok (.aload_n 0, 1) := by decide +kernel
theorem dX12_leave_11 : decode cX12_leave 11 = .ok (.invokevirtual 245, 3) := by decide +kernel
theorem dX12_leave_14 : decode cX12_leave 14 = .ok (.aload_n 0, 1) := by decide +kernel
theorem dX12_leave_15 : decode cX12_leave 15 = .ok (.getfield 34, 3) := by decide +kernel
theorem dX12_leave_18 : decode cX12_leave 18 = .ok (.iload_n 1, 1) := by decide +kernel
theorem dX12_leave_19 : decode cX12_leave 19 = .ok (.iaload, 1) := by decide +kernel
theorem dX12_leave_20 : decode cX12_leave 20 = .ok (.istore_n 2, 1) := by decide +kernel
theorem dX12_leave_21 : decode cX12_leave 21 = .ok (.aload_n 0, 1) := by decide +kernel
theorem dX12_leave_22 : decode cX12_leave 22 = .ok (.iload_n 1, 1) := by decide +kernel
theorem dX12_leave_23 : decode cX12_leave 23 = .ok (.invokevirtual 212, 3) := by decide +kernel
theorem dX12_leave_26 : decode cX12_leave 26 = .ok (.aload_n 0, 1) := by decide +kernel
theorem dX12_leave_27 : decode cX12_leave 27 = .ok (.invokevirtual 252, 3) := by decide +kernel
theorem dX12_leave_30 : decode cX12_leave 30 = .ok (.iload_n 2, 1) := by decide +kernel
theorem dX12_leave_31 : decode cX12_leave 31 = .ok (.ireturn, 1) := by decide +kernel
theorem dX12_serve_0 : decode cX12_serve 0 = .ok (.aload_n 0, 1) := by decide +kernel
theorem dX12_serve_1 : decode cX12_serve 1 = .ok (.getfield 100, 3) := by decide +kernel
theorem dX12_serve_4 : decode cX12_serve 4 = .ok (.ifCond .ne 8, 3) := by decide +kernel
theorem dX12_serve_7 : decode cX12_serve 7 = .ok (.bipush (-5), 2) := by decide +kernel
theorem dX12_serve_9 : decode cX12_serve 9 = .ok (.goto 8, 3) := by decide +kernel
theorem dX12_serve_12 : decode cX12_serve 12 = .ok (.aload_n 0, 1) := by decide +kernel
theorem dX12_serve_13 : decode cX12_serve 13 = .ok (.iconst 0, 1) := by decide +kernel
theorem dX12_serve_14 : decode cX12_serve 14 = .ok (.invokevirtual 258, 3) := by decide +kernel
theorem dX12_serve_17 : decode cX12_serve 17 = .ok (.ireturn, 1) := by decide +kernel
theorem dX12_grow_0 : decode cX12_grow 0 = .ok (.aload_n 0, 1) := by decide +kernel
theorem dX12_grow_1 : decode cX12_grow 1 = .ok (.iload_n 1, 1) := by decide +kernel
theorem dX12_grow_2 : decode cX12_grow 2 = .ok (.invokevirtual 119, 3) := by decide +kernel
theorem dX12_grow_5 : decode cX12_grow 5 = .ok (.ifCond .eq 15, 3) := by decide +kernel
theorem dX12_grow_8 : decode cX12_grow 8 = .ok (.iload_n 2, 1) := by decide +kernel
theorem dX12_grow_9 : decode cX12_grow 9 = .ok (.i2l, 1) := by decide +kernel
theorem dX12_grow_10 : decode cX12_grow 10 = .ok (.lconst 1, 1) := by decide +kernel
theorem dX12_grow_11 : decode cX12_grow 11 = .ok (.ldc2_w 261, 3) := by decide +kernel
theorem dX12_grow_14 : decode cX12_grow 14 = .ok (.invokestatic 96, 3) := by decide +kernel
theorem dX12_grow_17 : decode cX12_grow 17 = .ok (.ifCond .ne 5, 3) := by decide +kernel
theorem dX12_grow_20 : decode cX12_grow 20 = .ok (.iconst (-1), 1) := by decide +kernel
theorem dX12_grow_21 : decode cX12_grow 21 = .ok (.ireturn, 1) := by decide +kernel
theorem dX12_grow_22 : decode cX12_grow 22 = .ok (.aload_n 0, 1) := by decide +kernel
theorem dX12_grow_23 : decode cX12_grow 23 = .ok (.getfield 9, 3) := by decide +kernel
theorem dX12_grow_26 : decode cX12_grow 26 = .ok (.iload_n 1, 1) := by decide +kernel
theorem dX12_grow_27 : decode cX12_grow 27 = .ok (.iaload, 1) := by decide +kernel
theorem dX12_grow_28 : decode cX12_grow 28 = .ok (.iload_n 2, 1) := by decide +kernel
theorem dX12_grow_29 : decode cX12_grow 29 = .ok (.iadd, 1) := by decide +kernel
theorem dX12_grow_30 : decode cX12_grow 30 = .ok (.istore_n 3, 1) := by decide +kernel
theorem dX12_grow_31 : decode cX12_grow 31 = .ok (.aload_n 0, 1) := by decide +kernel
theorem dX12_grow_32 : decode cX12_grow 32 = .ok (.iload_n 1, 1) := by decide +kernel
theorem dX12_grow_33 : decode cX12_grow 33 = .ok (.iload_n 3, 1) := by decide +kernel
theorem dX12_grow_34 : decode cX12_grow 34 = .ok (.i2l, 1) := by decide +kernel
theorem dX12_grow_35 : decode cX12_grow 35 = .ok (.invokevirtual 105, 3) := by decide +kernel
theorem dX12_grow_38 : decode cX12_grow 38 = .ok (.ifCond .eq 9, 3) := by decide +kernel
theorem dX12_grow_41 : decode cX12_grow 41 = .ok (.iinc 3 1, 3) := by decide +kernel
theorem dX12_grow_44 : decode cX12_grow 44 = .ok (.goto (-13), 3) := by decide +kernel
theorem dX12_grow_47 : decode cX12_grow 47 = .ok (.iload_n 3, 1) := by decide +kernel
theorem dX12_grow_48 : decode cX12_grow 48 = .ok (.bipush 99, 2) := by decide +kernel
theorem dX12_grow_50 : decode cX12_grow 50 = .ok (.if_icmp .le 5, 3) := by decide +kernel
theorem dX12_grow_53 : decode cX12_grow 53 = .ok (.iconst (-1), 1) := by decide +kernel
theorem dX12_grow_54 : decode cX12_grow 54 = .ok (.ireturn, 1) := by decide +kernel
theorem dX12_grow_55 : decode cX12_grow 55 = .ok (.aload_n 0, 1) := by decide +kernel
theorem dX12_grow_56 : decode cX12_grow 56 = .ok (.invokevirtual 245, 3) := by decide +kernel
theorem dX12_grow_59 : decode cX12_grow 59 = .ok (.aload_n 0, 1) := by decide +kernel
theorem dX12_grow_60 : decode cX12_grow 60 = .ok (.getfield 9, 3) := by decide +kernel
theorem dX12_grow_63 : decode cX12_grow 63 = .ok (.iload_n 1, 1) := by decide +kernel
theorem dX12_grow_64 : decode cX12_grow 64 = .ok (.iload_n 3, 1) := by decide +kernel
theorem dX12_grow_65 : decode cX12_grow 65 = .ok (.iastore, 1) := by decide +kernel
theorem dX12_grow_66 : decode cX12_grow 66 = .ok (.aload_n 0, 1) := by decide +kernel
theorem dX12_grow_67 : decode cX12_grow 67 = .ok (.invokevirtual 252, 3) := by decide +kernel
theorem dX12_grow_70 : decode cX12_grow 70 = .ok (.iload_n 3, 1) := by decide +kernel
theorem dX12_grow_71 : decode cX12_grow 71 = .ok (.ireturn, 1) := by decide +kernel
theorem dX12_was_0 : decode cX12_was 0 = .ok (.iload_n 1, 1) := by decide +kernel
theorem dX12_was_1 : decode cX12_was 1 = .ok (.i2l, 1) := by decide +kernel
theorem dX12_was_2 : decode cX12_was 2 = .ok (.lconst 1, 1) := by decide +kernel
theorem dX12_was_3 : decode cX12_was 3 = .ok (.aload_n 0, 1) := by decide +kernel
theorem dX12_was_4 : decode cX12_was 4 = .ok (.getfield 242, 3) := by decide +kernel
theorem dX12_was_7 : decode cX12_was 7 = .ok (.i2l, 1) := by decide +kernel
theorem dX12_was_8 : decode cX12_was 8 = .ok (.invokestatic 96, 3) := by decide +kernel
theorem dX12_was_11 : decode cX12_was 11 = .ok (.ifCond .eq 26, 3) := by decide +kernel
theorem dX12_was_14 : decode cX12_was 14 = .ok (.iload_n 2, 1) := by decide +kernel
theorem dX12_was_15 : decode cX12_was 15 = .ok (.i2l, 1) := by decide +kernel
theorem dX12_was_16 : decode cX12_was 16 = .ok (.lconst 0, 1) := by decide +kernel
theorem dX12_was_17 : decode cX12_was 17 = .ok (.aload_n 0, 1) := by decide +kernel
theorem dX12_was_18 : decode cX12_was 18 = .ok (.getfield 37, 3) := by decide +kernel
theorem dX12_was_21 : decode cX12_was 21 = .ok (.aload_n 0, 1) := by decide +kernel
theorem dX12_was_22 : decode cX12_was 22 = .ok (.getfield 242, 3) := by decide +kernel
theorem dX12_was_25 : decode cX12_was 25 = .ok (.iload_n 1, 1) := by decide +kernel
theorem dX12_was_26 : decode cX12_was 26 = .ok (.isub, 1) := by decide +kernel
theorem dX12_was_27 : decode cX12_was 27 = .ok (.iaload, 1) := by decide +kernel
theorem dX12_was_28 : decode cX12_was 28 = .ok (.iconst 1, 1) := by decide +kernel
theorem dX12_was_29 : decode cX12_was 29 = .ok (.isub, 1) := by decide +kernel
theorem dX12_was_30 : decode cX12_was 30 = .ok (.i2l, 1) := by decide +kernel
theorem dX12_was_31 : decode cX12_was 31 = .ok (.invokestatic 96, 3) := by decide +kernel
theorem dX12_was_34 : decode cX12_was 34 = .ok (.ifCond .ne 5, 3) := by decide +kernel
theorem dX12_was_37 : decode cX12_was 37 = .ok (.iconst (-1), 1) := by decide +kernel
theorem dX12_was_38 : decode cX12_was 38 = .ok (.ireturn, 1) := by decide +kernel
theorem dX12_was_39 : decode cX12_was 39 = .ok (.aload_n 0, 1) := by decide +kernel
theorem dX12_was_40 : decode cX12_was 40 = .ok (.getfield 40, 3) := by decide +kernel
theorem dX12_was_43 : decode cX12_was 43 = .ok (.bipush 9, 2) := by decide +kernel
theorem dX12_was_45 : decode cX12_was 45 = .ok (.aload_n 0, 1) := by decide +kernel
theorem dX12_was_46 : decode cX12_was 46 = .ok (.getfield 242, 3) := by decide +kernel
theorem dX12_was_49 : decode cX12_was 49 = .ok (.iload_n 1, 1) := by decide +kernel
theorem dX12_was_50 : decode cX12_was 50 = .ok (.isub, 1) := by decide +kernel
theorem dX12_was_51 : decode cX12_was 51 = .ok (.imul, 1) := by decide +kernel
theorem dX12_was_52 : decode cX12_was 52 = .ok (.iload_n 2, 1) := by decide +kernel
theorem dX12_was_53 : decode cX12_was 53 = .ok (.iadd, 1) := by decide +kernel
theorem dX12_was_54 : decode cX12_was 54 = .ok (.iaload, 1) := by decide +kernel
theorem dX12_was_55 : decode cX12_was 55 = .ok (.ireturn, 1) := by decide +kernel
theorem dX12_again_0 : decode cX12_again 0 = .ok (.iload_n 1, 1) := by decide +kernel
theorem dX12_again_1 : decode cX12_again 1 = .ok (.i2l, 1) := by decide +kernel
theorem dX12_again_2 : decode cX12_again 2 = .ok (.lconst 1, 1) := by decide +kernel
theorem dX12_again_3 : decode cX12_again 3 = .ok (.aload_n 0, 1) := by decide +kernel
theorem dX12_again_4 : decode cX12_again 4 = .ok (.getfield 242, 3) := by decide +kernel
theorem dX12_again_7 : decode cX12_again 7 = .ok (.i2l, 1) := by decide +kernel
theorem dX12_again_8 : decode cX12_again 8 = .ok (.invokestatic 96, 3) := by decide +kernel
theorem dX12_again_11 : decode cX12_again 11 = .ok (.ifCond .ne 5, 3) := by decide +kernel
theorem dX12_again_14 : decode cX12_again 14 = .ok (.iconst (-1), 1) := by decide +kernel
theorem dX12_again_15 : decode cX12_again 15 = .ok (.ireturn, 1) := by decide +kernel
theorem dX12_again_16 : decode cX12_again 16 = .ok (.aload_n 0, 1) := by decide +kernel
theorem dX12_again_17 : decode cX12_again 17 = .ok (.dup, 1) := by decide +kernel
theorem dX12_again_18 : decode cX12_again 18 = .ok (.getfield 242, 3) := by decide +kernel
theorem dX12_again_21 : decode cX12_again 21 = .ok (.iload_n 1, 1) := by decide +kernel
theorem dX12_again_22 : decode cX12_again 22 = .ok (.isub, 1) := by decide +kernel
theorem dX12_again_23 : decode cX12_again 23 = .ok (.putfield 242, 3) := by decide +kernel
theorem dX12_again_26 : decode cX12_again 26 = .ok (.aload_n 0, 1) := by decide +kernel
theorem dX12_again_27 : decode cX12_again 27 = .ok (.aload_n 0, 1) := by decide +kernel
theorem dX12_again_28 : decode cX12_again 28 = .ok (.getfield 37, 3) := by decide +kernel
theorem dX12_again_31 : decode cX12_again 31 = .ok (.aload_n 0, 1) := by decide +kernel
theorem dX12_again_32 : decode cX12_again 32 = .ok (.getfield 242, 3) := by decide +kernel
theorem dX12_again_35 : decode cX12_again 35 = .ok (.iaload, 1) := by decide +kernel
theorem dX12_again_36 : decode cX12_again 36 = .ok (.putfield 100, 3) := by decide +kernel
theorem dX12_again_39 : decode cX12_again 39 = .ok (.iconst 0, 1) := by decide +kernel
theorem dX12_again_40 : decode cX12_again 40 = .ok (.istore_n 2, 1) := by decide +kernel
theorem dX12_again_41 : decode cX12_again 41 = .ok (.iload_n 2, 1) := by decide +kernel
theorem dX12_again_42 : decode cX12_again 42 = .ok (.aload_n 0, 1) := by decide +kernel
theorem dX12_again_43 : decode cX12_again 43 = .ok (.getfield 100, 3) := by decide +kernel
theorem dX12_again_46 : decode cX12_again 46 = .ok (.if_icmp .ge 29, 3) := by decide +kernel
theorem dX12_again_49 : decode cX12_again 49 = .ok (.aload_n 0, 1) := by decide +kernel
theorem dX12_again_50 : decode cX12_again 50 = .ok (.getfield 31, 3) := by decide +kernel
theorem dX12_again_53 : decode cX12_again 53 = .ok (.iload_n 2, 1) := by decide +kernel
theorem dX12_again_54 : decode cX12_again 54 = .ok (.aload_n 0, 1) := by decide +kernel
theorem dX12_again_55 : decode cX12_again 55 = .ok (.getfield 40, 3) := by decide +kernel
theorem dX12_again_58 : decode cX12_again 58 = .ok (.bipush 9, 2) := by decide +kernel
theorem dX12_again_60 : decode cX12_again 60 = .ok (.aload_n 0, 1) := by decide +kernel
theorem dX12_again_61 : decode cX12_again 61 = .ok (.getfield 242, 3) := by decide +kernel
theorem dX12_again_64 : decode cX12_again 64 = .ok (.imul, 1) := by decide +kernel
theorem dX12_again_65 : decode cX12_again 65 = .ok (.iload_n 2, 1) := by decide +kernel
theorem dX12_again_66 : decode cX12_again 66 = .ok (.iadd, 1) := by decide +kernel
theorem dX12_again_67 : decode cX12_again 67 = .ok (.iaload, 1) := by decide +kernel
theorem dX12_again_68 : decode cX12_again 68 = .ok (.iastore, 1) := by decide +kernel
theorem dX12_again_69 : decode cX12_again 69 = .ok (.iinc 2 1, 3) := by decide +kernel
theorem dX12_again_72 : decode cX12_again 72 = .ok (.goto (-31), 3) := by decide +kernel
theorem dX12_again_75 : decode cX12_again 75 = .ok (.aload_n 0, 1) := by decide +kernel
theorem dX12_again_76 : decode cX12_again 76 = .ok (.getfield 242, 3) := by decide +kernel
theorem dX12_again_79 : decode cX12_again 79 = .ok (.ireturn, 1) := by decide +kernel
theorem dX12_bookIs_0 : decode cX12_bookIs 0 = .ok (.iload_n 1, 1) := by decide +kernel
theorem dX12_bookIs_1 : decode cX12_bookIs 1 = .ok (.invokestatic 113, 3) := by decide +kernel
theorem dX12_bookIs_4 : decode cX12_bookIs 4 = .ok (.ifCond .ne 7, 3) := by decide +kernel
theorem dX12_bookIs_7 : decode cX12_bookIs 7 = .ok (.iconst (-1), 1) := by decide +kernel
theorem dX12_bookIs_8 : decode cX12_bookIs 8 = .ok (.goto 34, 3) := by decide +kernel
theorem dX12_bookIs_11 : decode cX12_bookIs 11 = .ok (.aload_n 0, 1) := by decide +kernel
theorem dX12_bookIs_12 : decode cX12_bookIs 12 = .ok (.getfield 76, 3) := by decide +kernel
theorem dX12_bookIs_15 : decode cX12_bookIs 15 = .ok (.iload_n 1, 1) := by decide +kernel
theorem dX12_bookIs_16 : decode cX12_bookIs 16 = .ok (.iaload, 1) := by decide +kernel
theorem dX12_bookIs_17 : decode cX12_bookIs 17 = .ok (.ifCond .ge 8, 3) := by decide +kernel
theorem dX12_bookIs_20 : decode cX12_bookIs 20 = .ok (.bipush (-11), 2) := by decide +kernel
theorem dX12_bookIs_22 : decode cX12_bookIs 22 = .ok (.goto 20, 3) := by decide +kernel
theorem dX12_bookIs_25 : decode cX12_bookIs 25 = .ok (.aload_n 0, 1) := by decide +kernel
theorem dX12_bookIs_26 : decode cX12_bookIs 26 = .ok (.getfield 76, 3) := by decide +kernel
theorem dX12_bookIs_29 : decode cX12_bookIs 29 = .ok (.iload_n 1, 1) := by decide +kernel
theorem dX12_bookIs_30 : decode cX12_bookIs 30 = .ok (.iaload, 1) := by decide +kernel
theorem dX12_bookIs_31 : decode cX12_bookIs 31 = .ok (.bipush 50, 2) := by decide +kernel
theorem dX12_bookIs_33 : decode cX12_bookIs 33 = .ok (.if_icmp .ne 7, 3) := by decide +kernel
theorem dX12_bookIs_36 : decode cX12_bookIs 36 = .ok (.iconst 1, 1) := by decide +kernel
theorem dX12_bookIs_37 : decode cX12_bookIs 37 = .ok (.goto 5, 3) := by decide +kernel
theorem dX12_bookIs_40 : decode cX12_bookIs 40 = .ok (.bipush (-12), 2) := by decide +kernel
theorem dX12_bookIs_42 : decode cX12_bookIs 42 = .ok (.ireturn, 1) := by decide +kernel
theorem dX12_falseAt_0 : decode cX12_falseAt 0 = .ok (.iconst 0, 1) := by decide +kernel
theorem dX12_falseAt_1 : decode cX12_falseAt 1 = .ok (.istore_n 2, 1) := by decide +kernel
theorem dX12_falseAt_2 : decode cX12_falseAt 2 = .ok (.iload_n 2, 1) := by decide +kernel
theorem dX12_falseAt_3 : decode cX12_falseAt 3 = .ok (.aload_n 0, 1) := by decide +kernel
theorem dX12_falseAt_4 : decode cX12_falseAt 4 = .ok (.getfield 100, 3) := by decide +kernel
theorem dX12_falseAt_7 : decode cX12_falseAt 7 = .ok (.if_icmp .ge 43, 3) := by decide +kernel
theorem dX12_falseAt_10 : decode cX12_falseAt 10 = .ok (.iload_n 2, 1) := by decide +kernel
theorem dX12_falseAt_11 : decode cX12_falseAt 11 = .ok (.aload_n 0, 1) := by decide +kernel
theorem dX12_falseAt_12 : decode cX12_falseAt 12 = .ok (.getfield 79, 3) := by decide +kernel
theorem dX12_falseAt_15 : decode cX12_falseAt 15 = .ok (.iload_n 1, 1) := by decide +kernel
theorem dX12_falseAt_16 : decode cX12_falseAt 16 = .ok (.iaload, 1) := by decide +kernel
theorem dX12_falseAt_17 : decode cX12_falseAt 17 = .ok (.if_icmp .ge 33, 3) := by decide +kernel
theorem dX12_falseAt_20 : decode cX12_falseAt 20 = .ok (.aload_n 0, 1) := by decide +kernel
theorem dX12_falseAt_21 : decode cX12_falseAt 21 = .ok (.getfield 82, 3) := by decide +kernel
theorem dX12_falseAt_24 : decode cX12_falseAt 24 = .ok (.bipush 60, 2) := by decide +kernel
theorem dX12_falseAt_26 : decode cX12_falseAt 26 = .ok (.iload_n 1, 1) := by decide +kernel
theorem dX12_falseAt_27 : decode cX12_falseAt 27 = .ok (.imul, 1) := by decide +kernel
theorem dX12_falseAt_28 : decode cX12_falseAt 28 = .ok (.iload_n 2, 1) := by decide +kernel
theorem dX12_falseAt_29 : decode cX12_falseAt 29 = .ok (.iadd, 1) := by decide +kernel
theorem dX12_falseAt_30 : decode cX12_falseAt 30 = .ok (.laload, 1) := by decide +kernel
theorem dX12_falseAt_31 : decode cX12_falseAt 31 = .ok (.ldc2_w 263, 3) := by decide +kernel
theorem dX12_falseAt_34 : decode cX12_falseAt 34 = .ok (.iload_n 2, 1) := by decide +kernel
theorem dX12_falseAt_35 : decode cX12_falseAt 35 = .ok (.i2l, 1) := by decide +kernel
theorem dX12_falseAt_36 : decode cX12_falseAt 36 = .ok (.invokestatic 96, 3) := by decide +kernel
theorem dX12_falseAt_39 : decode cX12_falseAt 39 = .ok (.ifCond .ne 5, 3) := by decide +kernel
theorem dX12_falseAt_42 : decode cX12_falseAt 42 = .ok (.iload_n 2, 1) := by decide +kernel
theorem dX12_falseAt_43 : decode cX12_falseAt 43 = .ok (.ireturn, 1) := by decide +kernel
theorem dX12_falseAt_44 : decode cX12_falseAt 44 = .ok (.iinc 2 1, 3) := by decide +kernel
theorem dX12_falseAt_47 : decode cX12_falseAt 47 = .ok (.goto (-45), 3) := by decide +kernel
theorem dX12_falseAt_50 : decode cX12_falseAt 50 = .ok (.bipush (-2), 2) := by decide +kernel
theorem dX12_falseAt_52 : decode cX12_falseAt 52 = .ok (.ireturn, 1) := by decide +kernel
theorem dX12_book_0 : decode cX12_book 0 = .ok (.iload_n 2, 1) := by decide +kernel
theorem dX12_book_1 : decode cX12_book 1 = .ok (.i2l, 1) := by decide +kernel
theorem dX12_book_2 : decode cX12_book 2 = .ok (.lconst 0, 1) := by decide +kernel
theorem dX12_book_3 : decode cX12_book 3 = .ok (.lconst 1, 1) := by decide +kernel
theorem dX12_book_4 : decode cX12_book 4 = .ok (.invokestatic 96, 3) := by decide +kernel
theorem dX12_book_7 : decode cX12_book 7 = .ok (.ifCond .ne 5, 3) := by decide +kernel
theorem dX12_book_10 : decode cX12_book 10 = .ok (.iconst (-1), 1) := by decide +kernel
theorem dX12_book_11 : decode cX12_book 11 = .ok (.ireturn, 1) := by decide +kernel
theorem dX12_book_12 : decode cX12_book 12 = .ok (.aload_n 0, 1) := by decide +kernel
theorem dX12_book_13 : decode cX12_book 13 = .ok (.iload_n 1, 1) := by decide +kernel
theorem dX12_book_14 : decode cX12_book 14 = .ok (.invokevirtual 265, 3) := by decide +kernel
theorem dX12_book_17 : decode cX12_book 17 = .ok (.ifCond .ge 9, 3) := by decide +kernel
theorem dX12_book_20 : decode cX12_book 20 = .ok (.aload_n 0, 1) := by decide +kernel
theorem dX12_book_21 : decode cX12_book 21 = .ok (.iload_n 1, 1) := by decide +kernel
theorem dX12_book_22 : decode cX12_book 22 = .ok (.invokevirtual 265, 3) := by decide +kernel
theorem dX12_book_25 : decode cX12_book 25 = .ok (.ireturn, 1) := by decide +kernel
theorem dX12_book_26 : decode cX12_book 26 = .ok (.iload_n 2, 1) := by decide +kernel
theorem dX12_book_27 : decode cX12_book 27 = .ok (.ifCond .ne 9, 3) := by decide +kernel
theorem dX12_book_30 : decode cX12_book 30 = .ok (.aload_n 0, 1) := by decide +kernel
theorem dX12_book_31 : decode cX12_book 31 = .ok (.iload_n 1, 1) := by decide +kernel
theorem dX12_book_32 : decode cX12_book 32 = .ok (.invokevirtual 268, 3) := by decide +kernel
theorem dX12_book_35 : decode cX12_book 35 = .ok (.ireturn, 1) := by decide +kernel
theorem dX12_book_36 : decode cX12_book 36 = .ok (.aload_n 0, 1) := by decide +kernel
theorem dX12_book_37 : decode cX12_book 37 = .ok (.invokevirtual 203, 3) := by decide +kernel
theorem dX12_book_40 : decode cX12_book 40 = .ok (.iconst 0, 1) := by decide +kernel
theorem dX12_book_41 : decode cX12_book 41 = .ok (.istore_n 3, 1) := by decide +kernel
theorem dX12_book_42 : decode cX12_book 42 = .ok (.iload_n 3, 1) := by decide +kernel
theorem dX12_book_43 : decode cX12_book 43 = .ok (.aload_n 0, 1) := by decide +kernel
theorem dX12_book_44 : decode cX12_book 44 = .ok (.getfield 100, 3) := by decide +kernel
theorem dX12_book_47 : decode cX12_book 47 = .ok (.if_icmp .ge 55, 3) := by decide +kernel
theorem dX12_book_50 : decode cX12_book 50 = .ok (.iload_n 3, 1) := by decide +kernel
theorem dX12_book_51 : decode cX12_book 51 = .ok (.aload_n 0, 1) := by decide +kernel
theorem dX12_book_52 : decode cX12_book 52 = .ok (.getfield 79, 3) := by decide +kernel
theorem dX12_book_55 : decode cX12_book 55 = .ok (.iload_n 1, 1) := by decide +kernel
theorem dX12_book_56 : decode cX12_book 56 = .ok (.iaload, 1) := by decide +kernel
theorem dX12_book_57 : decode cX12_book 57 = .ok (.if_icmp .ge 45, 3) := by decide +kernel
theorem dX12_book_60 : decode cX12_book 60 = .ok (.aload_n 0, 1) := by decide +kernel
theorem dX12_book_61 : decode cX12_book 61 = .ok (.getfield 82, 3) := by decide +kernel
theorem dX12_book_64 : decode cX12_book 64 = .ok (.bipush 60, 2) := by decide +kernel
theorem dX12_book_66 : decode cX12_book 66 = .ok (.iload_n 1, 1) := by decide +kernel
theorem dX12_book_67 : decode cX12_book 67 = .ok (.imul, 1) := by decide +kernel
theorem dX12_book_68 : decode cX12_book 68 = .ok (.iload_n 3, 1) := by decide +kernel
theorem dX12_book_69 : decode cX12_book 69 = .ok (.iadd, 1) := by decide +kernel
theorem dX12_book_70 : decode cX12_book 70 = .ok (.laload, 1) := by decide +kernel
theorem dX12_book_71 : decode cX12_book 71 = .ok (.lstore 4, 2) := by decide +kernel
theorem dX12_book_73 : decode cX12_book 73 = .ok (.lload 4, 2) := by decide +kernel
theorem dX12_book_75 : decode cX12_book 75 = .ok (.ldc2_w 263, 3) := by decide +kernel
theorem dX12_book_78 : decode cX12_book 78 = .ok (.lcmp, 1) := by decide +kernel
theorem dX12_book_79 : decode cX12_book 79 = .ok (.ifCond .eq 17, 3) := by decide +kernel
theorem dX12_book_82 : decode cX12_book 82 = .ok (.lload 4, 2) := by decide +kernel
theorem dX12_book_84 : decode cX12_book 84 = .ok (.aload_n 0, 1) := by decide +kernel
theorem dX12_book_85 : decode cX12_book 85 = .ok (.iload_n 3, 1) := by decide +kernel
theorem dX12_book_86 : decode cX12_book 86 = .ok (.invokevirtual 200, 3) := by decide +kernel
theorem dX12_book_89 : decode cX12_book 89 = .ok (.i2l, 1) := by decide +kernel
theorem dX12_book_90 : decode cX12_book 90 = .ok (.lcmp, 1) := by decide +kernel
theorem dX12_book_91 : decode cX12_book 91 = .ok (.ifCond .eq 5, 3) := by decide +kernel
theorem dX12_book_94 : decode cX12_book 94 = .ok (.iload_n 3, 1) := by decide +kernel
theorem dX12_book_95 : decode cX12_book 95 = .ok (.ireturn, 1) := by decide +kernel
theorem dX12_book_96 : decode cX12_book 96 = .ok (.iinc 3 1, 3) := by decide +kernel
theorem dX12_book_99 : decode cX12_book 99 = .ok (.goto (-57), 3) := by decide +kernel
theorem dX12_book_102 : decode cX12_book 102 = .ok (.bipush (-2), 2) := by decide +kernel
theorem dX12_book_104 : decode cX12_book 104 = .ok (.ireturn, 1) := by decide +kernel
theorem dX12_tallerIn_0 : decode cX12_tallerIn 0 = .ok (.iconst 0, 1) := by decide +kernel
theorem dX12_tallerIn_1 : decode cX12_tallerIn 1 = .ok (.istore_n 3, 1) := by decide +kernel
theorem dX12_tallerIn_2 : decode cX12_tallerIn 2 = .ok (.iconst 0, 1) := by decide +kernel
theorem dX12_tallerIn_3 : decode cX12_tallerIn 3 = .ok (.istore 4, 2) := by decide +kernel
theorem dX12_tallerIn_5 : decode cX12_tallerIn 5 = .ok (.iload 4, 2) := by decide +kernel
theorem dX12_tallerIn_7 : decode cX12_tallerIn 7 = .ok (.aload_n 0, 1) := by decide +kernel
theorem dX12_tallerIn_8 : decode cX12_tallerIn 8 = .ok (.getfield 93, 3) := by decide +kernel
theorem dX12_tallerIn_11 : decode cX12_tallerIn 11 = .ok (.if_icmp .ge 42, 3) := by decide +kernel
theorem dX12_tallerIn_14 : decode cX12_tallerIn 14 = .ok (.iload_n 3, 1) := by decide +kernel
theorem dX12_tallerIn_15 : decode cX12_tallerIn 15 = .ok (.iload_n 1, 1) := by decide +kernel
theorem dX12_tallerIn_16 : decode cX12_tallerIn 16 = .ok (.iload 4, 2) := by decide +kernel
theorem dX12_tallerIn_18 : decode cX12_tallerIn 18 = .ok (.invokestatic 271, 3) := by decide +kernel
theorem dX12_tallerIn_21 : decode cX12_tallerIn 21 = .ok (.ifCond .eq 23, 3) := by decide +kernel
theorem dX12_tallerIn_24 : decode cX12_tallerIn 24 = .ok (.aload_n 0, 1) := by decide +kernel
theorem dX12_tallerIn_25 : decode cX12_tallerIn 25 = .ok (.getfield 9, 3) := by decide +kernel
theorem dX12_tallerIn_28 : decode cX12_tallerIn 28 = .ok (.iload 4, 2) := by decide +kernel
theorem dX12_tallerIn_30 : decode cX12_tallerIn 30 = .ok (.iaload, 1) := by decide +kernel
theorem dX12_tallerIn_31 : decode cX12_tallerIn 31 = .ok (.aload_n 0, 1) := by decide +kernel
theorem dX12_tallerIn_32 : decode cX12_tallerIn 32 = .ok (.getfield 9, 3) := by decide +kernel
theorem dX12_tallerIn_35 : decode cX12_tallerIn 35 = .ok (.iload_n 2, 1) := by decide +kernel
theorem dX12_tallerIn_36 : decode cX12_tallerIn 36 = .ok (.iaload, 1) := by decide +kernel
theorem dX12_tallerIn_37 : decode cX12_tallerIn 37 = .ok (.if_icmp .le 7, 3) := by decide +kernel
theorem dX12_tallerIn_40 : decode cX12_tallerIn 40 = .ok (.iconst 1, 1) := by decide +kernel
theorem dX12_tallerIn_41 : decode cX12_tallerIn 41 = .ok (.goto 4, 3) := by decide +kernel
theorem dX12_tallerIn_44 : decode cX12_tallerIn 44 = .ok (.iconst 0, 1) := by decide +kernel
theorem dX12_tallerIn_45 : decode cX12_tallerIn 45 = .ok (.iadd, 1) := by decide +kernel
theorem dX12_tallerIn_46 : decode cX12_tallerIn 46 = .ok (.istore_n 3, 1) := by decide +kernel
theorem dX12_tallerIn_47 : decode cX12_tallerIn 47 = .ok (.iinc 4 1, 3) := by decide +kernel
theorem dX12_tallerIn_50 : decode cX12_tallerIn 50 = .ok (.goto (-45), 3) := by decide +kernel
theorem dX12_tallerIn_53 : decode cX12_tallerIn 53 = .ok (.iload_n 3, 1) := by decide +kernel
theorem dX12_tallerIn_54 : decode cX12_tallerIn 54 = .ok (.ireturn, 1) := by decide +kernel
theorem dX12_restores_0 : decode cX12_restores 0 = .ok (.iconst 0, 1) := by decide +kernel
theorem dX12_restores_1 : decode cX12_restores 1 = .ok (.istore_n 1, 1) := by decide +kernel
theorem dX12_restores_2 : decode cX12_restores 2 = .ok (.iconst 0, 1) := by decide +kernel
theorem dX12_restores_3 : decode cX12_restores 3 = .ok (.istore_n 2, 1) := by decide +kernel
theorem dX12_restores_4 : decode cX12_restores 4 = .ok (.iload_n 2, 1) := by decide +kernel
theorem dX12_restores_5 : decode cX12_restores 5 = .ok (.aload_n 0, 1) := by decide +kernel
theorem dX12_restores_6 : decode cX12_restores 6 = .ok (.getfield 100, 3) := by decide +kernel
theorem dX12_restores_9 : decode cX12_restores 9 = .ok (.if_icmp .ge 20, 3) := by decide +kernel
theorem dX12_restores_12 : decode cX12_restores 12 = .ok (.iload_n 1, 1) := by decide +kernel
theorem dX12_restores_13 : decode cX12_restores 13 = .ok (.iconst 1, 1) := by decide +kernel
theorem dX12_restores_14 : decode cX12_restores 14 = .ok (.aload_n 0, 1) := by decide +kernel
theorem dX12_restores_15 : decode cX12_restores 15 = .ok (.getfield 31, 3) := by decide +kernel
theorem dX12_restores_18 : decode cX12_restores 18 = .ok (.iload_n 2, 1) := by decide +kernel
theorem dX12_restores_19 : decode cX12_restores 19 = .ok (.iaload, 1) := by decide +kernel
theorem dX12_restores_20 : decode cX12_restores 20 = .ok (.ishl, 1) := by decide +kernel
theorem dX12_restores_21 : decode cX12_restores 21 = .ok (.ior, 1) := by decide +kernel
theorem dX12_restores_22 : decode cX12_restores 22 = .ok (.istore_n 1, 1) := by decide +kernel
theorem dX12_restores_23 : decode cX12_restores 23 = .ok (.iinc 2 1, 3) := by decide +kernel
theorem dX12_restores_26 : decode cX12_restores 26 = .ok (.goto (-22), 3) := by decide +kernel
theorem dX12_restores_29 : decode cX12_restores 29 = .ok (.aload_n 0, 1) := by decide +kernel
theorem dX12_restores_30 : decode cX12_restores 30 = .ok (.aload_n 0, 1) := by decide +kernel
theorem dX12_restores_31 : decode cX12_restores 31 = .ok (.getfield 100, 3) := by decide +kernel
theorem dX12_restores_34 : decode cX12_restores 34 = .ok (.putfield 184, 3) := by decide +kernel
theorem dX12_restores_37 : decode cX12_restores 37 = .ok (.aload_n 0, 1) := by decide +kernel
theorem dX12_restores_38 : decode cX12_restores 38 = .ok (.iconst (-1), 1) := by decide +kernel
theorem dX12_restores_39 : decode cX12_restores 39 = .ok (.putfield 187, 3) := by decide +kernel
theorem dX12_restores_42 : decode cX12_restores 42 = .ok (.aload_n 0, 1) := by decide +kernel
theorem dX12_restores_43 : decode cX12_restores 43 = .ok (.getfield 100, 3) := by decide +kernel
theorem dX12_restores_46 : decode cX12_restores 46 = .ok (.iconst 1, 1) := by decide +kernel
theorem dX12_restores_47 : decode cX12_restores 47 = .ok (.isub, 1) := by decide +kernel
theorem dX12_restores_48 : decode cX12_restores 48 = .ok (.istore_n 2, 1) := by decide +kernel
theorem dX12_restores_49 : decode cX12_restores 49 = .ok (.iload_n 2, 1) := by decide +kernel
theorem dX12_restores_50 : decode cX12_restores 50 = .ok (.ifCond .lt 76, 3) := by decide +kernel
theorem dX12_restores_53 : decode cX12_restores 53 = .ok (.iconst (-1), 1) := by decide +kernel
theorem dX12_restores_54 : decode cX12_restores 54 = .ok (.istore_n 3, 1) := by decide +kernel
theorem dX12_restores_55 : decode cX12_restores 55 = .ok (.iconst 0, 1) := by decide +kernel
theorem dX12_restores_56 : decode cX12_restores 56 = .ok (.istore 4, 2) := by decide +kernel
theorem dX12_restores_58 : decode cX12_restores 58 = .ok (.iload 4, 2) := by decide +kernel
theorem dX12_restores_60 : decode cX12_restores 60 = .ok (.aload_n 0, 1) := by decide +kernel
theorem dX12_restores_61 : decode cX12_restores 61 = .ok (.getfield 93, 3) := by decide +kernel
theorem dX12_restores_64 : decode cX12_restores 64 = .ok (.if_icmp .ge 41, 3) := by decide +kernel
theorem dX12_restores_67 : decode cX12_restores 67 = .ok (.iload_n 1, 1) := by decide +kernel
theorem dX12_restores_68 : decode cX12_restores 68 = .ok (.iload 4, 2) := by decide +kernel
theorem dX12_restores_70 : decode cX12_restores 70 = .ok (.invokestatic 271, 3) := by decide +kernel
theorem dX12_restores_73 : decode cX12_restores 73 = .ok (.ifCond .eq 24, 3) := by decide +kernel
theorem dX12_restores_76 : decode cX12_restores 76 = .ok (.aload_n 0, 1) := by decide +kernel
theorem dX12_restores_77 : decode cX12_restores 77 = .ok (.iload_n 1, 1) := by decide +kernel
theorem dX12_restores_78 : decode cX12_restores 78 = .ok (.iload 4, 2) := by decide +kernel
theorem dX12_restores_80 : decode cX12_restores 80 = .ok (.invokevirtual 275, 3) := by decide +kernel
theorem dX12_restores_83 : decode cX12_restores 83 = .ok (.aload_n 0, 1) := by decide +kernel
theorem dX12_restores_84 : decode cX12_restores 84 = .ok (.getfield 52, 3) := by decide +kernel
theorem dX12_restores_87 : decode cX12_restores 87 = .ok (.iload_n 2, 1) := by decide +kernel
theorem dX12_restores_88 : decode cX12_restores 88 = .ok (.iaload, 1) := by decide +kernel
theorem dX12_restores_89 : decode cX12_restores 89 = .ok (.if_icmp .ne 8, 3) := by decide +kernel
theorem dX12_restores_92 : decode cX12_restores 92 = .ok (.iload 4, 2) := by decide +kernel
theorem dX12_restores_94 : decode cX12_restores 94 = .ok (.goto 4, 3) := by decide +kernel
theorem dX12_restores_97 : decode cX12_restores 97 = .ok (.iload_n 3, 1) := by decide +kernel
theorem dX12_restores_98 : decode cX12_restores 98 = .ok (.istore_n 3, 1) := by decide +kernel
theorem dX12_restores_99 : decode cX12_restores 99 = .ok (.iinc 4 1, 3) := by decide +kernel
theorem dX12_restores_102 : decode cX12_restores 102 = .ok (.goto (-44), 3) := by decide +kernel
theorem dX12_restores_105 : decode cX12_restores 105 = .ok (.aload_n 0, 1) := by decide +kernel
theorem dX12_restores_106 : decode cX12_restores 106 = .ok (.getfield 34, 3) := by decide +kernel
theorem dX12_restores_109 : decode cX12_restores 109 = .ok (.iload_n 2, 1) := by decide +kernel
theorem dX12_restores_110 : decode cX12_restores 110 = .ok (.iload_n 3, 1) := by decide +kernel
theorem dX12_restores_111 : decode cX12_restores 111 = .ok (.iastore, 1) := by decide +kernel
theorem dX12_restores_112 : decode cX12_restores 112 = .ok (.iload_n 1, 1) := by decide +kernel
theorem dX12_restores_113 : decode cX12_restores 113 = .ok (.iconst 1, 1) := by decide +kernel
theorem dX12_restores_114 : decode cX12_restores 114 = .ok (.iload_n 3, 1) := by decide +kernel
theorem dX12_restores_115 : decode cX12_restores 115 = .ok (.ishl, 1) := by decide +kernel
theorem dX12_restores_116 : decode cX12_restores 116 = .ok (.iconst (-1), 1) := by decide +kernel
theorem dX12_restores_117 : decode cX12_restores 117 = .ok (.ixor, 1) := by decide +kernel
theorem dX12_restores_118 : decode cX12_restores 118 = .ok (.iand, 1) := by decide +kernel
theorem dX12_restores_119 : decode cX12_restores 119 = .ok (.istore_n 1, 1) := by decide +kernel
theorem dX12_restores_120 : decode cX12_restores 120 = .ok (.iinc 2 (-1), 3) := by decide +kernel
theorem dX12_restores_123 : decode cX12_restores 123 = .ok (.goto (-74), 3) := by decide +kernel
theorem dX12_restores_126 : decode cX12_restores 126 = .ok (.return_, 1) := by decide +kernel
theorem dX12_smearedIn_0 : decode cX12_smearedIn 0 = .ok (.iconst 0, 1) := by decide +kernel
theorem dX12_smearedIn_1 : decode cX12_smearedIn 1 = .ok (.istore_n 2, 1) := by decide +kernel
theorem dX12_smearedIn_2 : decode cX12_smearedIn 2 = .ok (.iconst 0, 1) := by decide +kernel
theorem dX12_smearedIn_3 : decode cX12_smearedIn 3 = .ok (.istore_n 3, 1) := by decide +kernel
theorem dX12_smearedIn_4 : decode cX12_smearedIn 4 = .ok (.iload_n 3, 1) := by decide +kernel
theorem dX12_smearedIn_5 : decode cX12_smearedIn 5 = .ok (.aload_n 0, 1) := by decide +kernel
theorem dX12_smearedIn_6 : decode cX12_smearedIn 6 = .ok (.getfield 100, 3) := by decide +kernel
theorem dX12_smearedIn_9 : decode cX12_smearedIn 9 = .ok (.if_icmp .ge 44, 3) := by decide +kernel
theorem dX12_smearedIn_12 : decode cX12_smearedIn 12 = .ok (.aload_n 0, 1) := by decide +kernel
theorem dX12_smearedIn_13 : decode cX12_smearedIn 13 = .ok (.getfield 52, 3) := by decide +kernel
theorem dX12_smearedIn_16 : decode cX12_smearedIn 16 = .ok (.iload_n 3, 1) := by decide +kernel
theorem dX12_smearedIn_17 : decode cX12_smearedIn 17 = .ok (.aload_n 0, 1) := by decide +kernel
theorem dX12_smearedIn_18 : decode cX12_smearedIn 18 = .ok (.getfield 82, 3) := by decide +kernel
theorem dX12_smearedIn_21 : decode cX12_smearedIn 21 = .ok (.bipush 60, 2) := by decide +kernel
theorem dX12_smearedIn_23 : decode cX12_smearedIn 23 = .ok (.iload_n 1, 1) := by decide +kernel
theorem dX12_smearedIn_24 : decode cX12_smearedIn 24 = .ok (.imul, 1) := by decide +kernel
theorem dX12_smearedIn_25 : decode cX12_smearedIn 25 = .ok (.iload_n 3, 1) := by decide +kernel
theorem dX12_smearedIn_26 : decode cX12_smearedIn 26 = .ok (.iadd, 1) := by decide +kernel
theorem dX12_smearedIn_27 : decode cX12_smearedIn 27 = .ok (.laload, 1) := by decide +kernel
theorem dX12_smearedIn_28 : decode cX12_smearedIn 28 = .ok (.l2i, 1) := by decide +kernel
theorem dX12_smearedIn_29 : decode cX12_smearedIn 29 = .ok (.iastore, 1) := by decide +kernel
theorem dX12_smearedIn_30 : decode cX12_smearedIn 30 = .ok (.iload_n 2, 1) := by decide +kernel
theorem dX12_smearedIn_31 : decode cX12_smearedIn 31 = .ok (.aload_n 0, 1) := by decide +kernel
theorem dX12_smearedIn_32 : decode cX12_smearedIn 32 = .ok (.getfield 52, 3) := by decide +kernel
theorem dX12_smearedIn_35 : decode cX12_smearedIn 35 = .ok (.iload_n 3, 1) := by decide +kernel
theorem dX12_smearedIn_36 : decode cX12_smearedIn 36 = .ok (.iaload, 1) := by decide +kernel
theorem dX12_smearedIn_37 : decode cX12_smearedIn 37 = .ok (.ifCond .ge 7, 3) := by decide +kernel
theorem dX12_smearedIn_40 : decode cX12_smearedIn 40 = .ok (.iconst 1, 1) := by decide +kernel
theorem dX12_smearedIn_41 : decode cX12_smearedIn 41 = .ok (.goto 4, 3) := by decide +kernel
theorem dX12_smearedIn_44 : decode cX12_smearedIn 44 = .ok (.iconst 0, 1) := by decide +kernel
theorem dX12_smearedIn_45 : decode cX12_smearedIn 45 = .ok (.iadd, 1) := by decide +kernel
theorem dX12_smearedIn_46 : decode cX12_smearedIn 46 = .ok (.istore_n 2, 1) := by decide +kernel
theorem dX12_smearedIn_47 : decode cX12_smearedIn 47 = .ok (.iinc 3 1, 3) := by decide +kernel
theorem dX12_smearedIn_50 : decode cX12_smearedIn 50 = .ok (.goto (-46), 3) := by decide +kernel
theorem dX12_smearedIn_53 : decode cX12_smearedIn 53 = .ok (.iload_n 2, 1) := by decide +kernel
theorem dX12_smearedIn_54 : decode cX12_smearedIn 54 = .ok (.ireturn, 1) := by decide +kernel
theorem dX12_restoredIs_0 : decode cX12_restoredIs 0 = .ok (.aload_n 0, 1) := by decide +kernel
theorem dX12_restoredIs_1 : decode cX12_restoredIs 1 = .ok (.iload_n 1, 1) := by decide +kernel
theorem dX12_restoredIs_2 : decode cX12_restoredIs 2 = .ok (.invokevirtual 265, 3) := by decide +kernel
theorem dX12_restoredIs_5 : decode cX12_restoredIs 5 = .ok (.ifCond .ge 9, 3) := by decide +kernel
theorem dX12_restoredIs_8 : decode cX12_restoredIs 8 = .ok (.aload_n 0, 1) := by decide +kernel
theorem dX12_restoredIs_9 : decode cX12_restoredIs 9 = .ok (.iload_n 1, 1) := by decide +kernel
theorem dX12_restoredIs_10 : decode cX12_restoredIs 10 = .ok (.invokevirtual 265, 3) := by decide +kernel
theorem dX12_restoredIs_13 : decode cX12_restoredIs 13 = .ok (.ireturn, 1) := by decide +kernel
theorem dX12_restoredIs_14 : decode cX12_restoredIs 14 = .ok (.aload_n 0, 1) := by decide +kernel
theorem dX12_restoredIs_15 : decode cX12_restoredIs 15 = .ok (.getfield 79, 3) := by decide +kernel
theorem dX12_restoredIs_18 : decode cX12_restoredIs 18 = .ok (.iload_n 1, 1) := by decide +kernel
theorem dX12_restoredIs_19 : decode cX12_restoredIs 19 = .ok (.iaload, 1) := by decide +kernel
theorem dX12_restoredIs_20 : decode cX12_restoredIs 20 = .ok (.aload_n 0, 1) := by decide +kernel
theorem dX12_restoredIs_21 : decode cX12_restoredIs 21 = .ok (.getfield 100, 3) := by decide +kernel
theorem dX12_restoredIs_24 : decode cX12_restoredIs 24 = .ok (.if_icmp .ne 19, 3) := by decide +kernel
theorem dX12_restoredIs_27 : decode cX12_restoredIs 27 = .ok (.aload_n 0, 1) := by decide +kernel
theorem dX12_restoredIs_28 : decode cX12_restoredIs 28 = .ok (.iload_n 1, 1) := by decide +kernel
theorem dX12_restoredIs_29 : decode cX12_restoredIs 29 = .ok (.invokevirtual 268, 3) := by decide +kernel
theorem dX12_restoredIs_32 : decode cX12_restoredIs 32 = .ok (.ifCond .ge 11, 3) := by decide +kernel
theorem dX12_restoredIs_35 : decode cX12_restoredIs 35 = .ok (.aload_n 0, 1) := by decide +kernel
theorem dX12_restoredIs_36 : decode cX12_restoredIs 36 = .ok (.iload_n 1, 1) := by decide +kernel
theorem dX12_restoredIs_37 : decode cX12_restoredIs 37 = .ok (.invokevirtual 278, 3) := by decide +kernel
theorem dX12_restoredIs_40 : decode cX12_restoredIs 40 = .ok (.ifCond .le 6, 3) := by decide +kernel
theorem dX12_restoredIs_43 : decode cX12_restoredIs 43 = .ok (.bipush (-5), 2) := by decide +kernel
theorem dX12_restoredIs_45 : decode cX12_restoredIs 45 = .ok (.ireturn, 1) := by decide +kernel
theorem dX12_restoredIs_46 : decode cX12_restoredIs 46 = .ok (.aload_n 0, 1) := by decide +kernel
theorem dX12_restoredIs_47 : decode cX12_restoredIs 47 = .ok (.invokevirtual 281, 3) := by decide +kernel
theorem dX12_restoredIs_50 : decode cX12_restoredIs 50 = .ok (.iconst 1, 1) := by decide +kernel
theorem dX12_restoredIs_51 : decode cX12_restoredIs 51 = .ok (.ireturn, 1) := by decide +kernel
theorem fl_X12_52 : Cond.fieldLink RX12 52 (TX12 29).1 (TX12 29).2.1 (TX12 29).2.2.1 ∈ wsL_law := (uw8 _ (List.mem_of_getElem? (i := 12) rfl))
theorem hy_X12_begins1 : Cond.code yX12_begins1 cX12_begins1 3 none ∈ wsL_law ∧ Cond.initialized yX12_begins1.cls ∈ wsL_law ∧ Cond.instanceMethod yX12_begins1 ∈ wsL_law ∧ Cond.selects yX12_begins1.cls yX12_begins1 yX12_begins1 ∈ wsL_law := ⟨(uw29 _ (List.mem_of_getElem? (i := 10) rfl)), (uw1 _ (List.mem_of_getElem? (i := 5) rfl)), (uw29 _ (List.mem_of_getElem? (i := 8) rfl)), (uw29 _ (List.mem_of_getElem? (i := 9) rfl))⟩
theorem hd_X12_begins1 : yX12_begins1.cls ≠ "java/lang/invoke/MethodHandle" ∧ yX12_begins1.cls ≠ "java/lang/invoke/VarHandle" ∧ (parseMethodDescriptor yX12_begins1.desc).map (fun d => d.parameters.length) = some 0 := ⟨by decide +kernel, by decide +kernel, by decide +kernel⟩
theorem hy_X12_bookIs : Cond.code yX12_bookIs cX12_bookIs 2 (some .int) ∈ wsL_law ∧ Cond.initialized yX12_bookIs.cls ∈ wsL_law ∧ Cond.instanceMethod yX12_bookIs ∈ wsL_law ∧ Cond.selects yX12_bookIs.cls yX12_bookIs yX12_bookIs ∈ wsL_law := ⟨(uw34 _ (List.mem_of_getElem? (i := 9) rfl)), (uw1 _ (List.mem_of_getElem? (i := 5) rfl)), (uw34 _ (List.mem_of_getElem? (i := 7) rfl)), (uw34 _ (List.mem_of_getElem? (i := 8) rfl))⟩
theorem hd_X12_bookIs : yX12_bookIs.cls ≠ "java/lang/invoke/MethodHandle" ∧ yX12_bookIs.cls ≠ "java/lang/invoke/VarHandle" ∧ (parseMethodDescriptor yX12_bookIs.desc).map (fun d => d.parameters.length) = some 1 := ⟨by decide +kernel, by decide +kernel, by decide +kernel⟩
theorem hy_X12_changesIn : Cond.code yX12_changesIn cX12_changesIn 4 none ∈ wsL_law ∧ Cond.initialized yX12_changesIn.cls ∈ wsL_law ∧ Cond.instanceMethod yX12_changesIn ∈ wsL_law ∧ Cond.selects yX12_changesIn.cls yX12_changesIn yX12_changesIn ∈ wsL_law := ⟨(uw29 _ (List.mem_of_getElem? (i := 15) rfl)), (uw1 _ (List.mem_of_getElem? (i := 5) rfl)), (uw29 _ (List.mem_of_getElem? (i := 13) rfl)), (uw29 _ (List.mem_of_getElem? (i := 14) rfl))⟩
theorem hd_X12_changesIn : yX12_changesIn.cls ≠ "java/lang/invoke/MethodHandle" ∧ yX12_changesIn.cls ≠ "java/lang/invoke/VarHandle" ∧ (parseMethodDescriptor yX12_changesIn.desc).map (fun d => d.parameters.length) = some 2 := ⟨by decide +kernel, by decide +kernel, by decide +kernel⟩
theorem hy_X12_ends1 : Cond.code yX12_ends1 cX12_ends1 4 none ∈ wsL_law ∧ Cond.initialized yX12_ends1.cls ∈ wsL_law ∧ Cond.instanceMethod yX12_ends1 ∈ wsL_law ∧ Cond.selects yX12_ends1.cls yX12_ends1 yX12_ends1 ∈ wsL_law := ⟨(uw29 _ (List.mem_of_getElem? (i := 19) rfl)), (uw1 _ (List.mem_of_getElem? (i := 5) rfl)), (uw29 _ (List.mem_of_getElem? (i := 17) rfl)), (uw29 _ (List.mem_of_getElem? (i := 18) rfl))⟩
theorem hd_X12_ends1 : yX12_ends1.cls ≠ "java/lang/invoke/MethodHandle" ∧ yX12_ends1.cls ≠ "java/lang/invoke/VarHandle" ∧ (parseMethodDescriptor yX12_ends1.desc).map (fun d => d.parameters.length) = some 0 := ⟨by decide +kernel, by decide +kernel, by decide +kernel⟩
theorem hy_X12_falseAt : Cond.code yX12_falseAt cX12_falseAt 3 (some .int) ∈ wsL_law ∧ Cond.initialized yX12_falseAt.cls ∈ wsL_law ∧ Cond.instanceMethod yX12_falseAt ∈ wsL_law ∧ Cond.selects yX12_falseAt.cls yX12_falseAt yX12_falseAt ∈ wsL_law := ⟨(uw34 _ (List.mem_of_getElem? (i := 13) rfl)), (uw1 _ (List.mem_of_getElem? (i := 5) rfl)), (uw34 _ (List.mem_of_getElem? (i := 11) rfl)), (uw34 _ (List.mem_of_getElem? (i := 12) rfl))⟩
theorem hd_X12_falseAt : yX12_falseAt.cls ≠ "java/lang/invoke/MethodHandle" ∧ yX12_falseAt.cls ≠ "java/lang/invoke/VarHandle" ∧ (parseMethodDescriptor yX12_falseAt.desc).map (fun d => d.parameters.length) = some 1 := ⟨by decide +kernel, by decide +kernel, by decide +kernel⟩
theorem hy_X12_isIn : Cond.code yX12_isIn cX12_isIn 2 (some .boolean) ∈ wsL_law ∧ Cond.initialized yX12_isIn.cls ∈ wsL_law ∧ Cond.static yX12_isIn ∈ wsL_law := ⟨(uw35 _ (List.mem_of_getElem? (i := 1) rfl)), (uw1 _ (List.mem_of_getElem? (i := 5) rfl)), (uw35 _ (List.mem_of_getElem? (i := 0) rfl))⟩
theorem hd_X12_isIn : yX12_isIn.cls ≠ "java/lang/invoke/MethodHandle" ∧ yX12_isIn.cls ≠ "java/lang/invoke/VarHandle" ∧ (parseMethodDescriptor yX12_isIn.desc).map (fun d => d.parameters.length) = some 2 := ⟨by decide +kernel, by decide +kernel, by decide +kernel⟩
theorem hy_X12_leave : Cond.code yX12_leave cX12_leave 3 (some .int) ∈ wsL_law ∧ Cond.initialized yX12_leave.cls ∈ wsL_law ∧ Cond.instanceMethod yX12_leave ∈ wsL_law ∧ Cond.selects yX12_leave.cls yX12_leave yX12_leave ∈ wsL_law := ⟨(uw30 _ (List.mem_of_getElem? (i := 23) rfl)), (uw1 _ (List.mem_of_getElem? (i := 5) rfl)), (uw30 _ (List.mem_of_getElem? (i := 21) rfl)), (uw30 _ (List.mem_of_getElem? (i := 22) rfl))⟩
theorem hd_X12_leave : yX12_leave.cls ≠ "java/lang/invoke/MethodHandle" ∧ yX12_leave.cls ≠ "java/lang/invoke/VarHandle" ∧ (parseMethodDescriptor yX12_leave.desc).map (fun d => d.parameters.length) = some 1 := ⟨by decide +kernel, by decide +kernel, by decide +kernel⟩
theorem hy_X12_putsIn : Cond.code yX12_putsIn cX12_putsIn 4 none ∈ wsL_law ∧ Cond.initialized yX12_putsIn.cls ∈ wsL_law ∧ Cond.instanceMethod yX12_putsIn ∈ wsL_law ∧ Cond.selects yX12_putsIn.cls yX12_putsIn yX12_putsIn ∈ wsL_law := ⟨(uw30 _ (List.mem_of_getElem? (i := 7) rfl)), (uw1 _ (List.mem_of_getElem? (i := 5) rfl)), (uw30 _ (List.mem_of_getElem? (i := 5) rfl)), (uw30 _ (List.mem_of_getElem? (i := 6) rfl))⟩
theorem hd_X12_putsIn : yX12_putsIn.cls ≠ "java/lang/invoke/MethodHandle" ∧ yX12_putsIn.cls ≠ "java/lang/invoke/VarHandle" ∧ (parseMethodDescriptor yX12_putsIn.desc).map (fun d => d.parameters.length) = some 2 := ⟨by decide +kernel, by decide +kernel, by decide +kernel⟩
theorem hy_X12_restores : Cond.code yX12_restores cX12_restores 5 none ∈ wsL_law ∧ Cond.initialized yX12_restores.cls ∈ wsL_law ∧ Cond.instanceMethod yX12_restores ∈ wsL_law ∧ Cond.selects yX12_restores.cls yX12_restores yX12_restores ∈ wsL_law := ⟨(uw34 _ (List.mem_of_getElem? (i := 22) rfl)), (uw1 _ (List.mem_of_getElem? (i := 5) rfl)), (uw34 _ (List.mem_of_getElem? (i := 20) rfl)), (uw34 _ (List.mem_of_getElem? (i := 21) rfl))⟩
theorem hd_X12_restores : yX12_restores.cls ≠ "java/lang/invoke/MethodHandle" ∧ yX12_restores.cls ≠ "java/lang/invoke/VarHandle" ∧ (parseMethodDescriptor yX12_restores.desc).map (fun d => d.parameters.length) = some 0 := ⟨by decide +kernel, by decide +kernel, by decide +kernel⟩
theorem hy_X12_smearedIn : Cond.code yX12_smearedIn cX12_smearedIn 4 (some .int) ∈ wsL_law ∧ Cond.initialized yX12_smearedIn.cls ∈ wsL_law ∧ Cond.instanceMethod yX12_smearedIn ∈ wsL_law ∧ Cond.selects yX12_smearedIn.cls yX12_smearedIn yX12_smearedIn ∈ wsL_law := ⟨(uw34 _ (List.mem_of_getElem? (i := 18) rfl)), (uw1 _ (List.mem_of_getElem? (i := 5) rfl)), (uw34 _ (List.mem_of_getElem? (i := 16) rfl)), (uw34 _ (List.mem_of_getElem? (i := 17) rfl))⟩
theorem hd_X12_smearedIn : yX12_smearedIn.cls ≠ "java/lang/invoke/MethodHandle" ∧ yX12_smearedIn.cls ≠ "java/lang/invoke/VarHandle" ∧ (parseMethodDescriptor yX12_smearedIn.desc).map (fun d => d.parameters.length) = some 1 := ⟨by decide +kernel, by decide +kernel, by decide +kernel⟩
theorem hy_X12_tallerIn : Cond.code yX12_tallerIn cX12_tallerIn 5 (some .int) ∈ wsL_law ∧ Cond.initialized yX12_tallerIn.cls ∈ wsL_law ∧ Cond.instanceMethod yX12_tallerIn ∈ wsL_law ∧ Cond.selects yX12_tallerIn.cls yX12_tallerIn yX12_tallerIn ∈ wsL_law := ⟨(uw35 _ (List.mem_of_getElem? (i := 5) rfl)), (uw1 _ (List.mem_of_getElem? (i := 5) rfl)), (uw35 _ (List.mem_of_getElem? (i := 3) rfl)), (uw35 _ (List.mem_of_getElem? (i := 4) rfl))⟩
theorem hd_X12_tallerIn : yX12_tallerIn.cls ≠ "java/lang/invoke/MethodHandle" ∧ yX12_tallerIn.cls ≠ "java/lang/invoke/VarHandle" ∧ (parseMethodDescriptor yX12_tallerIn.desc).map (fun d => d.parameters.length) = some 2 := ⟨by decide +kernel, by decide +kernel, by decide +kernel⟩
theorem ml_X12_245 : Cond.methodLink RX12 245 yX12_begins1 ∈ wsL_law := (uw29 _ (List.mem_of_getElem? (i := 7) rfl))
theorem ml_X12_248 : Cond.methodLink RX12 248 yX12_changesIn ∈ wsL_law := (uw29 _ (List.mem_of_getElem? (i := 12) rfl))
theorem ml_X12_252 : Cond.methodLink RX12 252 yX12_ends1 ∈ wsL_law := (uw29 _ (List.mem_of_getElem? (i := 16) rfl))
theorem ml_X12_255 : Cond.methodLink RX12 255 yX12_putsIn ∈ wsL_law := (uw30 _ (List.mem_of_getElem? (i := 4) rfl))
theorem ml_X12_258 : Cond.methodLink RX12 258 yX12_leave ∈ wsL_law := (uw31 _ (List.mem_of_getElem? (i := 8) rfl))
theorem ml_X12_265 : Cond.methodLink RX12 265 yX12_bookIs ∈ wsL_law := (uw34 _ (List.mem_of_getElem? (i := 6) rfl))
theorem ml_X12_268 : Cond.methodLink RX12 268 yX12_falseAt ∈ wsL_law := (uw34 _ (List.mem_of_getElem? (i := 10) rfl))
theorem ml_X12_271 : Cond.methodLink RX12 271 yX12_isIn ∈ wsL_law := (uw34 _ (List.mem_of_getElem? (i := 23) rfl))
theorem ml_X12_275 : Cond.methodLink RX12 275 yX12_tallerIn ∈ wsL_law := (uw35 _ (List.mem_of_getElem? (i := 2) rfl))
theorem ml_X12_278 : Cond.methodLink RX12 278 yX12_smearedIn ∈ wsL_law := (uw34 _ (List.mem_of_getElem? (i := 15) rfl))
theorem ml_X12_281 : Cond.methodLink RX12 281 yX12_restores ∈ wsL_law := (uw34 _ (List.mem_of_getElem? (i := 19) rfl))
abbrev w_M_ends1 (G : zG) (a_this : Nat) (a_height : Nat) (a_changeAt : Nat) (a_changeWas : Nat) (a_changeIs : Nat) (a_tape : Nat) (a_text : Nat) (a_names : Nat) (a_line : Nat) (a_row : Nat) (a_pastMany : Nat) (a_past : Nat) (a_changed : Nat) (a_greatest : Nat) (a_numbersWere : Nat) (a_told : Nat) (a_waysOf : Nat) (a_waysWere : Nat) (a_blocks : Nat) (a_ordersOf : Nat) (a_imageLine : Nat) (a_bodyKind : Nat) (a_trace : Nat) (a_shelf : Nat) (a_many : Nat) (a_items : Nat) (a_carried : Nat) (people : Int32) (keptMany : Int32) (done : Int32) (tapeMany : Int32) (textMany : Int32) (base : Int32) (at_ : Int32) (ends : Int32) (fault : Int32) (opened : Int32) (lineMany : Int32) (rowMany : Int32) (taller : Int32) (tallerBy : Int32) (pasts : Int32) (isKept : Int32) (imageMany : Int32) (bodies : Int32) (ran : Int32) (ownKind : Int32) (ownNumber : Int32) (height : Nat → Int32) (tape : Nat → Int32) (text : Nat → Int32) (names : Nat → Int32) (line : Nat → Int32) (row : Nat → Int32) (changed : Nat → Int32) (greatest : Nat → Int32) (numbersWere : Nat → Int32) : va_W := [(a_this, cO 12 [.int people, .ref a_height, .ref a_changeAt, .ref a_changeWas, .ref a_changeIs, .int keptMany, .int done, .ref a_tape, .int tapeMany, .ref a_text, .int textMany, .int base, .int at_, .int ends, .int fault, .int opened, .ref a_names, .ref a_line, .int lineMany, .ref a_row, .int rowMany, .int taller, .int tallerBy, .ref a_pastMany, .ref a_past, .int pasts, .ref a_changed, .ref a_greatest, .ref a_numbersWere, .ref a_told, .ref a_waysOf, .ref a_waysWere, .ref a_blocks, .ref a_ordersOf, .int isKept, .int imageMany, .ref a_imageLine, .int bodies, .ref a_bodyKind, .ref a_trace, .int ran, .int ownKind, .int ownNumber, .ref a_shelf, .ref a_many, .ref a_items, .ref a_carried]), (a_height, cI G 9 height), (a_tape, cI G 120 tape), (a_text, cI G 120 text), (a_names, cI G 5 names), (a_line, cI G 9 line), (a_row, cI G 9 row), (a_changed, cI G 9 changed), (a_greatest, cI G 9 greatest), (a_numbersWere, cI G 9 numbersWere)]
def f_M_ends1_L10 (rowMany : Int32) (row : Nat → Int32) : Nat → (Nat → Int32) → Int32 → Option ((Nat → Int32))
  | 0, _, _ => none
  | fuel + 1, line, v1 => (if rowMany ≤ v1 then (some line) else (zg row 9 v1 fun v_1 => (zs line 9 v1 v_1 fun line_2 => (f_M_ends1_L10 rowMany row fuel line_2 (v1 + 1)))))
def f_M_ends1_L38 (textMany : Int32) (lineMany : Int32) (taller : Int32) (tallerBy : Int32) (height : Nat → Int32) (tape : Nat → Int32) (text : Nat → Int32) (line : Nat → Int32) (row : Nat → Int32) (numbersWere : Nat → Int32) : Nat → Int32 → Int32 → Int32 → Int32 → Int32 → (Nat → Int32) → (Nat → Int32) → (Nat → Int32) → Int32 → Option (Int32 × Int32 × Int32 × Int32 × Int32 × (Nat → Int32) × (Nat → Int32) × (Nat → Int32))
  | 0, _, _, _, _, _, _, _, _, _ => none
  | fuel + 1, base, at_, ends, fault, opened, names, changed, greatest, v1 => (if lineMany ≤ v1 then (some (base, at_, ends, fault, opened, names, changed, greatest)) else (zg line 9 v1 fun v_4 => (zb7 (f_M_numberAt textMany base at_ ends fault opened taller tallerBy height tape text names row v1) fun r_5 base_6 at__7 ends_8 fault_9 opened_10 names_11 => (zg changed 9 v_4 fun v_13 => (zg numbersWere 9 v_4 fun v_14 => (if v_14 = (-2) then (zs changed 9 v_4 (v_13 + (0 : Int32)) fun changed_15 => (zg greatest 9 v_4 fun v_16 => (if r_5 ≤ v_16 then (zg greatest 9 v_4 fun v_17 => (zs greatest 9 v_4 v_17 fun greatest_18 => (f_M_ends1_L38 textMany lineMany taller tallerBy height tape text line row numbersWere fuel base_6 at__7 ends_8 fault_9 opened_10 names_11 changed_15 greatest_18 (v1 + 1)))) else (zs greatest 9 v_4 r_5 fun greatest_19 => (f_M_ends1_L38 textMany lineMany taller tallerBy height tape text line row numbersWere fuel base_6 at__7 ends_8 fault_9 opened_10 names_11 changed_15 greatest_19 (v1 + 1)))))) else (zg numbersWere 9 v_4 fun v_20 => (if v_20 = r_5 then (zs changed 9 v_4 (v_13 + (0 : Int32)) fun changed_21 => (zg greatest 9 v_4 fun v_22 => (if r_5 ≤ v_22 then (zg greatest 9 v_4 fun v_23 => (zs greatest 9 v_4 v_23 fun greatest_24 => (f_M_ends1_L38 textMany lineMany taller tallerBy height tape text line row numbersWere fuel base_6 at__7 ends_8 fault_9 opened_10 names_11 changed_21 greatest_24 (v1 + 1)))) else (zs greatest 9 v_4 r_5 fun greatest_25 => (f_M_ends1_L38 textMany lineMany taller tallerBy height tape text line row numbersWere fuel base_6 at__7 ends_8 fault_9 opened_10 names_11 changed_21 greatest_25 (v1 + 1)))))) else (zs changed 9 v_4 (v_13 + (1 : Int32)) fun changed_26 => (zg greatest 9 v_4 fun v_27 => (if r_5 ≤ v_27 then (zg greatest 9 v_4 fun v_28 => (zs greatest 9 v_4 v_28 fun greatest_29 => (f_M_ends1_L38 textMany lineMany taller tallerBy height tape text line row numbersWere fuel base_6 at__7 ends_8 fault_9 opened_10 names_11 changed_26 greatest_29 (v1 + 1)))) else (zs greatest 9 v_4 r_5 fun greatest_30 => (f_M_ends1_L38 textMany lineMany taller tallerBy height tape text line row numbersWere fuel base_6 at__7 ends_8 fault_9 opened_10 names_11 changed_26 greatest_30 (v1 + 1))))))))))))))
def f_M_ends1 (textMany : Int32) (base : Int32) (at_ : Int32) (ends : Int32) (fault : Int32) (opened : Int32) (lineMany : Int32) (rowMany : Int32) (taller : Int32) (tallerBy : Int32) (height : Nat → Int32) (tape : Nat → Int32) (text : Nat → Int32) (names : Nat → Int32) (line : Nat → Int32) (row : Nat → Int32) (changed : Nat → Int32) (greatest : Nat → Int32) (numbersWere : Nat → Int32) : Option (Int32 × Int32 × Int32 × Int32 × Int32 × Int32 × (Nat → Int32) × (Nat → Int32) × (Nat → Int32) × (Nat → Int32)) := (zb1 (f_M_ends1_L10 rowMany row FU line 0) fun line_3 => (zb8 (f_M_ends1_L38 textMany rowMany taller tallerBy height tape text line_3 row numbersWere FU base at_ ends fault opened names changed greatest 0) fun base_31 at__32 ends_33 fault_34 opened_35 names_36 changed_37 greatest_38 => (some (base_31, at__32, ends_33, fault_34, opened_35, rowMany, names_36, line_3, changed_37, greatest_38))))
set_option maxRecDepth 100000 in
set_option maxHeartbeats 4000000 in
theorem l_M_ends1_10 {X : zX} (G : zG) (a_this : Nat) (a_height : Nat) (a_changeAt : Nat) (a_changeWas : Nat) (a_changeIs : Nat) (a_tape : Nat) (a_text : Nat) (a_names : Nat) (a_line : Nat) (a_row : Nat) (a_pastMany : Nat) (a_past : Nat) (a_changed : Nat) (a_greatest : Nat) (a_numbersWere : Nat) (a_told : Nat) (a_waysOf : Nat) (a_waysWere : Nat) (a_blocks : Nat) (a_ordersOf : Nat) (a_imageLine : Nat) (a_bodyKind : Nat) (a_trace : Nat) (a_shelf : Nat) (a_many : Nat) (a_items : Nat) (a_carried : Nat) (people : Int32) (keptMany : Int32) (done : Int32) (tapeMany : Int32) (textMany : Int32) (base : Int32) (at_ : Int32) (ends : Int32) (fault : Int32) (opened : Int32) (lineMany : Int32) (rowMany : Int32) (taller : Int32) (tallerBy : Int32) (pasts : Int32) (isKept : Int32) (imageMany : Int32) (bodies : Int32) (ran : Int32) (ownKind : Int32) (ownNumber : Int32) (height : Nat → Int32) (tape : Nat → Int32) (text : Nat → Int32) (names : Nat → Int32) (row : Nat → Int32) (changed : Nat → Int32) (greatest : Nat → Int32) (numbersWere : Nat → Int32) {v0 : Option Value} {w0 : va_W} (F : zF X G cX12_ends1 RX12 4 none 152 3533 v0 w0) (e_line : Nat → Int32) (hk : Z X G 4 (w_M_ends1 G a_this a_height a_changeAt a_changeWas a_changeIs a_tape a_text a_names a_line a_row a_pastMany a_past a_changed a_greatest a_numbersWere a_told a_waysOf a_waysWere a_blocks a_ordersOf a_imageLine a_bodyKind a_trace a_shelf a_many a_items a_carried people keptMany done tapeMany textMany base at_ ends fault opened lineMany rowMany taller tallerBy pasts isKept imageMany bodies ran ownKind ownNumber height tape text names e_line row changed greatest numbersWere) [(0, .ref a_this)] 36 []) :
    ∀ (fuel : Nat) (line : Nat → Int32) (v1 : Int32), f_M_ends1_L10 rowMany row fuel line v1 = some e_line → Z X G 4 (w_M_ends1 G a_this a_height a_changeAt a_changeWas a_changeIs a_tape a_text a_names a_line a_row a_pastMany a_past a_changed a_greatest a_numbersWere a_told a_waysOf a_waysWere a_blocks a_ordersOf a_imageLine a_bodyKind a_trace a_shelf a_many a_items a_carried people keptMany done tapeMany textMany base at_ ends fault opened lineMany rowMany taller tallerBy pasts isKept imageMany bodies ran ownKind ownNumber height tape text names line row changed greatest numbersWere) [(0, .ref a_this), (1, .int v1)] 10 [] := by
  intro fuel
  induction fuel with
  | zero => intro line v1 hf; exact absurd ((f_M_ends1_L10.eq_1 ..).symm.trans hf) (fun h => by cases h)
  | succ fuel ih =>
    intro line v1 hf
    replace hf := (f_M_ends1_L10.eq_2 ..).symm.trans hf
    refine z_iload_n F 1 dX12_ends1_10 rfl rfl ?_
    refine z_aload_n F 0 dX12_ends1_11 rfl rfl ?_
    refine z_get F 0 12 20 inlX12 rfl rfl (by decide) fl_X12_184 rfl dX12_ends1_12 ?_
    refine z_icmp_ge F 36 dX12_ends1_15 (by decide) hf (fun hf _ => ?_) (fun hf _ => ?_)
    · have ee1 := Option.some.inj hf
      subst ee1
      exact z_sub [0] rfl hk
    · refine z_aload_n F 0 dX12_ends1_18 rfl rfl ?_
      refine z_get F 0 12 17 inlX12 rfl rfl (by decide) fl_X12_31 rfl dX12_ends1_19 ?_
      refine z_iload_n F 1 dX12_ends1_22 rfl rfl ?_
      refine z_aload_n F 0 dX12_ends1_23 rfl rfl ?_
      refine z_get F 0 12 19 inlX12 rfl rfl (by decide) fl_X12_34 rfl dX12_ends1_24 ?_
      refine z_iload_n F 1 dX12_ends1_27 rfl rfl ?_
      refine z_iald F 6 rfl hf dX12_ends1_28 (fun v_1 hf => ?_)
      refine z_iast F 5 (fun line_2 => (w_M_ends1 G a_this a_height a_changeAt a_changeWas a_changeIs a_tape a_text a_names a_line a_row a_pastMany a_past a_changed a_greatest a_numbersWere a_told a_waysOf a_waysWere a_blocks a_ordersOf a_imageLine a_bodyKind a_trace a_shelf a_many a_items a_carried people keptMany done tapeMany textMany base at_ ends fault opened lineMany rowMany taller tallerBy pasts isKept imageMany bodies ran ownKind ownNumber height tape text names line_2 row changed greatest numbersWere)) rfl hf (fun _ => rfl) dX12_ends1_29 (fun line_2 hf => ?_)
      refine z_iinc F [(1, .int (v1 + 1)), (0, .ref a_this)] dX12_ends1_30 1 rfl rfl (by decide) rfl ?_
      refine z_goto F 10 dX12_ends1_33 (by decide) ?_
      exact z_sub [1, 0] rfl (ih line_2 (v1 + 1) hf)

set_option maxRecDepth 100000 in
set_option maxHeartbeats 4000000 in
theorem l_M_ends1_38 {X : zX} (G : zG) (a_this : Nat) (a_height : Nat) (a_changeAt : Nat) (a_changeWas : Nat) (a_changeIs : Nat) (a_tape : Nat) (a_text : Nat) (a_names : Nat) (a_line : Nat) (a_row : Nat) (a_pastMany : Nat) (a_past : Nat) (a_changed : Nat) (a_greatest : Nat) (a_numbersWere : Nat) (a_told : Nat) (a_waysOf : Nat) (a_waysWere : Nat) (a_blocks : Nat) (a_ordersOf : Nat) (a_imageLine : Nat) (a_bodyKind : Nat) (a_trace : Nat) (a_shelf : Nat) (a_many : Nat) (a_items : Nat) (a_carried : Nat) (people : Int32) (keptMany : Int32) (done : Int32) (tapeMany : Int32) (textMany : Int32) (lineMany : Int32) (rowMany : Int32) (taller : Int32) (tallerBy : Int32) (pasts : Int32) (isKept : Int32) (imageMany : Int32) (bodies : Int32) (ran : Int32) (ownKind : Int32) (ownNumber : Int32) (height : Nat → Int32) (tape : Nat → Int32) (text : Nat → Int32) (line : Nat → Int32) (row : Nat → Int32) (numbersWere : Nat → Int32) {v0 : Option Value} {w0 : va_W} (F : zF X G cX12_ends1 RX12 4 none 152 3533 v0 w0) (e_base : Int32) (e_at_ : Int32) (e_ends : Int32) (e_fault : Int32) (e_opened : Int32) (e_names : Nat → Int32) (e_changed : Nat → Int32) (e_greatest : Nat → Int32) (hk : Z X G 4 (w_M_ends1 G a_this a_height a_changeAt a_changeWas a_changeIs a_tape a_text a_names a_line a_row a_pastMany a_past a_changed a_greatest a_numbersWere a_told a_waysOf a_waysWere a_blocks a_ordersOf a_imageLine a_bodyKind a_trace a_shelf a_many a_items a_carried people keptMany done tapeMany textMany e_base e_at_ e_ends e_fault e_opened lineMany rowMany taller tallerBy pasts isKept imageMany bodies ran ownKind ownNumber height tape text e_names line row e_changed e_greatest numbersWere) [] 126 []) :
    ∀ (fuel : Nat) (base : Int32) (at_ : Int32) (ends : Int32) (fault : Int32) (opened : Int32) (names : Nat → Int32) (changed : Nat → Int32) (greatest : Nat → Int32) (v1 : Int32), f_M_ends1_L38 textMany lineMany taller tallerBy height tape text line row numbersWere fuel base at_ ends fault opened names changed greatest v1 = some (e_base, e_at_, e_ends, e_fault, e_opened, e_names, e_changed, e_greatest) → Z X G 4 (w_M_ends1 G a_this a_height a_changeAt a_changeWas a_changeIs a_tape a_text a_names a_line a_row a_pastMany a_past a_changed a_greatest a_numbersWere a_told a_waysOf a_waysWere a_blocks a_ordersOf a_imageLine a_bodyKind a_trace a_shelf a_many a_items a_carried people keptMany done tapeMany textMany base at_ ends fault opened lineMany rowMany taller tallerBy pasts isKept imageMany bodies ran ownKind ownNumber height tape text names line row changed greatest numbersWere) [(0, .ref a_this), (1, .int v1)] 38 [] := by
  intro fuel
  induction fuel with
  | zero => intro base at_ ends fault opened names changed greatest v1 hf; exact absurd ((f_M_ends1_L38.eq_1 ..).symm.trans hf) (fun h => by cases h)
  | succ fuel ih =>
    intro base at_ ends fault opened names changed greatest v1 hf
    replace hf := (f_M_ends1_L38.eq_2 ..).symm.trans hf
    refine z_iload_n F 1 dX12_ends1_38 rfl rfl ?_
    refine z_aload_n F 0 dX12_ends1_39 rfl rfl ?_
    refine z_get F 0 12 18 inlX12 rfl rfl (by decide) fl_X12_100 rfl dX12_ends1_40 ?_
    refine z_icmp_ge F 126 dX12_ends1_43 (by decide) hf (fun hf _ => ?_) (fun hf _ => ?_)
    · have eq1 := Option.some.inj hf
      obtain ⟨ee1, eq2⟩ := Prod.mk.inj eq1
      obtain ⟨ee2, eq3⟩ := Prod.mk.inj eq2
      obtain ⟨ee3, eq4⟩ := Prod.mk.inj eq3
      obtain ⟨ee4, eq5⟩ := Prod.mk.inj eq4
      obtain ⟨ee5, eq6⟩ := Prod.mk.inj eq5
      obtain ⟨ee6, eq7⟩ := Prod.mk.inj eq6
      obtain ⟨ee7, ee8⟩ := Prod.mk.inj eq7
      subst ee1
      subst ee2
      subst ee3
      subst ee4
      subst ee5
      subst ee6
      subst ee7
      subst ee8
      exact z_sub [] rfl hk
    · refine z_aload_n F 0 dX12_ends1_46 rfl rfl ?_
      refine z_get F 0 12 17 inlX12 rfl rfl (by decide) fl_X12_31 rfl dX12_ends1_47 ?_
      refine z_iload_n F 1 dX12_ends1_50 rfl rfl ?_
      refine z_iald F 5 rfl hf dX12_ends1_51 (fun v_4 hf => ?_)
      refine z_istore_n F [(2, .int v_4), (0, .ref a_this), (1, .int v1)] dX12_ends1_52 rfl (by decide) rfl ?_
      refine z_aload_n F 1 dX12_ends1_53 rfl rfl ?_
      refine z_iload_n F 2 dX12_ends1_54 rfl rfl ?_
      obtain ⟨r_5, base_6, at__7, ends_8, fault_9, opened_10, names_11, hg, hf⟩ := zb7_some hf
      refine z_callVm (rest := []) F 12 (c_M_numberAt (xL X) G a_this a_height a_changeAt a_changeWas a_changeIs a_tape a_text a_names a_line a_row a_pastMany a_past a_changed a_greatest a_numbersWere a_told a_waysOf a_waysWere a_blocks a_ordersOf a_imageLine a_bodyKind a_trace a_shelf a_many a_items a_carried people keptMany done tapeMany textMany base at_ ends fault opened lineMany rowMany taller tallerBy pasts isKept imageMany bodies ran ownKind ownNumber height tape text names row v1 r_5 base_6 at__7 ends_8 fault_9 opened_10 names_11 hg) hy_X12_numberAt ml_X12_200 hd_X12_numberAt ⟨by omega, by omega⟩ rfl [0, 1, 2, 3, 4, 6] rfl rfl 0 rfl rfl (w_M_ends1 G a_this a_height a_changeAt a_changeWas a_changeIs a_tape a_text a_names a_line a_row a_pastMany a_past a_changed a_greatest a_numbersWere a_told a_waysOf a_waysWere a_blocks a_ordersOf a_imageLine a_bodyKind a_trace a_shelf a_many a_items a_carried people keptMany done tapeMany textMany base_6 at__7 ends_8 fault_9 opened_10 lineMany rowMany taller tallerBy pasts isKept imageMany bodies ran ownKind ownNumber height tape text names_11 line row changed greatest numbersWere) [some 0, some 1, some 2, some 3, some 4, none, some 5, none, none, none] rfl (by decide +kernel) rfl rfl (Nat.le_of_ble_eq_true rfl) dX12_ends1_55 (fun hz_12 => ?_)
      refine z_istore_n F [(3, .int r_5), (2, .int v_4), (0, .ref a_this), (1, .int v1)] dX12_ends1_58 rfl (by decide) rfl ?_
      refine z_aload_n F 2 dX12_ends1_59 rfl rfl ?_
      refine z_get F 0 12 26 inlX12 rfl rfl (by decide) fl_X12_43 rfl dX12_ends1_60 ?_
      refine z_iload_n F 1 dX12_ends1_63 rfl rfl ?_
      refine z_dup2 F rfl rfl dX12_ends1_64 ?_
      refine z_iald F 7 rfl hf dX12_ends1_65 (fun v_13 hf => ?_)
      refine z_aload_n F 2 dX12_ends1_66 rfl rfl ?_
      refine z_get F 0 12 28 inlX12 rfl rfl (by decide) fl_X12_49 rfl dX12_ends1_67 ?_
      refine z_iload_n F 1 dX12_ends1_70 rfl rfl ?_
      refine z_iald F 9 rfl hf dX12_ends1_71 (fun v_14 hf => ?_)
      refine z_bipush F (-2) dX12_ends1_72 rfl ?_
      refine z_icmp_eq F 91 dX12_ends1_74 (by decide) hf (fun hf _ => ?_) (fun hf _ => ?_)
      · refine z_iconst F (0) dX12_ends1_91 rfl ?_
        refine z_iadd F dX12_ends1_92 ?_
        refine z_iast F 7 (fun changed_15 => (w_M_ends1 G a_this a_height a_changeAt a_changeWas a_changeIs a_tape a_text a_names a_line a_row a_pastMany a_past a_changed a_greatest a_numbersWere a_told a_waysOf a_waysWere a_blocks a_ordersOf a_imageLine a_bodyKind a_trace a_shelf a_many a_items a_carried people keptMany done tapeMany textMany base_6 at__7 ends_8 fault_9 opened_10 lineMany rowMany taller tallerBy pasts isKept imageMany bodies ran ownKind ownNumber height tape text names_11 line row changed_15 greatest numbersWere)) rfl hf (fun _ => rfl) dX12_ends1_93 (fun changed_15 hf => ?_)
        refine z_aload_n F 2 dX12_ends1_94 rfl rfl ?_
        refine z_get F 0 12 27 inlX12 rfl rfl (by decide) fl_X12_46 rfl dX12_ends1_95 ?_
        refine z_iload_n F 1 dX12_ends1_98 rfl rfl ?_
        refine z_iload_n F 0 dX12_ends1_99 rfl rfl ?_
        refine z_aload_n F 2 dX12_ends1_100 rfl rfl ?_
        refine z_get F 0 12 27 inlX12 rfl rfl (by decide) fl_X12_46 rfl dX12_ends1_101 ?_
        refine z_iload_n F 1 dX12_ends1_104 rfl rfl ?_
        refine z_iald F 8 rfl hf dX12_ends1_105 (fun v_16 hf => ?_)
        refine z_icmp_le F 113 dX12_ends1_106 (by decide) hf (fun hf _ => ?_) (fun hf _ => ?_)
        · refine z_aload_n F 2 dX12_ends1_113 rfl rfl ?_
          refine z_get F 0 12 27 inlX12 rfl rfl (by decide) fl_X12_46 rfl dX12_ends1_114 ?_
          refine z_iload_n F 1 dX12_ends1_117 rfl rfl ?_
          refine z_iald F 8 rfl hf dX12_ends1_118 (fun v_17 hf => ?_)
          refine z_iast F 8 (fun greatest_18 => (w_M_ends1 G a_this a_height a_changeAt a_changeWas a_changeIs a_tape a_text a_names a_line a_row a_pastMany a_past a_changed a_greatest a_numbersWere a_told a_waysOf a_waysWere a_blocks a_ordersOf a_imageLine a_bodyKind a_trace a_shelf a_many a_items a_carried people keptMany done tapeMany textMany base_6 at__7 ends_8 fault_9 opened_10 lineMany rowMany taller tallerBy pasts isKept imageMany bodies ran ownKind ownNumber height tape text names_11 line row changed_15 greatest_18 numbersWere)) rfl hf (fun _ => rfl) dX12_ends1_119 (fun greatest_18 hf => ?_)
          refine z_iinc F [(1, .int (v1 + 1)), (3, .int r_5), (2, .int v_4), (0, .ref a_this)] dX12_ends1_120 3 rfl rfl (by decide) rfl ?_
          refine z_goto F 38 dX12_ends1_123 (by decide) ?_
          exact z_sub [3, 0] rfl (ih base_6 at__7 ends_8 fault_9 opened_10 names_11 changed_15 greatest_18 (v1 + 1) hf)
        · refine z_iload_n F 0 dX12_ends1_109 rfl rfl ?_
          refine z_goto F 119 dX12_ends1_110 (by decide) ?_
          refine z_iast F 8 (fun greatest_19 => (w_M_ends1 G a_this a_height a_changeAt a_changeWas a_changeIs a_tape a_text a_names a_line a_row a_pastMany a_past a_changed a_greatest a_numbersWere a_told a_waysOf a_waysWere a_blocks a_ordersOf a_imageLine a_bodyKind a_trace a_shelf a_many a_items a_carried people keptMany done tapeMany textMany base_6 at__7 ends_8 fault_9 opened_10 lineMany rowMany taller tallerBy pasts isKept imageMany bodies ran ownKind ownNumber height tape text names_11 line row changed_15 greatest_19 numbersWere)) rfl hf (fun _ => rfl) dX12_ends1_119 (fun greatest_19 hf => ?_)
          refine z_iinc F [(1, .int (v1 + 1)), (3, .int r_5), (2, .int v_4), (0, .ref a_this)] dX12_ends1_120 3 rfl rfl (by decide) rfl ?_
          refine z_goto F 38 dX12_ends1_123 (by decide) ?_
          exact z_sub [3, 0] rfl (ih base_6 at__7 ends_8 fault_9 opened_10 names_11 changed_15 greatest_19 (v1 + 1) hf)
      · refine z_aload_n F 2 dX12_ends1_77 rfl rfl ?_
        refine z_get F 0 12 28 inlX12 rfl rfl (by decide) fl_X12_49 rfl dX12_ends1_78 ?_
        refine z_iload_n F 1 dX12_ends1_81 rfl rfl ?_
        refine z_iald F 9 rfl hf dX12_ends1_82 (fun v_20 hf => ?_)
        refine z_iload_n F 0 dX12_ends1_83 rfl rfl ?_
        refine z_icmp_eq F 91 dX12_ends1_84 (by decide) hf (fun hf _ => ?_) (fun hf _ => ?_)
        · refine z_iconst F (0) dX12_ends1_91 rfl ?_
          refine z_iadd F dX12_ends1_92 ?_
          refine z_iast F 7 (fun changed_21 => (w_M_ends1 G a_this a_height a_changeAt a_changeWas a_changeIs a_tape a_text a_names a_line a_row a_pastMany a_past a_changed a_greatest a_numbersWere a_told a_waysOf a_waysWere a_blocks a_ordersOf a_imageLine a_bodyKind a_trace a_shelf a_many a_items a_carried people keptMany done tapeMany textMany base_6 at__7 ends_8 fault_9 opened_10 lineMany rowMany taller tallerBy pasts isKept imageMany bodies ran ownKind ownNumber height tape text names_11 line row changed_21 greatest numbersWere)) rfl hf (fun _ => rfl) dX12_ends1_93 (fun changed_21 hf => ?_)
          refine z_aload_n F 2 dX12_ends1_94 rfl rfl ?_
          refine z_get F 0 12 27 inlX12 rfl rfl (by decide) fl_X12_46 rfl dX12_ends1_95 ?_
          refine z_iload_n F 1 dX12_ends1_98 rfl rfl ?_
          refine z_iload_n F 0 dX12_ends1_99 rfl rfl ?_
          refine z_aload_n F 2 dX12_ends1_100 rfl rfl ?_
          refine z_get F 0 12 27 inlX12 rfl rfl (by decide) fl_X12_46 rfl dX12_ends1_101 ?_
          refine z_iload_n F 1 dX12_ends1_104 rfl rfl ?_
          refine z_iald F 8 rfl hf dX12_ends1_105 (fun v_22 hf => ?_)
          refine z_icmp_le F 113 dX12_ends1_106 (by decide) hf (fun hf _ => ?_) (fun hf _ => ?_)
          · refine z_aload_n F 2 dX12_ends1_113 rfl rfl ?_
            refine z_get F 0 12 27 inlX12 rfl rfl (by decide) fl_X12_46 rfl dX12_ends1_114 ?_
            refine z_iload_n F 1 dX12_ends1_117 rfl rfl ?_
            refine z_iald F 8 rfl hf dX12_ends1_118 (fun v_23 hf => ?_)
            refine z_iast F 8 (fun greatest_24 => (w_M_ends1 G a_this a_height a_changeAt a_changeWas a_changeIs a_tape a_text a_names a_line a_row a_pastMany a_past a_changed a_greatest a_numbersWere a_told a_waysOf a_waysWere a_blocks a_ordersOf a_imageLine a_bodyKind a_trace a_shelf a_many a_items a_carried people keptMany done tapeMany textMany base_6 at__7 ends_8 fault_9 opened_10 lineMany rowMany taller tallerBy pasts isKept imageMany bodies ran ownKind ownNumber height tape text names_11 line row changed_21 greatest_24 numbersWere)) rfl hf (fun _ => rfl) dX12_ends1_119 (fun greatest_24 hf => ?_)
            refine z_iinc F [(1, .int (v1 + 1)), (3, .int r_5), (2, .int v_4), (0, .ref a_this)] dX12_ends1_120 3 rfl rfl (by decide) rfl ?_
            refine z_goto F 38 dX12_ends1_123 (by decide) ?_
            exact z_sub [3, 0] rfl (ih base_6 at__7 ends_8 fault_9 opened_10 names_11 changed_21 greatest_24 (v1 + 1) hf)
          · refine z_iload_n F 0 dX12_ends1_109 rfl rfl ?_
            refine z_goto F 119 dX12_ends1_110 (by decide) ?_
            refine z_iast F 8 (fun greatest_25 => (w_M_ends1 G a_this a_height a_changeAt a_changeWas a_changeIs a_tape a_text a_names a_line a_row a_pastMany a_past a_changed a_greatest a_numbersWere a_told a_waysOf a_waysWere a_blocks a_ordersOf a_imageLine a_bodyKind a_trace a_shelf a_many a_items a_carried people keptMany done tapeMany textMany base_6 at__7 ends_8 fault_9 opened_10 lineMany rowMany taller tallerBy pasts isKept imageMany bodies ran ownKind ownNumber height tape text names_11 line row changed_21 greatest_25 numbersWere)) rfl hf (fun _ => rfl) dX12_ends1_119 (fun greatest_25 hf => ?_)
            refine z_iinc F [(1, .int (v1 + 1)), (3, .int r_5), (2, .int v_4), (0, .ref a_this)] dX12_ends1_120 3 rfl rfl (by decide) rfl ?_
            refine z_goto F 38 dX12_ends1_123 (by decide) ?_
            exact z_sub [3, 0] rfl (ih base_6 at__7 ends_8 fault_9 opened_10 names_11 changed_21 greatest_25 (v1 + 1) hf)
        · refine z_iconst F (1) dX12_ends1_87 rfl ?_
          refine z_goto F 92 dX12_ends1_88 (by decide) ?_
          refine z_iadd F dX12_ends1_92 ?_
          refine z_iast F 7 (fun changed_26 => (w_M_ends1 G a_this a_height a_changeAt a_changeWas a_changeIs a_tape a_text a_names a_line a_row a_pastMany a_past a_changed a_greatest a_numbersWere a_told a_waysOf a_waysWere a_blocks a_ordersOf a_imageLine a_bodyKind a_trace a_shelf a_many a_items a_carried people keptMany done tapeMany textMany base_6 at__7 ends_8 fault_9 opened_10 lineMany rowMany taller tallerBy pasts isKept imageMany bodies ran ownKind ownNumber height tape text names_11 line row changed_26 greatest numbersWere)) rfl hf (fun _ => rfl) dX12_ends1_93 (fun changed_26 hf => ?_)
          refine z_aload_n F 2 dX12_ends1_94 rfl rfl ?_
          refine z_get F 0 12 27 inlX12 rfl rfl (by decide) fl_X12_46 rfl dX12_ends1_95 ?_
          refine z_iload_n F 1 dX12_ends1_98 rfl rfl ?_
          refine z_iload_n F 0 dX12_ends1_99 rfl rfl ?_
          refine z_aload_n F 2 dX12_ends1_100 rfl rfl ?_
          refine z_get F 0 12 27 inlX12 rfl rfl (by decide) fl_X12_46 rfl dX12_ends1_101 ?_
          refine z_iload_n F 1 dX12_ends1_104 rfl rfl ?_
          refine z_iald F 8 rfl hf dX12_ends1_105 (fun v_27 hf => ?_)
          refine z_icmp_le F 113 dX12_ends1_106 (by decide) hf (fun hf _ => ?_) (fun hf _ => ?_)
          · refine z_aload_n F 2 dX12_ends1_113 rfl rfl ?_
            refine z_get F 0 12 27 inlX12 rfl rfl (by decide) fl_X12_46 rfl dX12_ends1_114 ?_
            refine z_iload_n F 1 dX12_ends1_117 rfl rfl ?_
            refine z_iald F 8 rfl hf dX12_ends1_118 (fun v_28 hf => ?_)
            refine z_iast F 8 (fun greatest_29 => (w_M_ends1 G a_this a_height a_changeAt a_changeWas a_changeIs a_tape a_text a_names a_line a_row a_pastMany a_past a_changed a_greatest a_numbersWere a_told a_waysOf a_waysWere a_blocks a_ordersOf a_imageLine a_bodyKind a_trace a_shelf a_many a_items a_carried people keptMany done tapeMany textMany base_6 at__7 ends_8 fault_9 opened_10 lineMany rowMany taller tallerBy pasts isKept imageMany bodies ran ownKind ownNumber height tape text names_11 line row changed_26 greatest_29 numbersWere)) rfl hf (fun _ => rfl) dX12_ends1_119 (fun greatest_29 hf => ?_)
            refine z_iinc F [(1, .int (v1 + 1)), (3, .int r_5), (2, .int v_4), (0, .ref a_this)] dX12_ends1_120 3 rfl rfl (by decide) rfl ?_
            refine z_goto F 38 dX12_ends1_123 (by decide) ?_
            exact z_sub [3, 0] rfl (ih base_6 at__7 ends_8 fault_9 opened_10 names_11 changed_26 greatest_29 (v1 + 1) hf)
          · refine z_iload_n F 0 dX12_ends1_109 rfl rfl ?_
            refine z_goto F 119 dX12_ends1_110 (by decide) ?_
            refine z_iast F 8 (fun greatest_30 => (w_M_ends1 G a_this a_height a_changeAt a_changeWas a_changeIs a_tape a_text a_names a_line a_row a_pastMany a_past a_changed a_greatest a_numbersWere a_told a_waysOf a_waysWere a_blocks a_ordersOf a_imageLine a_bodyKind a_trace a_shelf a_many a_items a_carried people keptMany done tapeMany textMany base_6 at__7 ends_8 fault_9 opened_10 lineMany rowMany taller tallerBy pasts isKept imageMany bodies ran ownKind ownNumber height tape text names_11 line row changed_26 greatest_30 numbersWere)) rfl hf (fun _ => rfl) dX12_ends1_119 (fun greatest_30 hf => ?_)
            refine z_iinc F [(1, .int (v1 + 1)), (3, .int r_5), (2, .int v_4), (0, .ref a_this)] dX12_ends1_120 3 rfl rfl (by decide) rfl ?_
            refine z_goto F 38 dX12_ends1_123 (by decide) ?_
            exact z_sub [3, 0] rfl (ih base_6 at__7 ends_8 fault_9 opened_10 names_11 changed_26 greatest_30 (v1 + 1) hf)

set_option maxRecDepth 100000 in
set_option maxHeartbeats 4000000 in
theorem c_M_ends1 (l : Launch) (G : zG) (a_this : Nat) (a_height : Nat) (a_changeAt : Nat) (a_changeWas : Nat) (a_changeIs : Nat) (a_tape : Nat) (a_text : Nat) (a_names : Nat) (a_line : Nat) (a_row : Nat) (a_pastMany : Nat) (a_past : Nat) (a_changed : Nat) (a_greatest : Nat) (a_numbersWere : Nat) (a_told : Nat) (a_waysOf : Nat) (a_waysWere : Nat) (a_blocks : Nat) (a_ordersOf : Nat) (a_imageLine : Nat) (a_bodyKind : Nat) (a_trace : Nat) (a_shelf : Nat) (a_many : Nat) (a_items : Nat) (a_carried : Nat) (people : Int32) (keptMany : Int32) (done : Int32) (tapeMany : Int32) (textMany : Int32) (base : Int32) (at_ : Int32) (ends : Int32) (fault : Int32) (opened : Int32) (lineMany : Int32) (rowMany : Int32) (taller : Int32) (tallerBy : Int32) (pasts : Int32) (isKept : Int32) (imageMany : Int32) (bodies : Int32) (ran : Int32) (ownKind : Int32) (ownNumber : Int32) (height : Nat → Int32) (tape : Nat → Int32) (text : Nat → Int32) (names : Nat → Int32) (line : Nat → Int32) (row : Nat → Int32) (changed : Nat → Int32) (greatest : Nat → Int32) (numbersWere : Nat → Int32) (o_base : Int32) (o_at_ : Int32) (o_ends : Int32) (o_fault : Int32) (o_opened : Int32) (o_lineMany : Int32) (o_names : Nat → Int32) (o_line : Nat → Int32) (o_changed : Nat → Int32) (o_greatest : Nat → Int32) (hf : f_M_ends1 textMany base at_ ends fault opened lineMany rowMany taller tallerBy height tape text names line row changed greatest numbersWere = some (o_base, o_at_, o_ends, o_fault, o_opened, o_lineMany, o_names, o_line, o_changed, o_greatest)) : zM l yX12_ends1 cX12_ends1 4 none 152 3533 G [.ref a_this] (w_M_ends1 G a_this a_height a_changeAt a_changeWas a_changeIs a_tape a_text a_names a_line a_row a_pastMany a_past a_changed a_greatest a_numbersWere a_told a_waysOf a_waysWere a_blocks a_ordersOf a_imageLine a_bodyKind a_trace a_shelf a_many a_items a_carried people keptMany done tapeMany textMany base at_ ends fault opened lineMany rowMany taller tallerBy pasts isKept imageMany bodies ran ownKind ownNumber height tape text names line row changed greatest numbersWere) (none) (w_M_ends1 G a_this a_height a_changeAt a_changeWas a_changeIs a_tape a_text a_names a_line a_row a_pastMany a_past a_changed a_greatest a_numbersWere a_told a_waysOf a_waysWere a_blocks a_ordersOf a_imageLine a_bodyKind a_trace a_shelf a_many a_items a_carried people keptMany done tapeMany textMany o_base o_at_ o_ends o_fault o_opened o_lineMany rowMany taller tallerBy pasts isKept imageMany bodies ran ownKind ownNumber height tape text o_names o_line row o_changed o_greatest numbersWere) := by
  refine zM.of [(0, .ref a_this)] (own := RX12) rfl (by decide +kernel) (Nat.le_of_ble_eq_true rfl) rfl rfl fun X hX F => ?_
  subst hX
  replace hf := (f_M_ends1.eq_1 ..).symm.trans hf
  refine z_aload_n F 0 dX12_ends1_0 rfl rfl ?_
  refine z_aload_n F 0 dX12_ends1_1 rfl rfl ?_
  refine z_get F 0 12 20 inlX12 rfl rfl (by decide) fl_X12_184 rfl dX12_ends1_2 ?_
  refine z_put F 0 12 18 (w_M_ends1 G a_this a_height a_changeAt a_changeWas a_changeIs a_tape a_text a_names a_line a_row a_pastMany a_past a_changed a_greatest a_numbersWere a_told a_waysOf a_waysWere a_blocks a_ordersOf a_imageLine a_bodyKind a_trace a_shelf a_many a_items a_carried people keptMany done tapeMany textMany base at_ ends fault opened rowMany rowMany taller tallerBy pasts isKept imageMany bodies ran ownKind ownNumber height tape text names line row changed greatest numbersWere) inlX12 tyX12 tyX12_ok nmX12 rfl rfl (by decide) fl_X12_100 rfl rfl rfl (Nat.le_of_ble_eq_true rfl) rfl dX12_ends1_5 ?_
  refine z_iconst F (0) dX12_ends1_8 rfl ?_
  refine z_istore_n F [(1, .int 0), (0, .ref a_this)] dX12_ends1_9 rfl (by decide) rfl ?_
  obtain ⟨line_3, hg, hf⟩ := zb1_some hf
  refine z_sub [1, 0] rfl ?_
  refine l_M_ends1_10 G a_this a_height a_changeAt a_changeWas a_changeIs a_tape a_text a_names a_line a_row a_pastMany a_past a_changed a_greatest a_numbersWere a_told a_waysOf a_waysWere a_blocks a_ordersOf a_imageLine a_bodyKind a_trace a_shelf a_many a_items a_carried people keptMany done tapeMany textMany base at_ ends fault opened rowMany rowMany taller tallerBy pasts isKept imageMany bodies ran ownKind ownNumber height tape text names row changed greatest numbersWere F line_3 ?_ FU line 0 hg
  refine z_iconst F (0) dX12_ends1_36 rfl ?_
  refine z_istore_n F [(1, .int 0), (0, .ref a_this)] dX12_ends1_37 rfl (by decide) rfl ?_
  obtain ⟨base_31, at__32, ends_33, fault_34, opened_35, names_36, changed_37, greatest_38, hg, hf⟩ := zb8_some hf
  refine z_sub [1, 0] rfl ?_
  refine l_M_ends1_38 G a_this a_height a_changeAt a_changeWas a_changeIs a_tape a_text a_names a_line a_row a_pastMany a_past a_changed a_greatest a_numbersWere a_told a_waysOf a_waysWere a_blocks a_ordersOf a_imageLine a_bodyKind a_trace a_shelf a_many a_items a_carried people keptMany done tapeMany textMany rowMany rowMany taller tallerBy pasts isKept imageMany bodies ran ownKind ownNumber height tape text line_3 row numbersWere F base_31 at__32 ends_33 fault_34 opened_35 names_36 changed_37 greatest_38 ?_ FU base at_ ends fault opened names changed greatest 0 hg
  have eq1 := Option.some.inj hf
  obtain ⟨ee1, eq2⟩ := Prod.mk.inj eq1
  obtain ⟨ee2, eq3⟩ := Prod.mk.inj eq2
  obtain ⟨ee3, eq4⟩ := Prod.mk.inj eq3
  obtain ⟨ee4, eq5⟩ := Prod.mk.inj eq4
  obtain ⟨ee5, eq6⟩ := Prod.mk.inj eq5
  obtain ⟨ee6, eq7⟩ := Prod.mk.inj eq6
  obtain ⟨ee7, eq8⟩ := Prod.mk.inj eq7
  obtain ⟨ee8, eq9⟩ := Prod.mk.inj eq8
  obtain ⟨ee9, ee10⟩ := Prod.mk.inj eq9
  subst ee1
  subst ee2
  subst ee3
  subst ee4
  subst ee5
  subst ee6
  subst ee7
  subst ee8
  subst ee9
  subst ee10
  exact z_vret F rfl rfl rfl dX12_ends1_126

abbrev w_M_swap (G : zG) (a_this : Nat) (a_height : Nat) (a_changeAt : Nat) (a_changeWas : Nat) (a_changeIs : Nat) (a_tape : Nat) (a_text : Nat) (a_names : Nat) (a_line : Nat) (a_row : Nat) (a_pastMany : Nat) (a_past : Nat) (a_changed : Nat) (a_greatest : Nat) (a_numbersWere : Nat) (a_told : Nat) (a_waysOf : Nat) (a_waysWere : Nat) (a_blocks : Nat) (a_ordersOf : Nat) (a_imageLine : Nat) (a_bodyKind : Nat) (a_trace : Nat) (a_shelf : Nat) (a_many : Nat) (a_items : Nat) (a_carried : Nat) (people : Int32) (keptMany : Int32) (done : Int32) (tapeMany : Int32) (textMany : Int32) (base : Int32) (at_ : Int32) (ends : Int32) (fault : Int32) (opened : Int32) (lineMany : Int32) (rowMany : Int32) (taller : Int32) (tallerBy : Int32) (pasts : Int32) (isKept : Int32) (imageMany : Int32) (bodies : Int32) (ran : Int32) (ownKind : Int32) (ownNumber : Int32) (height : Nat → Int32) (tape : Nat → Int32) (text : Nat → Int32) (names : Nat → Int32) (line : Nat → Int32) (row : Nat → Int32) (pastMany : Nat → Int32) (past : Nat → Int32) (changed : Nat → Int32) (greatest : Nat → Int32) (numbersWere : Nat → Int32) : va_W := [(a_this, cO 12 [.int people, .ref a_height, .ref a_changeAt, .ref a_changeWas, .ref a_changeIs, .int keptMany, .int done, .ref a_tape, .int tapeMany, .ref a_text, .int textMany, .int base, .int at_, .int ends, .int fault, .int opened, .ref a_names, .ref a_line, .int lineMany, .ref a_row, .int rowMany, .int taller, .int tallerBy, .ref a_pastMany, .ref a_past, .int pasts, .ref a_changed, .ref a_greatest, .ref a_numbersWere, .ref a_told, .ref a_waysOf, .ref a_waysWere, .ref a_blocks, .ref a_ordersOf, .int isKept, .int imageMany, .ref a_imageLine, .int bodies, .ref a_bodyKind, .ref a_trace, .int ran, .int ownKind, .int ownNumber, .ref a_shelf, .ref a_many, .ref a_items, .ref a_carried]), (a_height, cI G 9 height), (a_tape, cI G 120 tape), (a_text, cI G 120 text), (a_names, cI G 5 names), (a_line, cI G 9 line), (a_row, cI G 9 row), (a_pastMany, cI G 12 pastMany), (a_past, cI G 108 past), (a_changed, cI G 9 changed), (a_greatest, cI G 9 greatest), (a_numbersWere, cI G 9 numbersWere)]
def f_M_swap (people : Int32) (textMany : Int32) (base : Int32) (at_ : Int32) (ends : Int32) (fault : Int32) (opened : Int32) (lineMany : Int32) (rowMany : Int32) (taller : Int32) (tallerBy : Int32) (pasts : Int32) (height : Nat → Int32) (tape : Nat → Int32) (text : Nat → Int32) (names : Nat → Int32) (line : Nat → Int32) (row : Nat → Int32) (pastMany : Nat → Int32) (past : Nat → Int32) (changed : Nat → Int32) (greatest : Nat → Int32) (numbersWere : Nat → Int32) (x1 : Int32) : Option (Int32 × Int32 × Int32 × Int32 × Int32 × Int32 × Int32 × Int32 × Int32 × Int32 × (Nat → Int32) × (Nat → Int32) × (Nat → Int32) × (Nat → Int32) × (Nat → Int32) × (Nat → Int32) × (Nat → Int32) × (Nat → Int32)) := (if (f_M_within (Int32.toInt64 x1) 0 (Int32.toInt64 (lineMany - (2 : Int32)))) = 0 then (some ((-1), base, at_, ends, fault, opened, lineMany, rowMany, taller, pasts, names, line, row, pastMany, past, changed, greatest, numbersWere)) else (zb13 (f_M_begins1 people textMany base at_ ends fault opened lineMany rowMany taller tallerBy pasts height tape text names line row pastMany past numbersWere) fun base_2 at__3 ends_4 fault_5 opened_6 rowMany_7 taller_8 pasts_9 names_10 row_11 pastMany_12 past_13 numbersWere_14 => (zb1 (f_M_changesIn row_11 x1 (x1 + (1 : Int32))) fun row_16 => (zb10 (f_M_ends1 textMany base_2 at__3 ends_4 fault_5 opened_6 lineMany rowMany_7 taller_8 tallerBy height tape text names_10 line row_16 changed greatest numbersWere_14) fun base_18 at__19 ends_20 fault_21 opened_22 lineMany_23 names_24 line_25 changed_26 greatest_27 => (zb7 (f_M_disquietOf textMany base_18 at__19 ends_20 fault_21 opened_22 rowMany_7 taller_8 tallerBy height tape text names_24 row_16) fun r_29 base_30 at__31 ends_32 fault_33 opened_34 names_35 => (some (r_29, base_30, at__31, ends_32, fault_33, opened_34, lineMany_23, rowMany_7, taller_8, pasts_9, names_35, line_25, row_16, pastMany_12, past_13, changed_26, greatest_27, numbersWere_14)))))))
set_option maxRecDepth 100000 in
set_option maxHeartbeats 4000000 in
theorem c_M_swap (l : Launch) (G : zG) (a_this : Nat) (a_height : Nat) (a_changeAt : Nat) (a_changeWas : Nat) (a_changeIs : Nat) (a_tape : Nat) (a_text : Nat) (a_names : Nat) (a_line : Nat) (a_row : Nat) (a_pastMany : Nat) (a_past : Nat) (a_changed : Nat) (a_greatest : Nat) (a_numbersWere : Nat) (a_told : Nat) (a_waysOf : Nat) (a_waysWere : Nat) (a_blocks : Nat) (a_ordersOf : Nat) (a_imageLine : Nat) (a_bodyKind : Nat) (a_trace : Nat) (a_shelf : Nat) (a_many : Nat) (a_items : Nat) (a_carried : Nat) (people : Int32) (keptMany : Int32) (done : Int32) (tapeMany : Int32) (textMany : Int32) (base : Int32) (at_ : Int32) (ends : Int32) (fault : Int32) (opened : Int32) (lineMany : Int32) (rowMany : Int32) (taller : Int32) (tallerBy : Int32) (pasts : Int32) (isKept : Int32) (imageMany : Int32) (bodies : Int32) (ran : Int32) (ownKind : Int32) (ownNumber : Int32) (height : Nat → Int32) (tape : Nat → Int32) (text : Nat → Int32) (names : Nat → Int32) (line : Nat → Int32) (row : Nat → Int32) (pastMany : Nat → Int32) (past : Nat → Int32) (changed : Nat → Int32) (greatest : Nat → Int32) (numbersWere : Nat → Int32) (x1 : Int32) (r_ : Int32) (o_base : Int32) (o_at_ : Int32) (o_ends : Int32) (o_fault : Int32) (o_opened : Int32) (o_lineMany : Int32) (o_rowMany : Int32) (o_taller : Int32) (o_pasts : Int32) (o_names : Nat → Int32) (o_line : Nat → Int32) (o_row : Nat → Int32) (o_pastMany : Nat → Int32) (o_past : Nat → Int32) (o_changed : Nat → Int32) (o_greatest : Nat → Int32) (o_numbersWere : Nat → Int32) (hf : f_M_swap people textMany base at_ ends fault opened lineMany rowMany taller tallerBy pasts height tape text names line row pastMany past changed greatest numbersWere x1 = some (r_, o_base, o_at_, o_ends, o_fault, o_opened, o_lineMany, o_rowMany, o_taller, o_pasts, o_names, o_line, o_row, o_pastMany, o_past, o_changed, o_greatest, o_numbersWere)) : zM l yX12_swap cX12_swap 2 (some .int) 154 3576 G [.ref a_this, .int x1] (w_M_swap G a_this a_height a_changeAt a_changeWas a_changeIs a_tape a_text a_names a_line a_row a_pastMany a_past a_changed a_greatest a_numbersWere a_told a_waysOf a_waysWere a_blocks a_ordersOf a_imageLine a_bodyKind a_trace a_shelf a_many a_items a_carried people keptMany done tapeMany textMany base at_ ends fault opened lineMany rowMany taller tallerBy pasts isKept imageMany bodies ran ownKind ownNumber height tape text names line row pastMany past changed greatest numbersWere) (some (.int r_)) (w_M_swap G a_this a_height a_changeAt a_changeWas a_changeIs a_tape a_text a_names a_line a_row a_pastMany a_past a_changed a_greatest a_numbersWere a_told a_waysOf a_waysWere a_blocks a_ordersOf a_imageLine a_bodyKind a_trace a_shelf a_many a_items a_carried people keptMany done tapeMany textMany o_base o_at_ o_ends o_fault o_opened o_lineMany o_rowMany o_taller tallerBy o_pasts isKept imageMany bodies ran ownKind ownNumber height tape text o_names o_line o_row o_pastMany o_past o_changed o_greatest o_numbersWere) := by
  refine zM.of [(0, .ref a_this), (1, .int x1)] (own := RX12) rfl (by decide +kernel) (Nat.le_of_ble_eq_true rfl) rfl rfl fun X hX F => ?_
  subst hX
  replace hf := (f_M_swap.eq_1 ..).symm.trans hf
  refine z_iload_n F 1 dX12_swap_0 rfl rfl ?_
  refine z_i2l F dX12_swap_1 ?_
  refine z_lconst F (0) dX12_swap_2 rfl ?_
  refine z_aload_n F 0 dX12_swap_3 rfl rfl ?_
  refine z_get F 0 12 18 inlX12 rfl rfl (by decide) fl_X12_100 rfl dX12_swap_4 ?_
  refine z_iconst F (2) dX12_swap_7 rfl ?_
  refine z_isub F dX12_swap_8 ?_
  refine z_i2l F dX12_swap_9 ?_
  refine z_callSm (rest := []) F (c_M_within (xL X) G (Int32.toInt64 x1) 0 (Int32.toInt64 (lineMany - (2 : Int32))) _ rfl) hy_X12_within ml_X12_96 hd_X12_within ⟨by omega, by omega⟩ rfl [] rfl rfl (w_M_swap G a_this a_height a_changeAt a_changeWas a_changeIs a_tape a_text a_names a_line a_row a_pastMany a_past a_changed a_greatest a_numbersWere a_told a_waysOf a_waysWere a_blocks a_ordersOf a_imageLine a_bodyKind a_trace a_shelf a_many a_items a_carried people keptMany done tapeMany textMany base at_ ends fault opened lineMany rowMany taller tallerBy pasts isKept imageMany bodies ran ownKind ownNumber height tape text names line row pastMany past changed greatest numbersWere) [none, none, none, none, none, none, none, none, none, none, none, none] rfl (by decide +kernel) rfl rfl (Nat.le_of_ble_eq_true rfl) dX12_swap_10 (fun hz_1 => ?_)
  refine z_if_ne F 18 dX12_swap_13 (by decide) hf (fun hf _ => ?_) (fun hf _ => ?_)
  · refine z_aload_n F 0 dX12_swap_18 rfl rfl ?_
    obtain ⟨base_2, at__3, ends_4, fault_5, opened_6, rowMany_7, taller_8, pasts_9, names_10, row_11, pastMany_12, past_13, numbersWere_14, hg, hf⟩ := zb13_some hf
    refine z_callVm (rest := []) F 12 (c_M_begins1 (xL X) G a_this a_height a_changeAt a_changeWas a_changeIs a_tape a_text a_names a_line a_row a_pastMany a_past a_changed a_greatest a_numbersWere a_told a_waysOf a_waysWere a_blocks a_ordersOf a_imageLine a_bodyKind a_trace a_shelf a_many a_items a_carried people keptMany done tapeMany textMany base at_ ends fault opened lineMany rowMany taller tallerBy pasts isKept imageMany bodies ran ownKind ownNumber height tape text names line row pastMany past numbersWere base_2 at__3 ends_4 fault_5 opened_6 rowMany_7 taller_8 pasts_9 names_10 row_11 pastMany_12 past_13 numbersWere_14 hg) hy_X12_begins1 ml_X12_245 hd_X12_begins1 ⟨by omega, by omega⟩ rfl [0, 1, 2, 3, 4, 5, 6, 7, 8, 11] rfl rfl 0 rfl rfl (w_M_swap G a_this a_height a_changeAt a_changeWas a_changeIs a_tape a_text a_names a_line a_row a_pastMany a_past a_changed a_greatest a_numbersWere a_told a_waysOf a_waysWere a_blocks a_ordersOf a_imageLine a_bodyKind a_trace a_shelf a_many a_items a_carried people keptMany done tapeMany textMany base_2 at__3 ends_4 fault_5 opened_6 lineMany rowMany_7 taller_8 tallerBy pasts_9 isKept imageMany bodies ran ownKind ownNumber height tape text names_10 line row_11 pastMany_12 past_13 changed greatest numbersWere_14) [some 0, some 1, some 2, some 3, some 4, some 5, some 6, some 7, some 8, none, none, some 9] rfl (by decide +kernel) rfl rfl (Nat.le_of_ble_eq_true rfl) dX12_swap_19 (fun hz_15 => ?_)
    refine z_aload_n F 0 dX12_swap_22 rfl rfl ?_
    refine z_iload_n F 1 dX12_swap_23 rfl rfl ?_
    refine z_iload_n F 1 dX12_swap_24 rfl rfl ?_
    refine z_iconst F (1) dX12_swap_25 rfl ?_
    refine z_iadd F dX12_swap_26 ?_
    obtain ⟨row_16, hg, hf⟩ := zb1_some hf
    refine z_callVm (rest := []) F 12 (c_M_changesIn (xL X) G a_this a_height a_changeAt a_changeWas a_changeIs a_tape a_text a_names a_line a_row a_pastMany a_past a_changed a_greatest a_numbersWere a_told a_waysOf a_waysWere a_blocks a_ordersOf a_imageLine a_bodyKind a_trace a_shelf a_many a_items a_carried people keptMany done tapeMany textMany base_2 at__3 ends_4 fault_5 opened_6 lineMany rowMany_7 taller_8 tallerBy pasts_9 isKept imageMany bodies ran ownKind ownNumber row_11 x1 (x1 + (1 : Int32)) row_16 hg) hy_X12_changesIn ml_X12_248 hd_X12_changesIn ⟨by omega, by omega⟩ rfl [0, 6] rfl rfl 0 rfl rfl (w_M_swap G a_this a_height a_changeAt a_changeWas a_changeIs a_tape a_text a_names a_line a_row a_pastMany a_past a_changed a_greatest a_numbersWere a_told a_waysOf a_waysWere a_blocks a_ordersOf a_imageLine a_bodyKind a_trace a_shelf a_many a_items a_carried people keptMany done tapeMany textMany base_2 at__3 ends_4 fault_5 opened_6 lineMany rowMany_7 taller_8 tallerBy pasts_9 isKept imageMany bodies ran ownKind ownNumber height tape text names_10 line row_16 pastMany_12 past_13 changed greatest numbersWere_14) [some 0, none, none, none, none, none, some 1, none, none, none, none, none] rfl (by decide +kernel) rfl rfl (Nat.le_of_ble_eq_true rfl) dX12_swap_27 (fun hz_17 => ?_)
    refine z_aload_n F 0 dX12_swap_30 rfl rfl ?_
    obtain ⟨base_18, at__19, ends_20, fault_21, opened_22, lineMany_23, names_24, line_25, changed_26, greatest_27, hg, hf⟩ := zb10_some hf
    refine z_callVm (rest := []) F 12 (c_M_ends1 (xL X) G a_this a_height a_changeAt a_changeWas a_changeIs a_tape a_text a_names a_line a_row a_pastMany a_past a_changed a_greatest a_numbersWere a_told a_waysOf a_waysWere a_blocks a_ordersOf a_imageLine a_bodyKind a_trace a_shelf a_many a_items a_carried people keptMany done tapeMany textMany base_2 at__3 ends_4 fault_5 opened_6 lineMany rowMany_7 taller_8 tallerBy pasts_9 isKept imageMany bodies ran ownKind ownNumber height tape text names_10 line row_16 changed greatest numbersWere_14 base_18 at__19 ends_20 fault_21 opened_22 lineMany_23 names_24 line_25 changed_26 greatest_27 hg) hy_X12_ends1 ml_X12_252 hd_X12_ends1 ⟨by omega, by omega⟩ rfl [0, 1, 2, 3, 4, 5, 6, 9, 10, 11] rfl rfl 0 rfl rfl (w_M_swap G a_this a_height a_changeAt a_changeWas a_changeIs a_tape a_text a_names a_line a_row a_pastMany a_past a_changed a_greatest a_numbersWere a_told a_waysOf a_waysWere a_blocks a_ordersOf a_imageLine a_bodyKind a_trace a_shelf a_many a_items a_carried people keptMany done tapeMany textMany base_18 at__19 ends_20 fault_21 opened_22 lineMany_23 rowMany_7 taller_8 tallerBy pasts_9 isKept imageMany bodies ran ownKind ownNumber height tape text names_24 line_25 row_16 pastMany_12 past_13 changed_26 greatest_27 numbersWere_14) [some 0, some 1, some 2, some 3, some 4, some 5, some 6, none, none, some 7, some 8, some 9] rfl (by decide +kernel) rfl rfl (Nat.le_of_ble_eq_true rfl) dX12_swap_31 (fun hz_28 => ?_)
    refine z_aload_n F 0 dX12_swap_34 rfl rfl ?_
    obtain ⟨r_29, base_30, at__31, ends_32, fault_33, opened_34, names_35, hg, hf⟩ := zb7_some hf
    refine z_callVm (rest := []) F 12 (c_M_disquietOf (xL X) G a_this a_height a_changeAt a_changeWas a_changeIs a_tape a_text a_names a_line a_row a_pastMany a_past a_changed a_greatest a_numbersWere a_told a_waysOf a_waysWere a_blocks a_ordersOf a_imageLine a_bodyKind a_trace a_shelf a_many a_items a_carried people keptMany done tapeMany textMany base_18 at__19 ends_20 fault_21 opened_22 lineMany_23 rowMany_7 taller_8 tallerBy pasts_9 isKept imageMany bodies ran ownKind ownNumber height tape text names_24 row_16 r_29 base_30 at__31 ends_32 fault_33 opened_34 names_35 hg) hy_X12_disquietOf ml_X12_206 hd_X12_disquietOf ⟨by omega, by omega⟩ rfl [0, 1, 2, 3, 4, 6] rfl rfl 0 rfl rfl (w_M_swap G a_this a_height a_changeAt a_changeWas a_changeIs a_tape a_text a_names a_line a_row a_pastMany a_past a_changed a_greatest a_numbersWere a_told a_waysOf a_waysWere a_blocks a_ordersOf a_imageLine a_bodyKind a_trace a_shelf a_many a_items a_carried people keptMany done tapeMany textMany base_30 at__31 ends_32 fault_33 opened_34 lineMany_23 rowMany_7 taller_8 tallerBy pasts_9 isKept imageMany bodies ran ownKind ownNumber height tape text names_35 line_25 row_16 pastMany_12 past_13 changed_26 greatest_27 numbersWere_14) [some 0, some 1, some 2, some 3, some 4, none, some 5, none, none, none, none, none] rfl (by decide +kernel) rfl rfl (Nat.le_of_ble_eq_true rfl) dX12_swap_35 (fun hz_36 => ?_)
    have eq1 := Option.some.inj hf
    obtain ⟨ee1, eq2⟩ := Prod.mk.inj eq1
    obtain ⟨ee2, eq3⟩ := Prod.mk.inj eq2
    obtain ⟨ee3, eq4⟩ := Prod.mk.inj eq3
    obtain ⟨ee4, eq5⟩ := Prod.mk.inj eq4
    obtain ⟨ee5, eq6⟩ := Prod.mk.inj eq5
    obtain ⟨ee6, eq7⟩ := Prod.mk.inj eq6
    obtain ⟨ee7, eq8⟩ := Prod.mk.inj eq7
    obtain ⟨ee8, eq9⟩ := Prod.mk.inj eq8
    obtain ⟨ee9, eq10⟩ := Prod.mk.inj eq9
    obtain ⟨ee10, eq11⟩ := Prod.mk.inj eq10
    obtain ⟨ee11, eq12⟩ := Prod.mk.inj eq11
    obtain ⟨ee12, eq13⟩ := Prod.mk.inj eq12
    obtain ⟨ee13, eq14⟩ := Prod.mk.inj eq13
    obtain ⟨ee14, eq15⟩ := Prod.mk.inj eq14
    obtain ⟨ee15, eq16⟩ := Prod.mk.inj eq15
    obtain ⟨ee16, eq17⟩ := Prod.mk.inj eq16
    obtain ⟨ee17, ee18⟩ := Prod.mk.inj eq17
    subst ee1
    subst ee2
    subst ee3
    subst ee4
    subst ee5
    subst ee6
    subst ee7
    subst ee8
    subst ee9
    subst ee10
    subst ee11
    subst ee12
    subst ee13
    subst ee14
    subst ee15
    subst ee16
    subst ee17
    subst ee18
    exact z_iret F rfl rfl rfl rfl dX12_swap_38
  · refine z_iconst F (-1) dX12_swap_16 rfl ?_
    have eq1 := Option.some.inj hf
    obtain ⟨ee1, eq2⟩ := Prod.mk.inj eq1
    obtain ⟨ee2, eq3⟩ := Prod.mk.inj eq2
    obtain ⟨ee3, eq4⟩ := Prod.mk.inj eq3
    obtain ⟨ee4, eq5⟩ := Prod.mk.inj eq4
    obtain ⟨ee5, eq6⟩ := Prod.mk.inj eq5
    obtain ⟨ee6, eq7⟩ := Prod.mk.inj eq6
    obtain ⟨ee7, eq8⟩ := Prod.mk.inj eq7
    obtain ⟨ee8, eq9⟩ := Prod.mk.inj eq8
    obtain ⟨ee9, eq10⟩ := Prod.mk.inj eq9
    obtain ⟨ee10, eq11⟩ := Prod.mk.inj eq10
    obtain ⟨ee11, eq12⟩ := Prod.mk.inj eq11
    obtain ⟨ee12, eq13⟩ := Prod.mk.inj eq12
    obtain ⟨ee13, eq14⟩ := Prod.mk.inj eq13
    obtain ⟨ee14, eq15⟩ := Prod.mk.inj eq14
    obtain ⟨ee15, eq16⟩ := Prod.mk.inj eq15
    obtain ⟨ee16, eq17⟩ := Prod.mk.inj eq16
    obtain ⟨ee17, ee18⟩ := Prod.mk.inj eq17
    subst ee1
    subst ee2
    subst ee3
    subst ee4
    subst ee5
    subst ee6
    subst ee7
    subst ee8
    subst ee9
    subst ee10
    subst ee11
    subst ee12
    subst ee13
    subst ee14
    subst ee15
    subst ee16
    subst ee17
    subst ee18
    exact z_iret F rfl rfl rfl rfl dX12_swap_17

abbrev w_M_enter (G : zG) (a_this : Nat) (a_height : Nat) (a_changeAt : Nat) (a_changeWas : Nat) (a_changeIs : Nat) (a_tape : Nat) (a_text : Nat) (a_names : Nat) (a_line : Nat) (a_row : Nat) (a_pastMany : Nat) (a_past : Nat) (a_changed : Nat) (a_greatest : Nat) (a_numbersWere : Nat) (a_told : Nat) (a_waysOf : Nat) (a_waysWere : Nat) (a_blocks : Nat) (a_ordersOf : Nat) (a_imageLine : Nat) (a_bodyKind : Nat) (a_trace : Nat) (a_shelf : Nat) (a_many : Nat) (a_items : Nat) (a_carried : Nat) (people : Int32) (keptMany : Int32) (done : Int32) (tapeMany : Int32) (textMany : Int32) (base : Int32) (at_ : Int32) (ends : Int32) (fault : Int32) (opened : Int32) (lineMany : Int32) (rowMany : Int32) (taller : Int32) (tallerBy : Int32) (pasts : Int32) (isKept : Int32) (imageMany : Int32) (bodies : Int32) (ran : Int32) (ownKind : Int32) (ownNumber : Int32) (height : Nat → Int32) (tape : Nat → Int32) (text : Nat → Int32) (names : Nat → Int32) (line : Nat → Int32) (row : Nat → Int32) (pastMany : Nat → Int32) (past : Nat → Int32) (changed : Nat → Int32) (greatest : Nat → Int32) (numbersWere : Nat → Int32) : va_W := [(a_this, cO 12 [.int people, .ref a_height, .ref a_changeAt, .ref a_changeWas, .ref a_changeIs, .int keptMany, .int done, .ref a_tape, .int tapeMany, .ref a_text, .int textMany, .int base, .int at_, .int ends, .int fault, .int opened, .ref a_names, .ref a_line, .int lineMany, .ref a_row, .int rowMany, .int taller, .int tallerBy, .ref a_pastMany, .ref a_past, .int pasts, .ref a_changed, .ref a_greatest, .ref a_numbersWere, .ref a_told, .ref a_waysOf, .ref a_waysWere, .ref a_blocks, .ref a_ordersOf, .int isKept, .int imageMany, .ref a_imageLine, .int bodies, .ref a_bodyKind, .ref a_trace, .int ran, .int ownKind, .int ownNumber, .ref a_shelf, .ref a_many, .ref a_items, .ref a_carried]), (a_height, cI G 9 height), (a_tape, cI G 120 tape), (a_text, cI G 120 text), (a_names, cI G 5 names), (a_line, cI G 9 line), (a_row, cI G 9 row), (a_pastMany, cI G 12 pastMany), (a_past, cI G 108 past), (a_changed, cI G 9 changed), (a_greatest, cI G 9 greatest), (a_numbersWere, cI G 9 numbersWere)]
def f_M_enter (people : Int32) (textMany : Int32) (base : Int32) (at_ : Int32) (ends : Int32) (fault : Int32) (opened : Int32) (lineMany : Int32) (rowMany : Int32) (taller : Int32) (tallerBy : Int32) (pasts : Int32) (height : Nat → Int32) (tape : Nat → Int32) (text : Nat → Int32) (names : Nat → Int32) (line : Nat → Int32) (row : Nat → Int32) (pastMany : Nat → Int32) (past : Nat → Int32) (changed : Nat → Int32) (greatest : Nat → Int32) (numbersWere : Nat → Int32) (x1 : Int32) (x2 : Int32) : Option (Int32 × Int32 × Int32 × Int32 × Int32 × Int32 × Int32 × Int32 × Int32 × Int32 × (Nat → Int32) × (Nat → Int32) × (Nat → Int32) × (Nat → Int32) × (Nat → Int32) × (Nat → Int32) × (Nat → Int32) × (Nat → Int32)) := (if (f_M_isPerson people x1) = 0 then (some ((-1), base, at_, ends, fault, opened, lineMany, rowMany, taller, pasts, names, line, row, pastMany, past, changed, greatest, numbersWere)) else (if (f_M_within (Int32.toInt64 x2) 0 (Int32.toInt64 lineMany)) = 0 then (some ((-1), base, at_, ends, fault, opened, lineMany, rowMany, taller, pasts, names, line, row, pastMany, past, changed, greatest, numbersWere)) else (zb1 (f_M_placeOf lineMany line x1) fun r_3 => (if r_3 < 0 then (zb13 (f_M_begins1 people textMany base at_ ends fault opened lineMany rowMany taller tallerBy pasts height tape text names line row pastMany past numbersWere) fun base_5 at__6 ends_7 fault_8 opened_9 rowMany_10 taller_11 pasts_12 names_13 row_14 pastMany_15 past_16 numbersWere_17 => (zb2 (f_M_putsIn rowMany_10 row_14 x1 x2) fun rowMany_19 row_20 => (zb10 (f_M_ends1 textMany base_5 at__6 ends_7 fault_8 opened_9 lineMany rowMany_19 taller_11 tallerBy height tape text names_13 line row_20 changed greatest numbersWere_17) fun base_22 at__23 ends_24 fault_25 opened_26 lineMany_27 names_28 line_29 changed_30 greatest_31 => (zb7 (f_M_disquietOf textMany base_22 at__23 ends_24 fault_25 opened_26 rowMany_19 taller_11 tallerBy height tape text names_28 row_20) fun r_33 base_34 at__35 ends_36 fault_37 opened_38 names_39 => (some (r_33, base_34, at__35, ends_36, fault_37, opened_38, lineMany_27, rowMany_19, taller_11, pasts_12, names_39, line_29, row_20, pastMany_15, past_16, changed_30, greatest_31, numbersWere_17)))))) else (some ((-5), base, at_, ends, fault, opened, lineMany, rowMany, taller, pasts, names, line, row, pastMany, past, changed, greatest, numbersWere))))))
set_option maxRecDepth 100000 in
set_option maxHeartbeats 4000000 in
theorem c_M_enter (l : Launch) (G : zG) (a_this : Nat) (a_height : Nat) (a_changeAt : Nat) (a_changeWas : Nat) (a_changeIs : Nat) (a_tape : Nat) (a_text : Nat) (a_names : Nat) (a_line : Nat) (a_row : Nat) (a_pastMany : Nat) (a_past : Nat) (a_changed : Nat) (a_greatest : Nat) (a_numbersWere : Nat) (a_told : Nat) (a_waysOf : Nat) (a_waysWere : Nat) (a_blocks : Nat) (a_ordersOf : Nat) (a_imageLine : Nat) (a_bodyKind : Nat) (a_trace : Nat) (a_shelf : Nat) (a_many : Nat) (a_items : Nat) (a_carried : Nat) (people : Int32) (keptMany : Int32) (done : Int32) (tapeMany : Int32) (textMany : Int32) (base : Int32) (at_ : Int32) (ends : Int32) (fault : Int32) (opened : Int32) (lineMany : Int32) (rowMany : Int32) (taller : Int32) (tallerBy : Int32) (pasts : Int32) (isKept : Int32) (imageMany : Int32) (bodies : Int32) (ran : Int32) (ownKind : Int32) (ownNumber : Int32) (height : Nat → Int32) (tape : Nat → Int32) (text : Nat → Int32) (names : Nat → Int32) (line : Nat → Int32) (row : Nat → Int32) (pastMany : Nat → Int32) (past : Nat → Int32) (changed : Nat → Int32) (greatest : Nat → Int32) (numbersWere : Nat → Int32) (x1 : Int32) (x2 : Int32) (r_ : Int32) (o_base : Int32) (o_at_ : Int32) (o_ends : Int32) (o_fault : Int32) (o_opened : Int32) (o_lineMany : Int32) (o_rowMany : Int32) (o_taller : Int32) (o_pasts : Int32) (o_names : Nat → Int32) (o_line : Nat → Int32) (o_row : Nat → Int32) (o_pastMany : Nat → Int32) (o_past : Nat → Int32) (o_changed : Nat → Int32) (o_greatest : Nat → Int32) (o_numbersWere : Nat → Int32) (hf : f_M_enter people textMany base at_ ends fault opened lineMany rowMany taller tallerBy pasts height tape text names line row pastMany past changed greatest numbersWere x1 x2 = some (r_, o_base, o_at_, o_ends, o_fault, o_opened, o_lineMany, o_rowMany, o_taller, o_pasts, o_names, o_line, o_row, o_pastMany, o_past, o_changed, o_greatest, o_numbersWere)) : zM l yX12_enter cX12_enter 3 (some .int) 154 3576 G [.ref a_this, .int x1, .int x2] (w_M_enter G a_this a_height a_changeAt a_changeWas a_changeIs a_tape a_text a_names a_line a_row a_pastMany a_past a_changed a_greatest a_numbersWere a_told a_waysOf a_waysWere a_blocks a_ordersOf a_imageLine a_bodyKind a_trace a_shelf a_many a_items a_carried people keptMany done tapeMany textMany base at_ ends fault opened lineMany rowMany taller tallerBy pasts isKept imageMany bodies ran ownKind ownNumber height tape text names line row pastMany past changed greatest numbersWere) (some (.int r_)) (w_M_enter G a_this a_height a_changeAt a_changeWas a_changeIs a_tape a_text a_names a_line a_row a_pastMany a_past a_changed a_greatest a_numbersWere a_told a_waysOf a_waysWere a_blocks a_ordersOf a_imageLine a_bodyKind a_trace a_shelf a_many a_items a_carried people keptMany done tapeMany textMany o_base o_at_ o_ends o_fault o_opened o_lineMany o_rowMany o_taller tallerBy o_pasts isKept imageMany bodies ran ownKind ownNumber height tape text o_names o_line o_row o_pastMany o_past o_changed o_greatest o_numbersWere) := by
  refine zM.of [(0, .ref a_this), (1, .int x1), (2, .int x2)] (own := RX12) rfl (by decide +kernel) (Nat.le_of_ble_eq_true rfl) rfl rfl fun X hX F => ?_
  subst hX
  replace hf := (f_M_enter.eq_1 ..).symm.trans hf
  refine z_aload_n F 0 dX12_enter_0 rfl rfl ?_
  refine z_iload_n F 1 dX12_enter_1 rfl rfl ?_
  refine z_callVm (rest := []) F 12 (c_M_isPerson (xL X) G a_this a_height a_changeAt a_changeWas a_changeIs a_tape a_text a_names a_line a_row a_pastMany a_past a_changed a_greatest a_numbersWere a_told a_waysOf a_waysWere a_blocks a_ordersOf a_imageLine a_bodyKind a_trace a_shelf a_many a_items a_carried people keptMany done tapeMany textMany base at_ ends fault opened lineMany rowMany taller tallerBy pasts isKept imageMany bodies ran ownKind ownNumber x1 _ rfl) hy_X12_isPerson ml_X12_119 hd_X12_isPerson ⟨by omega, by omega⟩ rfl [0] rfl rfl 0 rfl rfl (w_M_enter G a_this a_height a_changeAt a_changeWas a_changeIs a_tape a_text a_names a_line a_row a_pastMany a_past a_changed a_greatest a_numbersWere a_told a_waysOf a_waysWere a_blocks a_ordersOf a_imageLine a_bodyKind a_trace a_shelf a_many a_items a_carried people keptMany done tapeMany textMany base at_ ends fault opened lineMany rowMany taller tallerBy pasts isKept imageMany bodies ran ownKind ownNumber height tape text names line row pastMany past changed greatest numbersWere) [some 0, none, none, none, none, none, none, none, none, none, none, none] rfl (by decide +kernel) rfl rfl (Nat.le_of_ble_eq_true rfl) dX12_enter_2 (fun hz_1 => ?_)
  refine z_if_eq F 22 dX12_enter_5 (by decide) hf (fun hf _ => ?_) (fun hf _ => ?_)
  · refine z_iconst F (-1) dX12_enter_22 rfl ?_
    have eq1 := Option.some.inj hf
    obtain ⟨ee1, eq2⟩ := Prod.mk.inj eq1
    obtain ⟨ee2, eq3⟩ := Prod.mk.inj eq2
    obtain ⟨ee3, eq4⟩ := Prod.mk.inj eq3
    obtain ⟨ee4, eq5⟩ := Prod.mk.inj eq4
    obtain ⟨ee5, eq6⟩ := Prod.mk.inj eq5
    obtain ⟨ee6, eq7⟩ := Prod.mk.inj eq6
    obtain ⟨ee7, eq8⟩ := Prod.mk.inj eq7
    obtain ⟨ee8, eq9⟩ := Prod.mk.inj eq8
    obtain ⟨ee9, eq10⟩ := Prod.mk.inj eq9
    obtain ⟨ee10, eq11⟩ := Prod.mk.inj eq10
    obtain ⟨ee11, eq12⟩ := Prod.mk.inj eq11
    obtain ⟨ee12, eq13⟩ := Prod.mk.inj eq12
    obtain ⟨ee13, eq14⟩ := Prod.mk.inj eq13
    obtain ⟨ee14, eq15⟩ := Prod.mk.inj eq14
    obtain ⟨ee15, eq16⟩ := Prod.mk.inj eq15
    obtain ⟨ee16, eq17⟩ := Prod.mk.inj eq16
    obtain ⟨ee17, ee18⟩ := Prod.mk.inj eq17
    subst ee1
    subst ee2
    subst ee3
    subst ee4
    subst ee5
    subst ee6
    subst ee7
    subst ee8
    subst ee9
    subst ee10
    subst ee11
    subst ee12
    subst ee13
    subst ee14
    subst ee15
    subst ee16
    subst ee17
    subst ee18
    exact z_iret F rfl rfl rfl rfl dX12_enter_23
  · refine z_iload_n F 2 dX12_enter_8 rfl rfl ?_
    refine z_i2l F dX12_enter_9 ?_
    refine z_lconst F (0) dX12_enter_10 rfl ?_
    refine z_aload_n F 0 dX12_enter_11 rfl rfl ?_
    refine z_get F 0 12 18 inlX12 rfl rfl (by decide) fl_X12_100 rfl dX12_enter_12 ?_
    refine z_i2l F dX12_enter_15 ?_
    refine z_callSm (rest := []) F (c_M_within (xL X) G (Int32.toInt64 x2) 0 (Int32.toInt64 lineMany) _ rfl) hy_X12_within ml_X12_96 hd_X12_within ⟨by omega, by omega⟩ rfl [] rfl rfl (w_M_enter G a_this a_height a_changeAt a_changeWas a_changeIs a_tape a_text a_names a_line a_row a_pastMany a_past a_changed a_greatest a_numbersWere a_told a_waysOf a_waysWere a_blocks a_ordersOf a_imageLine a_bodyKind a_trace a_shelf a_many a_items a_carried people keptMany done tapeMany textMany base at_ ends fault opened lineMany rowMany taller tallerBy pasts isKept imageMany bodies ran ownKind ownNumber height tape text names line row pastMany past changed greatest numbersWere) [none, none, none, none, none, none, none, none, none, none, none, none] rfl (by decide +kernel) rfl rfl (Nat.le_of_ble_eq_true rfl) dX12_enter_16 (fun hz_2 => ?_)
    refine z_if_ne F 24 dX12_enter_19 (by decide) hf (fun hf _ => ?_) (fun hf _ => ?_)
    · refine z_aload_n F 0 dX12_enter_24 rfl rfl ?_
      refine z_iload_n F 1 dX12_enter_25 rfl rfl ?_
      obtain ⟨r_3, hg, hf⟩ := zb1_some hf
      refine z_callVm (rest := []) F 12 (c_M_placeOf (xL X) G a_this a_height a_changeAt a_changeWas a_changeIs a_tape a_text a_names a_line a_row a_pastMany a_past a_changed a_greatest a_numbersWere a_told a_waysOf a_waysWere a_blocks a_ordersOf a_imageLine a_bodyKind a_trace a_shelf a_many a_items a_carried people keptMany done tapeMany textMany base at_ ends fault opened lineMany rowMany taller tallerBy pasts isKept imageMany bodies ran ownKind ownNumber line x1 r_3 hg) hy_X12_placeOf ml_X12_224 hd_X12_placeOf ⟨by omega, by omega⟩ rfl [0, 5] rfl rfl 0 rfl rfl (w_M_enter G a_this a_height a_changeAt a_changeWas a_changeIs a_tape a_text a_names a_line a_row a_pastMany a_past a_changed a_greatest a_numbersWere a_told a_waysOf a_waysWere a_blocks a_ordersOf a_imageLine a_bodyKind a_trace a_shelf a_many a_items a_carried people keptMany done tapeMany textMany base at_ ends fault opened lineMany rowMany taller tallerBy pasts isKept imageMany bodies ran ownKind ownNumber height tape text names line row pastMany past changed greatest numbersWere) [some 0, none, none, none, none, some 1, none, none, none, none, none, none] rfl (by decide +kernel) rfl rfl (Nat.le_of_ble_eq_true rfl) dX12_enter_26 (fun hz_4 => ?_)
      refine z_if_lt F 35 dX12_enter_29 (by decide) hf (fun hf _ => ?_) (fun hf _ => ?_)
      · refine z_aload_n F 0 dX12_enter_35 rfl rfl ?_
        obtain ⟨base_5, at__6, ends_7, fault_8, opened_9, rowMany_10, taller_11, pasts_12, names_13, row_14, pastMany_15, past_16, numbersWere_17, hg, hf⟩ := zb13_some hf
        refine z_callVm (rest := []) F 12 (c_M_begins1 (xL X) G a_this a_height a_changeAt a_changeWas a_changeIs a_tape a_text a_names a_line a_row a_pastMany a_past a_changed a_greatest a_numbersWere a_told a_waysOf a_waysWere a_blocks a_ordersOf a_imageLine a_bodyKind a_trace a_shelf a_many a_items a_carried people keptMany done tapeMany textMany base at_ ends fault opened lineMany rowMany taller tallerBy pasts isKept imageMany bodies ran ownKind ownNumber height tape text names line row pastMany past numbersWere base_5 at__6 ends_7 fault_8 opened_9 rowMany_10 taller_11 pasts_12 names_13 row_14 pastMany_15 past_16 numbersWere_17 hg) hy_X12_begins1 ml_X12_245 hd_X12_begins1 ⟨by omega, by omega⟩ rfl [0, 1, 2, 3, 4, 5, 6, 7, 8, 11] rfl rfl 0 rfl rfl (w_M_enter G a_this a_height a_changeAt a_changeWas a_changeIs a_tape a_text a_names a_line a_row a_pastMany a_past a_changed a_greatest a_numbersWere a_told a_waysOf a_waysWere a_blocks a_ordersOf a_imageLine a_bodyKind a_trace a_shelf a_many a_items a_carried people keptMany done tapeMany textMany base_5 at__6 ends_7 fault_8 opened_9 lineMany rowMany_10 taller_11 tallerBy pasts_12 isKept imageMany bodies ran ownKind ownNumber height tape text names_13 line row_14 pastMany_15 past_16 changed greatest numbersWere_17) [some 0, some 1, some 2, some 3, some 4, some 5, some 6, some 7, some 8, none, none, some 9] rfl (by decide +kernel) rfl rfl (Nat.le_of_ble_eq_true rfl) dX12_enter_36 (fun hz_18 => ?_)
        refine z_aload_n F 0 dX12_enter_39 rfl rfl ?_
        refine z_iload_n F 1 dX12_enter_40 rfl rfl ?_
        refine z_iload_n F 2 dX12_enter_41 rfl rfl ?_
        obtain ⟨rowMany_19, row_20, hg, hf⟩ := zb2_some hf
        refine z_callVm (rest := []) F 12 (c_M_putsIn (xL X) G a_this a_height a_changeAt a_changeWas a_changeIs a_tape a_text a_names a_line a_row a_pastMany a_past a_changed a_greatest a_numbersWere a_told a_waysOf a_waysWere a_blocks a_ordersOf a_imageLine a_bodyKind a_trace a_shelf a_many a_items a_carried people keptMany done tapeMany textMany base_5 at__6 ends_7 fault_8 opened_9 lineMany rowMany_10 taller_11 tallerBy pasts_12 isKept imageMany bodies ran ownKind ownNumber row_14 x1 x2 rowMany_19 row_20 hg) hy_X12_putsIn ml_X12_255 hd_X12_putsIn ⟨by omega, by omega⟩ rfl [0, 6] rfl rfl 0 rfl rfl (w_M_enter G a_this a_height a_changeAt a_changeWas a_changeIs a_tape a_text a_names a_line a_row a_pastMany a_past a_changed a_greatest a_numbersWere a_told a_waysOf a_waysWere a_blocks a_ordersOf a_imageLine a_bodyKind a_trace a_shelf a_many a_items a_carried people keptMany done tapeMany textMany base_5 at__6 ends_7 fault_8 opened_9 lineMany rowMany_19 taller_11 tallerBy pasts_12 isKept imageMany bodies ran ownKind ownNumber height tape text names_13 line row_20 pastMany_15 past_16 changed greatest numbersWere_17) [some 0, none, none, none, none, none, some 1, none, none, none, none, none] rfl (by decide +kernel) rfl rfl (Nat.le_of_ble_eq_true rfl) dX12_enter_42 (fun hz_21 => ?_)
        refine z_aload_n F 0 dX12_enter_45 rfl rfl ?_
        obtain ⟨base_22, at__23, ends_24, fault_25, opened_26, lineMany_27, names_28, line_29, changed_30, greatest_31, hg, hf⟩ := zb10_some hf
        refine z_callVm (rest := []) F 12 (c_M_ends1 (xL X) G a_this a_height a_changeAt a_changeWas a_changeIs a_tape a_text a_names a_line a_row a_pastMany a_past a_changed a_greatest a_numbersWere a_told a_waysOf a_waysWere a_blocks a_ordersOf a_imageLine a_bodyKind a_trace a_shelf a_many a_items a_carried people keptMany done tapeMany textMany base_5 at__6 ends_7 fault_8 opened_9 lineMany rowMany_19 taller_11 tallerBy pasts_12 isKept imageMany bodies ran ownKind ownNumber height tape text names_13 line row_20 changed greatest numbersWere_17 base_22 at__23 ends_24 fault_25 opened_26 lineMany_27 names_28 line_29 changed_30 greatest_31 hg) hy_X12_ends1 ml_X12_252 hd_X12_ends1 ⟨by omega, by omega⟩ rfl [0, 1, 2, 3, 4, 5, 6, 9, 10, 11] rfl rfl 0 rfl rfl (w_M_enter G a_this a_height a_changeAt a_changeWas a_changeIs a_tape a_text a_names a_line a_row a_pastMany a_past a_changed a_greatest a_numbersWere a_told a_waysOf a_waysWere a_blocks a_ordersOf a_imageLine a_bodyKind a_trace a_shelf a_many a_items a_carried people keptMany done tapeMany textMany base_22 at__23 ends_24 fault_25 opened_26 lineMany_27 rowMany_19 taller_11 tallerBy pasts_12 isKept imageMany bodies ran ownKind ownNumber height tape text names_28 line_29 row_20 pastMany_15 past_16 changed_30 greatest_31 numbersWere_17) [some 0, some 1, some 2, some 3, some 4, some 5, some 6, none, none, some 7, some 8, some 9] rfl (by decide +kernel) rfl rfl (Nat.le_of_ble_eq_true rfl) dX12_enter_46 (fun hz_32 => ?_)
        refine z_aload_n F 0 dX12_enter_49 rfl rfl ?_
        obtain ⟨r_33, base_34, at__35, ends_36, fault_37, opened_38, names_39, hg, hf⟩ := zb7_some hf
        refine z_callVm (rest := []) F 12 (c_M_disquietOf (xL X) G a_this a_height a_changeAt a_changeWas a_changeIs a_tape a_text a_names a_line a_row a_pastMany a_past a_changed a_greatest a_numbersWere a_told a_waysOf a_waysWere a_blocks a_ordersOf a_imageLine a_bodyKind a_trace a_shelf a_many a_items a_carried people keptMany done tapeMany textMany base_22 at__23 ends_24 fault_25 opened_26 lineMany_27 rowMany_19 taller_11 tallerBy pasts_12 isKept imageMany bodies ran ownKind ownNumber height tape text names_28 row_20 r_33 base_34 at__35 ends_36 fault_37 opened_38 names_39 hg) hy_X12_disquietOf ml_X12_206 hd_X12_disquietOf ⟨by omega, by omega⟩ rfl [0, 1, 2, 3, 4, 6] rfl rfl 0 rfl rfl (w_M_enter G a_this a_height a_changeAt a_changeWas a_changeIs a_tape a_text a_names a_line a_row a_pastMany a_past a_changed a_greatest a_numbersWere a_told a_waysOf a_waysWere a_blocks a_ordersOf a_imageLine a_bodyKind a_trace a_shelf a_many a_items a_carried people keptMany done tapeMany textMany base_34 at__35 ends_36 fault_37 opened_38 lineMany_27 rowMany_19 taller_11 tallerBy pasts_12 isKept imageMany bodies ran ownKind ownNumber height tape text names_39 line_29 row_20 pastMany_15 past_16 changed_30 greatest_31 numbersWere_17) [some 0, some 1, some 2, some 3, some 4, none, some 5, none, none, none, none, none] rfl (by decide +kernel) rfl rfl (Nat.le_of_ble_eq_true rfl) dX12_enter_50 (fun hz_40 => ?_)
        have eq1 := Option.some.inj hf
        obtain ⟨ee1, eq2⟩ := Prod.mk.inj eq1
        obtain ⟨ee2, eq3⟩ := Prod.mk.inj eq2
        obtain ⟨ee3, eq4⟩ := Prod.mk.inj eq3
        obtain ⟨ee4, eq5⟩ := Prod.mk.inj eq4
        obtain ⟨ee5, eq6⟩ := Prod.mk.inj eq5
        obtain ⟨ee6, eq7⟩ := Prod.mk.inj eq6
        obtain ⟨ee7, eq8⟩ := Prod.mk.inj eq7
        obtain ⟨ee8, eq9⟩ := Prod.mk.inj eq8
        obtain ⟨ee9, eq10⟩ := Prod.mk.inj eq9
        obtain ⟨ee10, eq11⟩ := Prod.mk.inj eq10
        obtain ⟨ee11, eq12⟩ := Prod.mk.inj eq11
        obtain ⟨ee12, eq13⟩ := Prod.mk.inj eq12
        obtain ⟨ee13, eq14⟩ := Prod.mk.inj eq13
        obtain ⟨ee14, eq15⟩ := Prod.mk.inj eq14
        obtain ⟨ee15, eq16⟩ := Prod.mk.inj eq15
        obtain ⟨ee16, eq17⟩ := Prod.mk.inj eq16
        obtain ⟨ee17, ee18⟩ := Prod.mk.inj eq17
        subst ee1
        subst ee2
        subst ee3
        subst ee4
        subst ee5
        subst ee6
        subst ee7
        subst ee8
        subst ee9
        subst ee10
        subst ee11
        subst ee12
        subst ee13
        subst ee14
        subst ee15
        subst ee16
        subst ee17
        subst ee18
        exact z_iret F rfl rfl rfl rfl dX12_enter_53
      · refine z_bipush F (-5) dX12_enter_32 rfl ?_
        have eq1 := Option.some.inj hf
        obtain ⟨ee1, eq2⟩ := Prod.mk.inj eq1
        obtain ⟨ee2, eq3⟩ := Prod.mk.inj eq2
        obtain ⟨ee3, eq4⟩ := Prod.mk.inj eq3
        obtain ⟨ee4, eq5⟩ := Prod.mk.inj eq4
        obtain ⟨ee5, eq6⟩ := Prod.mk.inj eq5
        obtain ⟨ee6, eq7⟩ := Prod.mk.inj eq6
        obtain ⟨ee7, eq8⟩ := Prod.mk.inj eq7
        obtain ⟨ee8, eq9⟩ := Prod.mk.inj eq8
        obtain ⟨ee9, eq10⟩ := Prod.mk.inj eq9
        obtain ⟨ee10, eq11⟩ := Prod.mk.inj eq10
        obtain ⟨ee11, eq12⟩ := Prod.mk.inj eq11
        obtain ⟨ee12, eq13⟩ := Prod.mk.inj eq12
        obtain ⟨ee13, eq14⟩ := Prod.mk.inj eq13
        obtain ⟨ee14, eq15⟩ := Prod.mk.inj eq14
        obtain ⟨ee15, eq16⟩ := Prod.mk.inj eq15
        obtain ⟨ee16, eq17⟩ := Prod.mk.inj eq16
        obtain ⟨ee17, ee18⟩ := Prod.mk.inj eq17
        subst ee1
        subst ee2
        subst ee3
        subst ee4
        subst ee5
        subst ee6
        subst ee7
        subst ee8
        subst ee9
        subst ee10
        subst ee11
        subst ee12
        subst ee13
        subst ee14
        subst ee15
        subst ee16
        subst ee17
        subst ee18
        exact z_iret F rfl rfl rfl rfl dX12_enter_34
    · refine z_iconst F (-1) dX12_enter_22 rfl ?_
      have eq1 := Option.some.inj hf
      obtain ⟨ee1, eq2⟩ := Prod.mk.inj eq1
      obtain ⟨ee2, eq3⟩ := Prod.mk.inj eq2
      obtain ⟨ee3, eq4⟩ := Prod.mk.inj eq3
      obtain ⟨ee4, eq5⟩ := Prod.mk.inj eq4
      obtain ⟨ee5, eq6⟩ := Prod.mk.inj eq5
      obtain ⟨ee6, eq7⟩ := Prod.mk.inj eq6
      obtain ⟨ee7, eq8⟩ := Prod.mk.inj eq7
      obtain ⟨ee8, eq9⟩ := Prod.mk.inj eq8
      obtain ⟨ee9, eq10⟩ := Prod.mk.inj eq9
      obtain ⟨ee10, eq11⟩ := Prod.mk.inj eq10
      obtain ⟨ee11, eq12⟩ := Prod.mk.inj eq11
      obtain ⟨ee12, eq13⟩ := Prod.mk.inj eq12
      obtain ⟨ee13, eq14⟩ := Prod.mk.inj eq13
      obtain ⟨ee14, eq15⟩ := Prod.mk.inj eq14
      obtain ⟨ee15, eq16⟩ := Prod.mk.inj eq15
      obtain ⟨ee16, eq17⟩ := Prod.mk.inj eq16
      obtain ⟨ee17, ee18⟩ := Prod.mk.inj eq17
      subst ee1
      subst ee2
      subst ee3
      subst ee4
      subst ee5
      subst ee6
      subst ee7
      subst ee8
      subst ee9
      subst ee10
      subst ee11
      subst ee12
      subst ee13
      subst ee14
      subst ee15
      subst ee16
      subst ee17
      subst ee18
      exact z_iret F rfl rfl rfl rfl dX12_enter_23

abbrev w_M_leave (G : zG) (a_this : Nat) (a_height : Nat) (a_changeAt : Nat) (a_changeWas : Nat) (a_changeIs : Nat) (a_tape : Nat) (a_text : Nat) (a_names : Nat) (a_line : Nat) (a_row : Nat) (a_pastMany : Nat) (a_past : Nat) (a_changed : Nat) (a_greatest : Nat) (a_numbersWere : Nat) (a_told : Nat) (a_waysOf : Nat) (a_waysWere : Nat) (a_blocks : Nat) (a_ordersOf : Nat) (a_imageLine : Nat) (a_bodyKind : Nat) (a_trace : Nat) (a_shelf : Nat) (a_many : Nat) (a_items : Nat) (a_carried : Nat) (people : Int32) (keptMany : Int32) (done : Int32) (tapeMany : Int32) (textMany : Int32) (base : Int32) (at_ : Int32) (ends : Int32) (fault : Int32) (opened : Int32) (lineMany : Int32) (rowMany : Int32) (taller : Int32) (tallerBy : Int32) (pasts : Int32) (isKept : Int32) (imageMany : Int32) (bodies : Int32) (ran : Int32) (ownKind : Int32) (ownNumber : Int32) (height : Nat → Int32) (tape : Nat → Int32) (text : Nat → Int32) (names : Nat → Int32) (line : Nat → Int32) (row : Nat → Int32) (pastMany : Nat → Int32) (past : Nat → Int32) (changed : Nat → Int32) (greatest : Nat → Int32) (numbersWere : Nat → Int32) : va_W := [(a_this, cO 12 [.int people, .ref a_height, .ref a_changeAt, .ref a_changeWas, .ref a_changeIs, .int keptMany, .int done, .ref a_tape, .int tapeMany, .ref a_text, .int textMany, .int base, .int at_, .int ends, .int fault, .int opened, .ref a_names, .ref a_line, .int lineMany, .ref a_row, .int rowMany, .int taller, .int tallerBy, .ref a_pastMany, .ref a_past, .int pasts, .ref a_changed, .ref a_greatest, .ref a_numbersWere, .ref a_told, .ref a_waysOf, .ref a_waysWere, .ref a_blocks, .ref a_ordersOf, .int isKept, .int imageMany, .ref a_imageLine, .int bodies, .ref a_bodyKind, .ref a_trace, .int ran, .int ownKind, .int ownNumber, .ref a_shelf, .ref a_many, .ref a_items, .ref a_carried]), (a_height, cI G 9 height), (a_tape, cI G 120 tape), (a_text, cI G 120 text), (a_names, cI G 5 names), (a_line, cI G 9 line), (a_row, cI G 9 row), (a_pastMany, cI G 12 pastMany), (a_past, cI G 108 past), (a_changed, cI G 9 changed), (a_greatest, cI G 9 greatest), (a_numbersWere, cI G 9 numbersWere)]
def f_M_leave (people : Int32) (textMany : Int32) (base : Int32) (at_ : Int32) (ends : Int32) (fault : Int32) (opened : Int32) (lineMany : Int32) (rowMany : Int32) (taller : Int32) (tallerBy : Int32) (pasts : Int32) (height : Nat → Int32) (tape : Nat → Int32) (text : Nat → Int32) (names : Nat → Int32) (line : Nat → Int32) (row : Nat → Int32) (pastMany : Nat → Int32) (past : Nat → Int32) (changed : Nat → Int32) (greatest : Nat → Int32) (numbersWere : Nat → Int32) (x1 : Int32) : Option (Int32 × Int32 × Int32 × Int32 × Int32 × Int32 × Int32 × Int32 × Int32 × Int32 × (Nat → Int32) × (Nat → Int32) × (Nat → Int32) × (Nat → Int32) × (Nat → Int32) × (Nat → Int32) × (Nat → Int32) × (Nat → Int32)) := (if (f_M_isPlace lineMany x1) = 0 then (some ((-1), base, at_, ends, fault, opened, lineMany, rowMany, taller, pasts, names, line, row, pastMany, past, changed, greatest, numbersWere)) else (zb13 (f_M_begins1 people textMany base at_ ends fault opened lineMany rowMany taller tallerBy pasts height tape text names line row pastMany past numbersWere) fun base_2 at__3 ends_4 fault_5 opened_6 rowMany_7 taller_8 pasts_9 names_10 row_11 pastMany_12 past_13 numbersWere_14 => (zg row_11 9 x1 fun v_16 => (zb2 (f_M_takesOut rowMany_7 row_11 x1) fun rowMany_17 row_18 => (zb10 (f_M_ends1 textMany base_2 at__3 ends_4 fault_5 opened_6 lineMany rowMany_17 taller_8 tallerBy height tape text names_10 line row_18 changed greatest numbersWere_14) fun base_20 at__21 ends_22 fault_23 opened_24 lineMany_25 names_26 line_27 changed_28 greatest_29 => (some (v_16, base_20, at__21, ends_22, fault_23, opened_24, lineMany_25, rowMany_17, taller_8, pasts_9, names_26, line_27, row_18, pastMany_12, past_13, changed_28, greatest_29, numbersWere_14)))))))
set_option maxRecDepth 100000 in
set_option maxHeartbeats 4000000 in
theorem c_M_leave (l : Launch) (G : zG) (a_this : Nat) (a_height : Nat) (a_changeAt : Nat) (a_changeWas : Nat) (a_changeIs : Nat) (a_tape : Nat) (a_text : Nat) (a_names : Nat) (a_line : Nat) (a_row : Nat) (a_pastMany : Nat) (a_past : Nat) (a_changed : Nat) (a_greatest : Nat) (a_numbersWere : Nat) (a_told : Nat) (a_waysOf : Nat) (a_waysWere : Nat) (a_blocks : Nat) (a_ordersOf : Nat) (a_imageLine : Nat) (a_bodyKind : Nat) (a_trace : Nat) (a_shelf : Nat) (a_many : Nat) (a_items : Nat) (a_carried : Nat) (people : Int32) (keptMany : Int32) (done : Int32) (tapeMany : Int32) (textMany : Int32) (base : Int32) (at_ : Int32) (ends : Int32) (fault : Int32) (opened : Int32) (lineMany : Int32) (rowMany : Int32) (taller : Int32) (tallerBy : Int32) (pasts : Int32) (isKept : Int32) (imageMany : Int32) (bodies : Int32) (ran : Int32) (ownKind : Int32) (ownNumber : Int32) (height : Nat → Int32) (tape : Nat → Int32) (text : Nat → Int32) (names : Nat → Int32) (line : Nat → Int32) (row : Nat → Int32) (pastMany : Nat → Int32) (past : Nat → Int32) (changed : Nat → Int32) (greatest : Nat → Int32) (numbersWere : Nat → Int32) (x1 : Int32) (r_ : Int32) (o_base : Int32) (o_at_ : Int32) (o_ends : Int32) (o_fault : Int32) (o_opened : Int32) (o_lineMany : Int32) (o_rowMany : Int32) (o_taller : Int32) (o_pasts : Int32) (o_names : Nat → Int32) (o_line : Nat → Int32) (o_row : Nat → Int32) (o_pastMany : Nat → Int32) (o_past : Nat → Int32) (o_changed : Nat → Int32) (o_greatest : Nat → Int32) (o_numbersWere : Nat → Int32) (hf : f_M_leave people textMany base at_ ends fault opened lineMany rowMany taller tallerBy pasts height tape text names line row pastMany past changed greatest numbersWere x1 = some (r_, o_base, o_at_, o_ends, o_fault, o_opened, o_lineMany, o_rowMany, o_taller, o_pasts, o_names, o_line, o_row, o_pastMany, o_past, o_changed, o_greatest, o_numbersWere)) : zM l yX12_leave cX12_leave 3 (some .int) 154 3576 G [.ref a_this, .int x1] (w_M_leave G a_this a_height a_changeAt a_changeWas a_changeIs a_tape a_text a_names a_line a_row a_pastMany a_past a_changed a_greatest a_numbersWere a_told a_waysOf a_waysWere a_blocks a_ordersOf a_imageLine a_bodyKind a_trace a_shelf a_many a_items a_carried people keptMany done tapeMany textMany base at_ ends fault opened lineMany rowMany taller tallerBy pasts isKept imageMany bodies ran ownKind ownNumber height tape text names line row pastMany past changed greatest numbersWere) (some (.int r_)) (w_M_leave G a_this a_height a_changeAt a_changeWas a_changeIs a_tape a_text a_names a_line a_row a_pastMany a_past a_changed a_greatest a_numbersWere a_told a_waysOf a_waysWere a_blocks a_ordersOf a_imageLine a_bodyKind a_trace a_shelf a_many a_items a_carried people keptMany done tapeMany textMany o_base o_at_ o_ends o_fault o_opened o_lineMany o_rowMany o_taller tallerBy o_pasts isKept imageMany bodies ran ownKind ownNumber height tape text o_names o_line o_row o_pastMany o_past o_changed o_greatest o_numbersWere) := by
  refine zM.of [(0, .ref a_this), (1, .int x1)] (own := RX12) rfl (by decide +kernel) (Nat.le_of_ble_eq_true rfl) rfl rfl fun X hX F => ?_
  subst hX
  replace hf := (f_M_leave.eq_1 ..).symm.trans hf
  refine z_aload_n F 0 dX12_leave_0 rfl rfl ?_
  refine z_iload_n F 1 dX12_leave_1 rfl rfl ?_
  refine z_callVm (rest := []) F 12 (c_M_isPlace (xL X) G a_this a_height a_changeAt a_changeWas a_changeIs a_tape a_text a_names a_line a_row a_pastMany a_past a_changed a_greatest a_numbersWere a_told a_waysOf a_waysWere a_blocks a_ordersOf a_imageLine a_bodyKind a_trace a_shelf a_many a_items a_carried people keptMany done tapeMany textMany base at_ ends fault opened lineMany rowMany taller tallerBy pasts isKept imageMany bodies ran ownKind ownNumber x1 _ rfl) hy_X12_isPlace ml_X12_239 hd_X12_isPlace ⟨by omega, by omega⟩ rfl [0] rfl rfl 0 rfl rfl (w_M_leave G a_this a_height a_changeAt a_changeWas a_changeIs a_tape a_text a_names a_line a_row a_pastMany a_past a_changed a_greatest a_numbersWere a_told a_waysOf a_waysWere a_blocks a_ordersOf a_imageLine a_bodyKind a_trace a_shelf a_many a_items a_carried people keptMany done tapeMany textMany base at_ ends fault opened lineMany rowMany taller tallerBy pasts isKept imageMany bodies ran ownKind ownNumber height tape text names line row pastMany past changed greatest numbersWere) [some 0, none, none, none, none, none, none, none, none, none, none, none] rfl (by decide +kernel) rfl rfl (Nat.le_of_ble_eq_true rfl) dX12_leave_2 (fun hz_1 => ?_)
  refine z_if_ne F 10 dX12_leave_5 (by decide) hf (fun hf _ => ?_) (fun hf _ => ?_)
  · refine z_aload_n F 0 dX12_leave_10 rfl rfl ?_
    obtain ⟨base_2, at__3, ends_4, fault_5, opened_6, rowMany_7, taller_8, pasts_9, names_10, row_11, pastMany_12, past_13, numbersWere_14, hg, hf⟩ := zb13_some hf
    refine z_callVm (rest := []) F 12 (c_M_begins1 (xL X) G a_this a_height a_changeAt a_changeWas a_changeIs a_tape a_text a_names a_line a_row a_pastMany a_past a_changed a_greatest a_numbersWere a_told a_waysOf a_waysWere a_blocks a_ordersOf a_imageLine a_bodyKind a_trace a_shelf a_many a_items a_carried people keptMany done tapeMany textMany base at_ ends fault opened lineMany rowMany taller tallerBy pasts isKept imageMany bodies ran ownKind ownNumber height tape text names line row pastMany past numbersWere base_2 at__3 ends_4 fault_5 opened_6 rowMany_7 taller_8 pasts_9 names_10 row_11 pastMany_12 past_13 numbersWere_14 hg) hy_X12_begins1 ml_X12_245 hd_X12_begins1 ⟨by omega, by omega⟩ rfl [0, 1, 2, 3, 4, 5, 6, 7, 8, 11] rfl rfl 0 rfl rfl (w_M_leave G a_this a_height a_changeAt a_changeWas a_changeIs a_tape a_text a_names a_line a_row a_pastMany a_past a_changed a_greatest a_numbersWere a_told a_waysOf a_waysWere a_blocks a_ordersOf a_imageLine a_bodyKind a_trace a_shelf a_many a_items a_carried people keptMany done tapeMany textMany base_2 at__3 ends_4 fault_5 opened_6 lineMany rowMany_7 taller_8 tallerBy pasts_9 isKept imageMany bodies ran ownKind ownNumber height tape text names_10 line row_11 pastMany_12 past_13 changed greatest numbersWere_14) [some 0, some 1, some 2, some 3, some 4, some 5, some 6, some 7, some 8, none, none, some 9] rfl (by decide +kernel) rfl rfl (Nat.le_of_ble_eq_true rfl) dX12_leave_11 (fun hz_15 => ?_)
    refine z_aload_n F 0 dX12_leave_14 rfl rfl ?_
    refine z_get F 0 12 19 inlX12 rfl rfl (by decide) fl_X12_34 rfl dX12_leave_15 ?_
    refine z_iload_n F 1 dX12_leave_18 rfl rfl ?_
    refine z_iald F 6 rfl hf dX12_leave_19 (fun v_16 hf => ?_)
    refine z_istore_n F [(2, .int v_16), (0, .ref a_this), (1, .int x1)] dX12_leave_20 rfl (by decide) rfl ?_
    refine z_aload_n F 1 dX12_leave_21 rfl rfl ?_
    refine z_iload_n F 2 dX12_leave_22 rfl rfl ?_
    obtain ⟨rowMany_17, row_18, hg, hf⟩ := zb2_some hf
    refine z_callVm (rest := []) F 12 (c_M_takesOut (xL X) G a_this a_height a_changeAt a_changeWas a_changeIs a_tape a_text a_names a_line a_row a_pastMany a_past a_changed a_greatest a_numbersWere a_told a_waysOf a_waysWere a_blocks a_ordersOf a_imageLine a_bodyKind a_trace a_shelf a_many a_items a_carried people keptMany done tapeMany textMany base_2 at__3 ends_4 fault_5 opened_6 lineMany rowMany_7 taller_8 tallerBy pasts_9 isKept imageMany bodies ran ownKind ownNumber row_11 x1 rowMany_17 row_18 hg) hy_X12_takesOut ml_X12_212 hd_X12_takesOut ⟨by omega, by omega⟩ rfl [0, 6] rfl rfl 0 rfl rfl (w_M_leave G a_this a_height a_changeAt a_changeWas a_changeIs a_tape a_text a_names a_line a_row a_pastMany a_past a_changed a_greatest a_numbersWere a_told a_waysOf a_waysWere a_blocks a_ordersOf a_imageLine a_bodyKind a_trace a_shelf a_many a_items a_carried people keptMany done tapeMany textMany base_2 at__3 ends_4 fault_5 opened_6 lineMany rowMany_17 taller_8 tallerBy pasts_9 isKept imageMany bodies ran ownKind ownNumber height tape text names_10 line row_18 pastMany_12 past_13 changed greatest numbersWere_14) [some 0, none, none, none, none, none, some 1, none, none, none, none, none] rfl (by decide +kernel) rfl rfl (Nat.le_of_ble_eq_true rfl) dX12_leave_23 (fun hz_19 => ?_)
    refine z_aload_n F 1 dX12_leave_26 rfl rfl ?_
    obtain ⟨base_20, at__21, ends_22, fault_23, opened_24, lineMany_25, names_26, line_27, changed_28, greatest_29, hg, hf⟩ := zb10_some hf
    refine z_callVm (rest := []) F 12 (c_M_ends1 (xL X) G a_this a_height a_changeAt a_changeWas a_changeIs a_tape a_text a_names a_line a_row a_pastMany a_past a_changed a_greatest a_numbersWere a_told a_waysOf a_waysWere a_blocks a_ordersOf a_imageLine a_bodyKind a_trace a_shelf a_many a_items a_carried people keptMany done tapeMany textMany base_2 at__3 ends_4 fault_5 opened_6 lineMany rowMany_17 taller_8 tallerBy pasts_9 isKept imageMany bodies ran ownKind ownNumber height tape text names_10 line row_18 changed greatest numbersWere_14 base_20 at__21 ends_22 fault_23 opened_24 lineMany_25 names_26 line_27 changed_28 greatest_29 hg) hy_X12_ends1 ml_X12_252 hd_X12_ends1 ⟨by omega, by omega⟩ rfl [0, 1, 2, 3, 4, 5, 6, 9, 10, 11] rfl rfl 0 rfl rfl (w_M_leave G a_this a_height a_changeAt a_changeWas a_changeIs a_tape a_text a_names a_line a_row a_pastMany a_past a_changed a_greatest a_numbersWere a_told a_waysOf a_waysWere a_blocks a_ordersOf a_imageLine a_bodyKind a_trace a_shelf a_many a_items a_carried people keptMany done tapeMany textMany base_20 at__21 ends_22 fault_23 opened_24 lineMany_25 rowMany_17 taller_8 tallerBy pasts_9 isKept imageMany bodies ran ownKind ownNumber height tape text names_26 line_27 row_18 pastMany_12 past_13 changed_28 greatest_29 numbersWere_14) [some 0, some 1, some 2, some 3, some 4, some 5, some 6, none, none, some 7, some 8, some 9] rfl (by decide +kernel) rfl rfl (Nat.le_of_ble_eq_true rfl) dX12_leave_27 (fun hz_30 => ?_)
    refine z_iload_n F 0 dX12_leave_30 rfl rfl ?_
    have eq1 := Option.some.inj hf
    obtain ⟨ee1, eq2⟩ := Prod.mk.inj eq1
    obtain ⟨ee2, eq3⟩ := Prod.mk.inj eq2
    obtain ⟨ee3, eq4⟩ := Prod.mk.inj eq3
    obtain ⟨ee4, eq5⟩ := Prod.mk.inj eq4
    obtain ⟨ee5, eq6⟩ := Prod.mk.inj eq5
    obtain ⟨ee6, eq7⟩ := Prod.mk.inj eq6
    obtain ⟨ee7, eq8⟩ := Prod.mk.inj eq7
    obtain ⟨ee8, eq9⟩ := Prod.mk.inj eq8
    obtain ⟨ee9, eq10⟩ := Prod.mk.inj eq9
    obtain ⟨ee10, eq11⟩ := Prod.mk.inj eq10
    obtain ⟨ee11, eq12⟩ := Prod.mk.inj eq11
    obtain ⟨ee12, eq13⟩ := Prod.mk.inj eq12
    obtain ⟨ee13, eq14⟩ := Prod.mk.inj eq13
    obtain ⟨ee14, eq15⟩ := Prod.mk.inj eq14
    obtain ⟨ee15, eq16⟩ := Prod.mk.inj eq15
    obtain ⟨ee16, eq17⟩ := Prod.mk.inj eq16
    obtain ⟨ee17, ee18⟩ := Prod.mk.inj eq17
    subst ee1
    subst ee2
    subst ee3
    subst ee4
    subst ee5
    subst ee6
    subst ee7
    subst ee8
    subst ee9
    subst ee10
    subst ee11
    subst ee12
    subst ee13
    subst ee14
    subst ee15
    subst ee16
    subst ee17
    subst ee18
    exact z_iret F rfl rfl rfl rfl dX12_leave_31
  · refine z_iconst F (-1) dX12_leave_8 rfl ?_
    have eq1 := Option.some.inj hf
    obtain ⟨ee1, eq2⟩ := Prod.mk.inj eq1
    obtain ⟨ee2, eq3⟩ := Prod.mk.inj eq2
    obtain ⟨ee3, eq4⟩ := Prod.mk.inj eq3
    obtain ⟨ee4, eq5⟩ := Prod.mk.inj eq4
    obtain ⟨ee5, eq6⟩ := Prod.mk.inj eq5
    obtain ⟨ee6, eq7⟩ := Prod.mk.inj eq6
    obtain ⟨ee7, eq8⟩ := Prod.mk.inj eq7
    obtain ⟨ee8, eq9⟩ := Prod.mk.inj eq8
    obtain ⟨ee9, eq10⟩ := Prod.mk.inj eq9
    obtain ⟨ee10, eq11⟩ := Prod.mk.inj eq10
    obtain ⟨ee11, eq12⟩ := Prod.mk.inj eq11
    obtain ⟨ee12, eq13⟩ := Prod.mk.inj eq12
    obtain ⟨ee13, eq14⟩ := Prod.mk.inj eq13
    obtain ⟨ee14, eq15⟩ := Prod.mk.inj eq14
    obtain ⟨ee15, eq16⟩ := Prod.mk.inj eq15
    obtain ⟨ee16, eq17⟩ := Prod.mk.inj eq16
    obtain ⟨ee17, ee18⟩ := Prod.mk.inj eq17
    subst ee1
    subst ee2
    subst ee3
    subst ee4
    subst ee5
    subst ee6
    subst ee7
    subst ee8
    subst ee9
    subst ee10
    subst ee11
    subst ee12
    subst ee13
    subst ee14
    subst ee15
    subst ee16
    subst ee17
    subst ee18
    exact z_iret F rfl rfl rfl rfl dX12_leave_9

abbrev w_M_serve (G : zG) (a_this : Nat) (a_height : Nat) (a_changeAt : Nat) (a_changeWas : Nat) (a_changeIs : Nat) (a_tape : Nat) (a_text : Nat) (a_names : Nat) (a_line : Nat) (a_row : Nat) (a_pastMany : Nat) (a_past : Nat) (a_changed : Nat) (a_greatest : Nat) (a_numbersWere : Nat) (a_told : Nat) (a_waysOf : Nat) (a_waysWere : Nat) (a_blocks : Nat) (a_ordersOf : Nat) (a_imageLine : Nat) (a_bodyKind : Nat) (a_trace : Nat) (a_shelf : Nat) (a_many : Nat) (a_items : Nat) (a_carried : Nat) (people : Int32) (keptMany : Int32) (done : Int32) (tapeMany : Int32) (textMany : Int32) (base : Int32) (at_ : Int32) (ends : Int32) (fault : Int32) (opened : Int32) (lineMany : Int32) (rowMany : Int32) (taller : Int32) (tallerBy : Int32) (pasts : Int32) (isKept : Int32) (imageMany : Int32) (bodies : Int32) (ran : Int32) (ownKind : Int32) (ownNumber : Int32) (height : Nat → Int32) (tape : Nat → Int32) (text : Nat → Int32) (names : Nat → Int32) (line : Nat → Int32) (row : Nat → Int32) (pastMany : Nat → Int32) (past : Nat → Int32) (changed : Nat → Int32) (greatest : Nat → Int32) (numbersWere : Nat → Int32) : va_W := [(a_this, cO 12 [.int people, .ref a_height, .ref a_changeAt, .ref a_changeWas, .ref a_changeIs, .int keptMany, .int done, .ref a_tape, .int tapeMany, .ref a_text, .int textMany, .int base, .int at_, .int ends, .int fault, .int opened, .ref a_names, .ref a_line, .int lineMany, .ref a_row, .int rowMany, .int taller, .int tallerBy, .ref a_pastMany, .ref a_past, .int pasts, .ref a_changed, .ref a_greatest, .ref a_numbersWere, .ref a_told, .ref a_waysOf, .ref a_waysWere, .ref a_blocks, .ref a_ordersOf, .int isKept, .int imageMany, .ref a_imageLine, .int bodies, .ref a_bodyKind, .ref a_trace, .int ran, .int ownKind, .int ownNumber, .ref a_shelf, .ref a_many, .ref a_items, .ref a_carried]), (a_height, cI G 9 height), (a_tape, cI G 120 tape), (a_text, cI G 120 text), (a_names, cI G 5 names), (a_line, cI G 9 line), (a_row, cI G 9 row), (a_pastMany, cI G 12 pastMany), (a_past, cI G 108 past), (a_changed, cI G 9 changed), (a_greatest, cI G 9 greatest), (a_numbersWere, cI G 9 numbersWere)]
def f_M_serve (people : Int32) (textMany : Int32) (base : Int32) (at_ : Int32) (ends : Int32) (fault : Int32) (opened : Int32) (lineMany : Int32) (rowMany : Int32) (taller : Int32) (tallerBy : Int32) (pasts : Int32) (height : Nat → Int32) (tape : Nat → Int32) (text : Nat → Int32) (names : Nat → Int32) (line : Nat → Int32) (row : Nat → Int32) (pastMany : Nat → Int32) (past : Nat → Int32) (changed : Nat → Int32) (greatest : Nat → Int32) (numbersWere : Nat → Int32) : Option (Int32 × Int32 × Int32 × Int32 × Int32 × Int32 × Int32 × Int32 × Int32 × Int32 × (Nat → Int32) × (Nat → Int32) × (Nat → Int32) × (Nat → Int32) × (Nat → Int32) × (Nat → Int32) × (Nat → Int32) × (Nat → Int32)) := (if lineMany = 0 then (some ((-5), base, at_, ends, fault, opened, lineMany, rowMany, taller, pasts, names, line, row, pastMany, past, changed, greatest, numbersWere)) else (zb18 (f_M_leave people textMany base at_ ends fault opened lineMany rowMany taller tallerBy pasts height tape text names line row pastMany past changed greatest numbersWere 0) fun r_1 base_2 at__3 ends_4 fault_5 opened_6 lineMany_7 rowMany_8 taller_9 pasts_10 names_11 line_12 row_13 pastMany_14 past_15 changed_16 greatest_17 numbersWere_18 => (some (r_1, base_2, at__3, ends_4, fault_5, opened_6, lineMany_7, rowMany_8, taller_9, pasts_10, names_11, line_12, row_13, pastMany_14, past_15, changed_16, greatest_17, numbersWere_18))))
set_option maxRecDepth 100000 in
set_option maxHeartbeats 4000000 in
theorem c_M_serve (l : Launch) (G : zG) (a_this : Nat) (a_height : Nat) (a_changeAt : Nat) (a_changeWas : Nat) (a_changeIs : Nat) (a_tape : Nat) (a_text : Nat) (a_names : Nat) (a_line : Nat) (a_row : Nat) (a_pastMany : Nat) (a_past : Nat) (a_changed : Nat) (a_greatest : Nat) (a_numbersWere : Nat) (a_told : Nat) (a_waysOf : Nat) (a_waysWere : Nat) (a_blocks : Nat) (a_ordersOf : Nat) (a_imageLine : Nat) (a_bodyKind : Nat) (a_trace : Nat) (a_shelf : Nat) (a_many : Nat) (a_items : Nat) (a_carried : Nat) (people : Int32) (keptMany : Int32) (done : Int32) (tapeMany : Int32) (textMany : Int32) (base : Int32) (at_ : Int32) (ends : Int32) (fault : Int32) (opened : Int32) (lineMany : Int32) (rowMany : Int32) (taller : Int32) (tallerBy : Int32) (pasts : Int32) (isKept : Int32) (imageMany : Int32) (bodies : Int32) (ran : Int32) (ownKind : Int32) (ownNumber : Int32) (height : Nat → Int32) (tape : Nat → Int32) (text : Nat → Int32) (names : Nat → Int32) (line : Nat → Int32) (row : Nat → Int32) (pastMany : Nat → Int32) (past : Nat → Int32) (changed : Nat → Int32) (greatest : Nat → Int32) (numbersWere : Nat → Int32) (r_ : Int32) (o_base : Int32) (o_at_ : Int32) (o_ends : Int32) (o_fault : Int32) (o_opened : Int32) (o_lineMany : Int32) (o_rowMany : Int32) (o_taller : Int32) (o_pasts : Int32) (o_names : Nat → Int32) (o_line : Nat → Int32) (o_row : Nat → Int32) (o_pastMany : Nat → Int32) (o_past : Nat → Int32) (o_changed : Nat → Int32) (o_greatest : Nat → Int32) (o_numbersWere : Nat → Int32) (hf : f_M_serve people textMany base at_ ends fault opened lineMany rowMany taller tallerBy pasts height tape text names line row pastMany past changed greatest numbersWere = some (r_, o_base, o_at_, o_ends, o_fault, o_opened, o_lineMany, o_rowMany, o_taller, o_pasts, o_names, o_line, o_row, o_pastMany, o_past, o_changed, o_greatest, o_numbersWere)) : zM l yX12_serve cX12_serve 1 (some .int) 155 3598 G [.ref a_this] (w_M_serve G a_this a_height a_changeAt a_changeWas a_changeIs a_tape a_text a_names a_line a_row a_pastMany a_past a_changed a_greatest a_numbersWere a_told a_waysOf a_waysWere a_blocks a_ordersOf a_imageLine a_bodyKind a_trace a_shelf a_many a_items a_carried people keptMany done tapeMany textMany base at_ ends fault opened lineMany rowMany taller tallerBy pasts isKept imageMany bodies ran ownKind ownNumber height tape text names line row pastMany past changed greatest numbersWere) (some (.int r_)) (w_M_serve G a_this a_height a_changeAt a_changeWas a_changeIs a_tape a_text a_names a_line a_row a_pastMany a_past a_changed a_greatest a_numbersWere a_told a_waysOf a_waysWere a_blocks a_ordersOf a_imageLine a_bodyKind a_trace a_shelf a_many a_items a_carried people keptMany done tapeMany textMany o_base o_at_ o_ends o_fault o_opened o_lineMany o_rowMany o_taller tallerBy o_pasts isKept imageMany bodies ran ownKind ownNumber height tape text o_names o_line o_row o_pastMany o_past o_changed o_greatest o_numbersWere) := by
  refine zM.of [(0, .ref a_this)] (own := RX12) rfl (by decide +kernel) (Nat.le_of_ble_eq_true rfl) rfl rfl fun X hX F => ?_
  subst hX
  replace hf := (f_M_serve.eq_1 ..).symm.trans hf
  refine z_aload_n F 0 dX12_serve_0 rfl rfl ?_
  refine z_get F 0 12 18 inlX12 rfl rfl (by decide) fl_X12_100 rfl dX12_serve_1 ?_
  refine z_if_ne F 12 dX12_serve_4 (by decide) hf (fun hf _ => ?_) (fun hf _ => ?_)
  · refine z_aload_n F 0 dX12_serve_12 rfl rfl ?_
    refine z_iconst F (0) dX12_serve_13 rfl ?_
    obtain ⟨r_1, base_2, at__3, ends_4, fault_5, opened_6, lineMany_7, rowMany_8, taller_9, pasts_10, names_11, line_12, row_13, pastMany_14, past_15, changed_16, greatest_17, numbersWere_18, hg, hf⟩ := zb18_some hf
    refine z_callVm (rest := []) F 12 (c_M_leave (xL X) G a_this a_height a_changeAt a_changeWas a_changeIs a_tape a_text a_names a_line a_row a_pastMany a_past a_changed a_greatest a_numbersWere a_told a_waysOf a_waysWere a_blocks a_ordersOf a_imageLine a_bodyKind a_trace a_shelf a_many a_items a_carried people keptMany done tapeMany textMany base at_ ends fault opened lineMany rowMany taller tallerBy pasts isKept imageMany bodies ran ownKind ownNumber height tape text names line row pastMany past changed greatest numbersWere 0 r_1 base_2 at__3 ends_4 fault_5 opened_6 lineMany_7 rowMany_8 taller_9 pasts_10 names_11 line_12 row_13 pastMany_14 past_15 changed_16 greatest_17 numbersWere_18 hg) hy_X12_leave ml_X12_258 hd_X12_leave ⟨by omega, by omega⟩ rfl [0, 1, 2, 3, 4, 5, 6, 7, 8, 9, 10, 11] rfl rfl 0 rfl rfl (w_M_serve G a_this a_height a_changeAt a_changeWas a_changeIs a_tape a_text a_names a_line a_row a_pastMany a_past a_changed a_greatest a_numbersWere a_told a_waysOf a_waysWere a_blocks a_ordersOf a_imageLine a_bodyKind a_trace a_shelf a_many a_items a_carried people keptMany done tapeMany textMany base_2 at__3 ends_4 fault_5 opened_6 lineMany_7 rowMany_8 taller_9 tallerBy pasts_10 isKept imageMany bodies ran ownKind ownNumber height tape text names_11 line_12 row_13 pastMany_14 past_15 changed_16 greatest_17 numbersWere_18) [some 0, some 1, some 2, some 3, some 4, some 5, some 6, some 7, some 8, some 9, some 10, some 11] rfl (by decide +kernel) rfl rfl (Nat.le_of_ble_eq_true rfl) dX12_serve_14 (fun hz_19 => ?_)
    have eq1 := Option.some.inj hf
    obtain ⟨ee1, eq2⟩ := Prod.mk.inj eq1
    obtain ⟨ee2, eq3⟩ := Prod.mk.inj eq2
    obtain ⟨ee3, eq4⟩ := Prod.mk.inj eq3
    obtain ⟨ee4, eq5⟩ := Prod.mk.inj eq4
    obtain ⟨ee5, eq6⟩ := Prod.mk.inj eq5
    obtain ⟨ee6, eq7⟩ := Prod.mk.inj eq6
    obtain ⟨ee7, eq8⟩ := Prod.mk.inj eq7
    obtain ⟨ee8, eq9⟩ := Prod.mk.inj eq8
    obtain ⟨ee9, eq10⟩ := Prod.mk.inj eq9
    obtain ⟨ee10, eq11⟩ := Prod.mk.inj eq10
    obtain ⟨ee11, eq12⟩ := Prod.mk.inj eq11
    obtain ⟨ee12, eq13⟩ := Prod.mk.inj eq12
    obtain ⟨ee13, eq14⟩ := Prod.mk.inj eq13
    obtain ⟨ee14, eq15⟩ := Prod.mk.inj eq14
    obtain ⟨ee15, eq16⟩ := Prod.mk.inj eq15
    obtain ⟨ee16, eq17⟩ := Prod.mk.inj eq16
    obtain ⟨ee17, ee18⟩ := Prod.mk.inj eq17
    subst ee1
    subst ee2
    subst ee3
    subst ee4
    subst ee5
    subst ee6
    subst ee7
    subst ee8
    subst ee9
    subst ee10
    subst ee11
    subst ee12
    subst ee13
    subst ee14
    subst ee15
    subst ee16
    subst ee17
    subst ee18
    exact z_iret F rfl rfl rfl rfl dX12_serve_17
  · refine z_bipush F (-5) dX12_serve_7 rfl ?_
    refine z_goto F 17 dX12_serve_9 (by decide) ?_
    have eq1 := Option.some.inj hf
    obtain ⟨ee1, eq2⟩ := Prod.mk.inj eq1
    obtain ⟨ee2, eq3⟩ := Prod.mk.inj eq2
    obtain ⟨ee3, eq4⟩ := Prod.mk.inj eq3
    obtain ⟨ee4, eq5⟩ := Prod.mk.inj eq4
    obtain ⟨ee5, eq6⟩ := Prod.mk.inj eq5
    obtain ⟨ee6, eq7⟩ := Prod.mk.inj eq6
    obtain ⟨ee7, eq8⟩ := Prod.mk.inj eq7
    obtain ⟨ee8, eq9⟩ := Prod.mk.inj eq8
    obtain ⟨ee9, eq10⟩ := Prod.mk.inj eq9
    obtain ⟨ee10, eq11⟩ := Prod.mk.inj eq10
    obtain ⟨ee11, eq12⟩ := Prod.mk.inj eq11
    obtain ⟨ee12, eq13⟩ := Prod.mk.inj eq12
    obtain ⟨ee13, eq14⟩ := Prod.mk.inj eq13
    obtain ⟨ee14, eq15⟩ := Prod.mk.inj eq14
    obtain ⟨ee15, eq16⟩ := Prod.mk.inj eq15
    obtain ⟨ee16, eq17⟩ := Prod.mk.inj eq16
    obtain ⟨ee17, ee18⟩ := Prod.mk.inj eq17
    subst ee1
    subst ee2
    subst ee3
    subst ee4
    subst ee5
    subst ee6
    subst ee7
    subst ee8
    subst ee9
    subst ee10
    subst ee11
    subst ee12
    subst ee13
    subst ee14
    subst ee15
    subst ee16
    subst ee17
    subst ee18
    exact z_iret F rfl rfl rfl rfl dX12_serve_17

abbrev w_M_grow (G : zG) (a_this : Nat) (a_height : Nat) (a_changeAt : Nat) (a_changeWas : Nat) (a_changeIs : Nat) (a_tape : Nat) (a_text : Nat) (a_names : Nat) (a_line : Nat) (a_row : Nat) (a_pastMany : Nat) (a_past : Nat) (a_changed : Nat) (a_greatest : Nat) (a_numbersWere : Nat) (a_told : Nat) (a_waysOf : Nat) (a_waysWere : Nat) (a_blocks : Nat) (a_ordersOf : Nat) (a_imageLine : Nat) (a_bodyKind : Nat) (a_trace : Nat) (a_shelf : Nat) (a_many : Nat) (a_items : Nat) (a_carried : Nat) (people : Int32) (keptMany : Int32) (done : Int32) (tapeMany : Int32) (textMany : Int32) (base : Int32) (at_ : Int32) (ends : Int32) (fault : Int32) (opened : Int32) (lineMany : Int32) (rowMany : Int32) (taller : Int32) (tallerBy : Int32) (pasts : Int32) (isKept : Int32) (imageMany : Int32) (bodies : Int32) (ran : Int32) (ownKind : Int32) (ownNumber : Int32) (height : Nat → Int32) (tape : Nat → Int32) (text : Nat → Int32) (names : Nat → Int32) (line : Nat → Int32) (row : Nat → Int32) (pastMany : Nat → Int32) (past : Nat → Int32) (changed : Nat → Int32) (greatest : Nat → Int32) (numbersWere : Nat → Int32) : va_W := [(a_this, cO 12 [.int people, .ref a_height, .ref a_changeAt, .ref a_changeWas, .ref a_changeIs, .int keptMany, .int done, .ref a_tape, .int tapeMany, .ref a_text, .int textMany, .int base, .int at_, .int ends, .int fault, .int opened, .ref a_names, .ref a_line, .int lineMany, .ref a_row, .int rowMany, .int taller, .int tallerBy, .ref a_pastMany, .ref a_past, .int pasts, .ref a_changed, .ref a_greatest, .ref a_numbersWere, .ref a_told, .ref a_waysOf, .ref a_waysWere, .ref a_blocks, .ref a_ordersOf, .int isKept, .int imageMany, .ref a_imageLine, .int bodies, .ref a_bodyKind, .ref a_trace, .int ran, .int ownKind, .int ownNumber, .ref a_shelf, .ref a_many, .ref a_items, .ref a_carried]), (a_height, cI G 9 height), (a_tape, cI G 120 tape), (a_text, cI G 120 text), (a_names, cI G 5 names), (a_line, cI G 9 line), (a_row, cI G 9 row), (a_pastMany, cI G 12 pastMany), (a_past, cI G 108 past), (a_changed, cI G 9 changed), (a_greatest, cI G 9 greatest), (a_numbersWere, cI G 9 numbersWere)]
def f_M_grow_L31 (people : Int32) (height : Nat → Int32) (v1 : Int32) : Nat → Int32 → Option Int32
  | 0, _ => none
  | fuel + 1, v3 => (zb1 (f_M_isOthers people height v1 (Int32.toInt64 v3)) fun r_4 => (if r_4 = 0 then (some v3) else (f_M_grow_L31 people height v1 fuel (v3 + 1))))
def f_M_grow (people : Int32) (textMany : Int32) (base : Int32) (at_ : Int32) (ends : Int32) (fault : Int32) (opened : Int32) (lineMany : Int32) (rowMany : Int32) (taller : Int32) (tallerBy : Int32) (pasts : Int32) (height : Nat → Int32) (tape : Nat → Int32) (text : Nat → Int32) (names : Nat → Int32) (line : Nat → Int32) (row : Nat → Int32) (pastMany : Nat → Int32) (past : Nat → Int32) (changed : Nat → Int32) (greatest : Nat → Int32) (numbersWere : Nat → Int32) (x1 : Int32) (x2 : Int32) : Option (Int32 × Int32 × Int32 × Int32 × Int32 × Int32 × Int32 × Int32 × Int32 × Int32 × (Nat → Int32) × (Nat → Int32) × (Nat → Int32) × (Nat → Int32) × (Nat → Int32) × (Nat → Int32) × (Nat → Int32) × (Nat → Int32) × (Nat → Int32)) := (if (f_M_isPerson people x1) = 0 then (some ((-1), base, at_, ends, fault, opened, lineMany, rowMany, taller, pasts, height, names, line, row, pastMany, past, changed, greatest, numbersWere)) else (if (f_M_within (Int32.toInt64 x2) 1 20) = 0 then (some ((-1), base, at_, ends, fault, opened, lineMany, rowMany, taller, pasts, height, names, line, row, pastMany, past, changed, greatest, numbersWere)) else (zg height 9 x1 fun v_3 => (zb1 (f_M_grow_L31 people height x1 FU (v_3 + x2)) fun v3_6 => (if v3_6 ≤ 99 then (zb13 (f_M_begins1 people textMany base at_ ends fault opened lineMany rowMany taller tallerBy pasts height tape text names line row pastMany past numbersWere) fun base_7 at__8 ends_9 fault_10 opened_11 rowMany_12 taller_13 pasts_14 names_15 row_16 pastMany_17 past_18 numbersWere_19 => (zs height 9 x1 v3_6 fun height_21 => (zb10 (f_M_ends1 textMany base_7 at__8 ends_9 fault_10 opened_11 lineMany rowMany_12 taller_13 tallerBy height_21 tape text names_15 line row_16 changed greatest numbersWere_19) fun base_22 at__23 ends_24 fault_25 opened_26 lineMany_27 names_28 line_29 changed_30 greatest_31 => (some (v3_6, base_22, at__23, ends_24, fault_25, opened_26, lineMany_27, rowMany_12, taller_13, pasts_14, height_21, names_28, line_29, row_16, pastMany_17, past_18, changed_30, greatest_31, numbersWere_19))))) else (some ((-1), base, at_, ends, fault, opened, lineMany, rowMany, taller, pasts, height, names, line, row, pastMany, past, changed, greatest, numbersWere)))))))
set_option maxRecDepth 100000 in
set_option maxHeartbeats 4000000 in
theorem l_M_grow_31 {X : zX} (G : zG) (a_this : Nat) (a_height : Nat) (a_changeAt : Nat) (a_changeWas : Nat) (a_changeIs : Nat) (a_tape : Nat) (a_text : Nat) (a_names : Nat) (a_line : Nat) (a_row : Nat) (a_pastMany : Nat) (a_past : Nat) (a_changed : Nat) (a_greatest : Nat) (a_numbersWere : Nat) (a_told : Nat) (a_waysOf : Nat) (a_waysWere : Nat) (a_blocks : Nat) (a_ordersOf : Nat) (a_imageLine : Nat) (a_bodyKind : Nat) (a_trace : Nat) (a_shelf : Nat) (a_many : Nat) (a_items : Nat) (a_carried : Nat) (people : Int32) (keptMany : Int32) (done : Int32) (tapeMany : Int32) (textMany : Int32) (base : Int32) (at_ : Int32) (ends : Int32) (fault : Int32) (opened : Int32) (lineMany : Int32) (rowMany : Int32) (taller : Int32) (tallerBy : Int32) (pasts : Int32) (isKept : Int32) (imageMany : Int32) (bodies : Int32) (ran : Int32) (ownKind : Int32) (ownNumber : Int32) (height : Nat → Int32) (tape : Nat → Int32) (text : Nat → Int32) (names : Nat → Int32) (line : Nat → Int32) (row : Nat → Int32) (pastMany : Nat → Int32) (past : Nat → Int32) (changed : Nat → Int32) (greatest : Nat → Int32) (numbersWere : Nat → Int32) (v1 : Int32) {v0 : Option Value} {w0 : va_W} (F : zF X G cX12_grow RX12 4 (some .int) 154 3576 v0 w0) (e_v3 : Int32) (hk : Z X G 4 (w_M_grow G a_this a_height a_changeAt a_changeWas a_changeIs a_tape a_text a_names a_line a_row a_pastMany a_past a_changed a_greatest a_numbersWere a_told a_waysOf a_waysWere a_blocks a_ordersOf a_imageLine a_bodyKind a_trace a_shelf a_many a_items a_carried people keptMany done tapeMany textMany base at_ ends fault opened lineMany rowMany taller tallerBy pasts isKept imageMany bodies ran ownKind ownNumber height tape text names line row pastMany past changed greatest numbersWere) [(0, .ref a_this), (1, .int v1), (3, .int e_v3)] 47 []) :
    ∀ (fuel : Nat) (v3 : Int32), f_M_grow_L31 people height v1 fuel v3 = some e_v3 → Z X G 4 (w_M_grow G a_this a_height a_changeAt a_changeWas a_changeIs a_tape a_text a_names a_line a_row a_pastMany a_past a_changed a_greatest a_numbersWere a_told a_waysOf a_waysWere a_blocks a_ordersOf a_imageLine a_bodyKind a_trace a_shelf a_many a_items a_carried people keptMany done tapeMany textMany base at_ ends fault opened lineMany rowMany taller tallerBy pasts isKept imageMany bodies ran ownKind ownNumber height tape text names line row pastMany past changed greatest numbersWere) [(0, .ref a_this), (1, .int v1), (3, .int v3)] 31 [] := by
  intro fuel
  induction fuel with
  | zero => intro v3 hf; exact absurd ((f_M_grow_L31.eq_1 ..).symm.trans hf) (fun h => by cases h)
  | succ fuel ih =>
    intro v3 hf
    replace hf := (f_M_grow_L31.eq_2 ..).symm.trans hf
    refine z_aload_n F 0 dX12_grow_31 rfl rfl ?_
    refine z_iload_n F 1 dX12_grow_32 rfl rfl ?_
    refine z_iload_n F 2 dX12_grow_33 rfl rfl ?_
    refine z_i2l F dX12_grow_34 ?_
    obtain ⟨r_4, hg, hf⟩ := zb1_some hf
    refine z_callVm (rest := []) F 12 (c_M_isOthers (xL X) G a_this a_height a_changeAt a_changeWas a_changeIs a_tape a_text a_names a_line a_row a_pastMany a_past a_changed a_greatest a_numbersWere a_told a_waysOf a_waysWere a_blocks a_ordersOf a_imageLine a_bodyKind a_trace a_shelf a_many a_items a_carried people keptMany done tapeMany textMany base at_ ends fault opened lineMany rowMany taller tallerBy pasts isKept imageMany bodies ran ownKind ownNumber height v1 (Int32.toInt64 v3) r_4 hg) hy_X12_isOthers ml_X12_105 hd_X12_isOthers ⟨by omega, by omega⟩ rfl [0, 1] rfl rfl 0 rfl rfl (w_M_grow G a_this a_height a_changeAt a_changeWas a_changeIs a_tape a_text a_names a_line a_row a_pastMany a_past a_changed a_greatest a_numbersWere a_told a_waysOf a_waysWere a_blocks a_ordersOf a_imageLine a_bodyKind a_trace a_shelf a_many a_items a_carried people keptMany done tapeMany textMany base at_ ends fault opened lineMany rowMany taller tallerBy pasts isKept imageMany bodies ran ownKind ownNumber height tape text names line row pastMany past changed greatest numbersWere) [some 0, some 1, none, none, none, none, none, none, none, none, none, none] rfl (by decide +kernel) rfl rfl (Nat.le_of_ble_eq_true rfl) dX12_grow_35 (fun hz_5 => ?_)
    refine z_if_eq F 47 dX12_grow_38 (by decide) hf (fun hf _ => ?_) (fun hf _ => ?_)
    · have ee1 := Option.some.inj hf
      subst ee1
      exact z_sub [0, 1, 2] rfl hk
    · refine z_iinc F [(3, .int (v3 + 1)), (0, .ref a_this), (1, .int v1)] dX12_grow_41 2 rfl rfl (by decide) rfl ?_
      refine z_goto F 31 dX12_grow_44 (by decide) ?_
      exact z_sub [1, 2, 0] rfl (ih (v3 + 1) hf)

set_option maxRecDepth 100000 in
set_option maxHeartbeats 4000000 in
theorem c_M_grow (l : Launch) (G : zG) (a_this : Nat) (a_height : Nat) (a_changeAt : Nat) (a_changeWas : Nat) (a_changeIs : Nat) (a_tape : Nat) (a_text : Nat) (a_names : Nat) (a_line : Nat) (a_row : Nat) (a_pastMany : Nat) (a_past : Nat) (a_changed : Nat) (a_greatest : Nat) (a_numbersWere : Nat) (a_told : Nat) (a_waysOf : Nat) (a_waysWere : Nat) (a_blocks : Nat) (a_ordersOf : Nat) (a_imageLine : Nat) (a_bodyKind : Nat) (a_trace : Nat) (a_shelf : Nat) (a_many : Nat) (a_items : Nat) (a_carried : Nat) (people : Int32) (keptMany : Int32) (done : Int32) (tapeMany : Int32) (textMany : Int32) (base : Int32) (at_ : Int32) (ends : Int32) (fault : Int32) (opened : Int32) (lineMany : Int32) (rowMany : Int32) (taller : Int32) (tallerBy : Int32) (pasts : Int32) (isKept : Int32) (imageMany : Int32) (bodies : Int32) (ran : Int32) (ownKind : Int32) (ownNumber : Int32) (height : Nat → Int32) (tape : Nat → Int32) (text : Nat → Int32) (names : Nat → Int32) (line : Nat → Int32) (row : Nat → Int32) (pastMany : Nat → Int32) (past : Nat → Int32) (changed : Nat → Int32) (greatest : Nat → Int32) (numbersWere : Nat → Int32) (x1 : Int32) (x2 : Int32) (r_ : Int32) (o_base : Int32) (o_at_ : Int32) (o_ends : Int32) (o_fault : Int32) (o_opened : Int32) (o_lineMany : Int32) (o_rowMany : Int32) (o_taller : Int32) (o_pasts : Int32) (o_height : Nat → Int32) (o_names : Nat → Int32) (o_line : Nat → Int32) (o_row : Nat → Int32) (o_pastMany : Nat → Int32) (o_past : Nat → Int32) (o_changed : Nat → Int32) (o_greatest : Nat → Int32) (o_numbersWere : Nat → Int32) (hf : f_M_grow people textMany base at_ ends fault opened lineMany rowMany taller tallerBy pasts height tape text names line row pastMany past changed greatest numbersWere x1 x2 = some (r_, o_base, o_at_, o_ends, o_fault, o_opened, o_lineMany, o_rowMany, o_taller, o_pasts, o_height, o_names, o_line, o_row, o_pastMany, o_past, o_changed, o_greatest, o_numbersWere)) : zM l yX12_grow cX12_grow 4 (some .int) 154 3576 G [.ref a_this, .int x1, .int x2] (w_M_grow G a_this a_height a_changeAt a_changeWas a_changeIs a_tape a_text a_names a_line a_row a_pastMany a_past a_changed a_greatest a_numbersWere a_told a_waysOf a_waysWere a_blocks a_ordersOf a_imageLine a_bodyKind a_trace a_shelf a_many a_items a_carried people keptMany done tapeMany textMany base at_ ends fault opened lineMany rowMany taller tallerBy pasts isKept imageMany bodies ran ownKind ownNumber height tape text names line row pastMany past changed greatest numbersWere) (some (.int r_)) (w_M_grow G a_this a_height a_changeAt a_changeWas a_changeIs a_tape a_text a_names a_line a_row a_pastMany a_past a_changed a_greatest a_numbersWere a_told a_waysOf a_waysWere a_blocks a_ordersOf a_imageLine a_bodyKind a_trace a_shelf a_many a_items a_carried people keptMany done tapeMany textMany o_base o_at_ o_ends o_fault o_opened o_lineMany o_rowMany o_taller tallerBy o_pasts isKept imageMany bodies ran ownKind ownNumber o_height tape text o_names o_line o_row o_pastMany o_past o_changed o_greatest o_numbersWere) := by
  refine zM.of [(0, .ref a_this), (1, .int x1), (2, .int x2)] (own := RX12) rfl (by decide +kernel) (Nat.le_of_ble_eq_true rfl) rfl rfl fun X hX F => ?_
  subst hX
  replace hf := (f_M_grow.eq_1 ..).symm.trans hf
  refine z_aload_n F 0 dX12_grow_0 rfl rfl ?_
  refine z_iload_n F 1 dX12_grow_1 rfl rfl ?_
  refine z_callVm (rest := []) F 12 (c_M_isPerson (xL X) G a_this a_height a_changeAt a_changeWas a_changeIs a_tape a_text a_names a_line a_row a_pastMany a_past a_changed a_greatest a_numbersWere a_told a_waysOf a_waysWere a_blocks a_ordersOf a_imageLine a_bodyKind a_trace a_shelf a_many a_items a_carried people keptMany done tapeMany textMany base at_ ends fault opened lineMany rowMany taller tallerBy pasts isKept imageMany bodies ran ownKind ownNumber x1 _ rfl) hy_X12_isPerson ml_X12_119 hd_X12_isPerson ⟨by omega, by omega⟩ rfl [0] rfl rfl 0 rfl rfl (w_M_grow G a_this a_height a_changeAt a_changeWas a_changeIs a_tape a_text a_names a_line a_row a_pastMany a_past a_changed a_greatest a_numbersWere a_told a_waysOf a_waysWere a_blocks a_ordersOf a_imageLine a_bodyKind a_trace a_shelf a_many a_items a_carried people keptMany done tapeMany textMany base at_ ends fault opened lineMany rowMany taller tallerBy pasts isKept imageMany bodies ran ownKind ownNumber height tape text names line row pastMany past changed greatest numbersWere) [some 0, none, none, none, none, none, none, none, none, none, none, none] rfl (by decide +kernel) rfl rfl (Nat.le_of_ble_eq_true rfl) dX12_grow_2 (fun hz_1 => ?_)
  refine z_if_eq F 20 dX12_grow_5 (by decide) hf (fun hf _ => ?_) (fun hf _ => ?_)
  · refine z_iconst F (-1) dX12_grow_20 rfl ?_
    have eq1 := Option.some.inj hf
    obtain ⟨ee1, eq2⟩ := Prod.mk.inj eq1
    obtain ⟨ee2, eq3⟩ := Prod.mk.inj eq2
    obtain ⟨ee3, eq4⟩ := Prod.mk.inj eq3
    obtain ⟨ee4, eq5⟩ := Prod.mk.inj eq4
    obtain ⟨ee5, eq6⟩ := Prod.mk.inj eq5
    obtain ⟨ee6, eq7⟩ := Prod.mk.inj eq6
    obtain ⟨ee7, eq8⟩ := Prod.mk.inj eq7
    obtain ⟨ee8, eq9⟩ := Prod.mk.inj eq8
    obtain ⟨ee9, eq10⟩ := Prod.mk.inj eq9
    obtain ⟨ee10, eq11⟩ := Prod.mk.inj eq10
    obtain ⟨ee11, eq12⟩ := Prod.mk.inj eq11
    obtain ⟨ee12, eq13⟩ := Prod.mk.inj eq12
    obtain ⟨ee13, eq14⟩ := Prod.mk.inj eq13
    obtain ⟨ee14, eq15⟩ := Prod.mk.inj eq14
    obtain ⟨ee15, eq16⟩ := Prod.mk.inj eq15
    obtain ⟨ee16, eq17⟩ := Prod.mk.inj eq16
    obtain ⟨ee17, eq18⟩ := Prod.mk.inj eq17
    obtain ⟨ee18, ee19⟩ := Prod.mk.inj eq18
    subst ee1
    subst ee2
    subst ee3
    subst ee4
    subst ee5
    subst ee6
    subst ee7
    subst ee8
    subst ee9
    subst ee10
    subst ee11
    subst ee12
    subst ee13
    subst ee14
    subst ee15
    subst ee16
    subst ee17
    subst ee18
    subst ee19
    exact z_iret F rfl rfl rfl rfl dX12_grow_21
  · refine z_iload_n F 2 dX12_grow_8 rfl rfl ?_
    refine z_i2l F dX12_grow_9 ?_
    refine z_lconst F (1) dX12_grow_10 rfl ?_
    refine z_ldc2 F (20) (uw31 _ (List.mem_of_getElem? (i := 22) rfl)) dX12_grow_11 ?_
    refine z_callSm (rest := []) F (c_M_within (xL X) G (Int32.toInt64 x2) 1 20 _ rfl) hy_X12_within ml_X12_96 hd_X12_within ⟨by omega, by omega⟩ rfl [] rfl rfl (w_M_grow G a_this a_height a_changeAt a_changeWas a_changeIs a_tape a_text a_names a_line a_row a_pastMany a_past a_changed a_greatest a_numbersWere a_told a_waysOf a_waysWere a_blocks a_ordersOf a_imageLine a_bodyKind a_trace a_shelf a_many a_items a_carried people keptMany done tapeMany textMany base at_ ends fault opened lineMany rowMany taller tallerBy pasts isKept imageMany bodies ran ownKind ownNumber height tape text names line row pastMany past changed greatest numbersWere) [none, none, none, none, none, none, none, none, none, none, none, none] rfl (by decide +kernel) rfl rfl (Nat.le_of_ble_eq_true rfl) dX12_grow_14 (fun hz_2 => ?_)
    refine z_if_ne F 22 dX12_grow_17 (by decide) hf (fun hf _ => ?_) (fun hf _ => ?_)
    · refine z_aload_n F 0 dX12_grow_22 rfl rfl ?_
      refine z_get F 0 12 1 inlX12 rfl rfl (by decide) fl_X12_9 rfl dX12_grow_23 ?_
      refine z_iload_n F 1 dX12_grow_26 rfl rfl ?_
      refine z_iald F 1 rfl hf dX12_grow_27 (fun v_3 hf => ?_)
      refine z_iload_n F 2 dX12_grow_28 rfl rfl ?_
      refine z_iadd F dX12_grow_29 ?_
      refine z_istore_n F [(3, .int (v_3 + x2)), (0, .ref a_this), (1, .int x1), (2, .int x2)] dX12_grow_30 rfl (by decide) rfl ?_
      obtain ⟨v3_6, hg, hf⟩ := zb1_some hf
      refine z_sub [1, 2, 0] rfl ?_
      refine l_M_grow_31 G a_this a_height a_changeAt a_changeWas a_changeIs a_tape a_text a_names a_line a_row a_pastMany a_past a_changed a_greatest a_numbersWere a_told a_waysOf a_waysWere a_blocks a_ordersOf a_imageLine a_bodyKind a_trace a_shelf a_many a_items a_carried people keptMany done tapeMany textMany base at_ ends fault opened lineMany rowMany taller tallerBy pasts isKept imageMany bodies ran ownKind ownNumber height tape text names line row pastMany past changed greatest numbersWere x1 F v3_6 ?_ FU (v_3 + x2) hg
      refine z_iload_n F 2 dX12_grow_47 rfl rfl ?_
      refine z_bipush F (99) dX12_grow_48 rfl ?_
      refine z_icmp_le F 55 dX12_grow_50 (by decide) hf (fun hf _ => ?_) (fun hf _ => ?_)
      · refine z_aload_n F 0 dX12_grow_55 rfl rfl ?_
        obtain ⟨base_7, at__8, ends_9, fault_10, opened_11, rowMany_12, taller_13, pasts_14, names_15, row_16, pastMany_17, past_18, numbersWere_19, hg, hf⟩ := zb13_some hf
        refine z_callVm (rest := []) F 12 (c_M_begins1 (xL X) G a_this a_height a_changeAt a_changeWas a_changeIs a_tape a_text a_names a_line a_row a_pastMany a_past a_changed a_greatest a_numbersWere a_told a_waysOf a_waysWere a_blocks a_ordersOf a_imageLine a_bodyKind a_trace a_shelf a_many a_items a_carried people keptMany done tapeMany textMany base at_ ends fault opened lineMany rowMany taller tallerBy pasts isKept imageMany bodies ran ownKind ownNumber height tape text names line row pastMany past numbersWere base_7 at__8 ends_9 fault_10 opened_11 rowMany_12 taller_13 pasts_14 names_15 row_16 pastMany_17 past_18 numbersWere_19 hg) hy_X12_begins1 ml_X12_245 hd_X12_begins1 ⟨by omega, by omega⟩ rfl [0, 1, 2, 3, 4, 5, 6, 7, 8, 11] rfl rfl 0 rfl rfl (w_M_grow G a_this a_height a_changeAt a_changeWas a_changeIs a_tape a_text a_names a_line a_row a_pastMany a_past a_changed a_greatest a_numbersWere a_told a_waysOf a_waysWere a_blocks a_ordersOf a_imageLine a_bodyKind a_trace a_shelf a_many a_items a_carried people keptMany done tapeMany textMany base_7 at__8 ends_9 fault_10 opened_11 lineMany rowMany_12 taller_13 tallerBy pasts_14 isKept imageMany bodies ran ownKind ownNumber height tape text names_15 line row_16 pastMany_17 past_18 changed greatest numbersWere_19) [some 0, some 1, some 2, some 3, some 4, some 5, some 6, some 7, some 8, none, none, some 9] rfl (by decide +kernel) rfl rfl (Nat.le_of_ble_eq_true rfl) dX12_grow_56 (fun hz_20 => ?_)
        refine z_aload_n F 0 dX12_grow_59 rfl rfl ?_
        refine z_get F 0 12 1 inlX12 rfl rfl (by decide) fl_X12_9 rfl dX12_grow_60 ?_
        refine z_iload_n F 1 dX12_grow_63 rfl rfl ?_
        refine z_iload_n F 2 dX12_grow_64 rfl rfl ?_
        refine z_iast F 1 (fun height_21 => (w_M_grow G a_this a_height a_changeAt a_changeWas a_changeIs a_tape a_text a_names a_line a_row a_pastMany a_past a_changed a_greatest a_numbersWere a_told a_waysOf a_waysWere a_blocks a_ordersOf a_imageLine a_bodyKind a_trace a_shelf a_many a_items a_carried people keptMany done tapeMany textMany base_7 at__8 ends_9 fault_10 opened_11 lineMany rowMany_12 taller_13 tallerBy pasts_14 isKept imageMany bodies ran ownKind ownNumber height_21 tape text names_15 line row_16 pastMany_17 past_18 changed greatest numbersWere_19)) rfl hf (fun _ => rfl) dX12_grow_65 (fun height_21 hf => ?_)
        refine z_aload_n F 0 dX12_grow_66 rfl rfl ?_
        obtain ⟨base_22, at__23, ends_24, fault_25, opened_26, lineMany_27, names_28, line_29, changed_30, greatest_31, hg, hf⟩ := zb10_some hf
        refine z_callVm (rest := []) F 12 (c_M_ends1 (xL X) G a_this a_height a_changeAt a_changeWas a_changeIs a_tape a_text a_names a_line a_row a_pastMany a_past a_changed a_greatest a_numbersWere a_told a_waysOf a_waysWere a_blocks a_ordersOf a_imageLine a_bodyKind a_trace a_shelf a_many a_items a_carried people keptMany done tapeMany textMany base_7 at__8 ends_9 fault_10 opened_11 lineMany rowMany_12 taller_13 tallerBy pasts_14 isKept imageMany bodies ran ownKind ownNumber height_21 tape text names_15 line row_16 changed greatest numbersWere_19 base_22 at__23 ends_24 fault_25 opened_26 lineMany_27 names_28 line_29 changed_30 greatest_31 hg) hy_X12_ends1 ml_X12_252 hd_X12_ends1 ⟨by omega, by omega⟩ rfl [0, 1, 2, 3, 4, 5, 6, 9, 10, 11] rfl rfl 0 rfl rfl (w_M_grow G a_this a_height a_changeAt a_changeWas a_changeIs a_tape a_text a_names a_line a_row a_pastMany a_past a_changed a_greatest a_numbersWere a_told a_waysOf a_waysWere a_blocks a_ordersOf a_imageLine a_bodyKind a_trace a_shelf a_many a_items a_carried people keptMany done tapeMany textMany base_22 at__23 ends_24 fault_25 opened_26 lineMany_27 rowMany_12 taller_13 tallerBy pasts_14 isKept imageMany bodies ran ownKind ownNumber height_21 tape text names_28 line_29 row_16 pastMany_17 past_18 changed_30 greatest_31 numbersWere_19) [some 0, some 1, some 2, some 3, some 4, some 5, some 6, none, none, some 7, some 8, some 9] rfl (by decide +kernel) rfl rfl (Nat.le_of_ble_eq_true rfl) dX12_grow_67 (fun hz_32 => ?_)
        refine z_iload_n F 2 dX12_grow_70 rfl rfl ?_
        have eq1 := Option.some.inj hf
        obtain ⟨ee1, eq2⟩ := Prod.mk.inj eq1
        obtain ⟨ee2, eq3⟩ := Prod.mk.inj eq2
        obtain ⟨ee3, eq4⟩ := Prod.mk.inj eq3
        obtain ⟨ee4, eq5⟩ := Prod.mk.inj eq4
        obtain ⟨ee5, eq6⟩ := Prod.mk.inj eq5
        obtain ⟨ee6, eq7⟩ := Prod.mk.inj eq6
        obtain ⟨ee7, eq8⟩ := Prod.mk.inj eq7
        obtain ⟨ee8, eq9⟩ := Prod.mk.inj eq8
        obtain ⟨ee9, eq10⟩ := Prod.mk.inj eq9
        obtain ⟨ee10, eq11⟩ := Prod.mk.inj eq10
        obtain ⟨ee11, eq12⟩ := Prod.mk.inj eq11
        obtain ⟨ee12, eq13⟩ := Prod.mk.inj eq12
        obtain ⟨ee13, eq14⟩ := Prod.mk.inj eq13
        obtain ⟨ee14, eq15⟩ := Prod.mk.inj eq14
        obtain ⟨ee15, eq16⟩ := Prod.mk.inj eq15
        obtain ⟨ee16, eq17⟩ := Prod.mk.inj eq16
        obtain ⟨ee17, eq18⟩ := Prod.mk.inj eq17
        obtain ⟨ee18, ee19⟩ := Prod.mk.inj eq18
        subst ee1
        subst ee2
        subst ee3
        subst ee4
        subst ee5
        subst ee6
        subst ee7
        subst ee8
        subst ee9
        subst ee10
        subst ee11
        subst ee12
        subst ee13
        subst ee14
        subst ee15
        subst ee16
        subst ee17
        subst ee18
        subst ee19
        exact z_iret F rfl rfl rfl rfl dX12_grow_71
      · refine z_iconst F (-1) dX12_grow_53 rfl ?_
        have eq1 := Option.some.inj hf
        obtain ⟨ee1, eq2⟩ := Prod.mk.inj eq1
        obtain ⟨ee2, eq3⟩ := Prod.mk.inj eq2
        obtain ⟨ee3, eq4⟩ := Prod.mk.inj eq3
        obtain ⟨ee4, eq5⟩ := Prod.mk.inj eq4
        obtain ⟨ee5, eq6⟩ := Prod.mk.inj eq5
        obtain ⟨ee6, eq7⟩ := Prod.mk.inj eq6
        obtain ⟨ee7, eq8⟩ := Prod.mk.inj eq7
        obtain ⟨ee8, eq9⟩ := Prod.mk.inj eq8
        obtain ⟨ee9, eq10⟩ := Prod.mk.inj eq9
        obtain ⟨ee10, eq11⟩ := Prod.mk.inj eq10
        obtain ⟨ee11, eq12⟩ := Prod.mk.inj eq11
        obtain ⟨ee12, eq13⟩ := Prod.mk.inj eq12
        obtain ⟨ee13, eq14⟩ := Prod.mk.inj eq13
        obtain ⟨ee14, eq15⟩ := Prod.mk.inj eq14
        obtain ⟨ee15, eq16⟩ := Prod.mk.inj eq15
        obtain ⟨ee16, eq17⟩ := Prod.mk.inj eq16
        obtain ⟨ee17, eq18⟩ := Prod.mk.inj eq17
        obtain ⟨ee18, ee19⟩ := Prod.mk.inj eq18
        subst ee1
        subst ee2
        subst ee3
        subst ee4
        subst ee5
        subst ee6
        subst ee7
        subst ee8
        subst ee9
        subst ee10
        subst ee11
        subst ee12
        subst ee13
        subst ee14
        subst ee15
        subst ee16
        subst ee17
        subst ee18
        subst ee19
        exact z_iret F rfl rfl rfl rfl dX12_grow_54
    · refine z_iconst F (-1) dX12_grow_20 rfl ?_
      have eq1 := Option.some.inj hf
      obtain ⟨ee1, eq2⟩ := Prod.mk.inj eq1
      obtain ⟨ee2, eq3⟩ := Prod.mk.inj eq2
      obtain ⟨ee3, eq4⟩ := Prod.mk.inj eq3
      obtain ⟨ee4, eq5⟩ := Prod.mk.inj eq4
      obtain ⟨ee5, eq6⟩ := Prod.mk.inj eq5
      obtain ⟨ee6, eq7⟩ := Prod.mk.inj eq6
      obtain ⟨ee7, eq8⟩ := Prod.mk.inj eq7
      obtain ⟨ee8, eq9⟩ := Prod.mk.inj eq8
      obtain ⟨ee9, eq10⟩ := Prod.mk.inj eq9
      obtain ⟨ee10, eq11⟩ := Prod.mk.inj eq10
      obtain ⟨ee11, eq12⟩ := Prod.mk.inj eq11
      obtain ⟨ee12, eq13⟩ := Prod.mk.inj eq12
      obtain ⟨ee13, eq14⟩ := Prod.mk.inj eq13
      obtain ⟨ee14, eq15⟩ := Prod.mk.inj eq14
      obtain ⟨ee15, eq16⟩ := Prod.mk.inj eq15
      obtain ⟨ee16, eq17⟩ := Prod.mk.inj eq16
      obtain ⟨ee17, eq18⟩ := Prod.mk.inj eq17
      obtain ⟨ee18, ee19⟩ := Prod.mk.inj eq18
      subst ee1
      subst ee2
      subst ee3
      subst ee4
      subst ee5
      subst ee6
      subst ee7
      subst ee8
      subst ee9
      subst ee10
      subst ee11
      subst ee12
      subst ee13
      subst ee14
      subst ee15
      subst ee16
      subst ee17
      subst ee18
      subst ee19
      exact z_iret F rfl rfl rfl rfl dX12_grow_21

abbrev w_M_was (G : zG) (a_this : Nat) (a_height : Nat) (a_changeAt : Nat) (a_changeWas : Nat) (a_changeIs : Nat) (a_tape : Nat) (a_text : Nat) (a_names : Nat) (a_line : Nat) (a_row : Nat) (a_pastMany : Nat) (a_past : Nat) (a_changed : Nat) (a_greatest : Nat) (a_numbersWere : Nat) (a_told : Nat) (a_waysOf : Nat) (a_waysWere : Nat) (a_blocks : Nat) (a_ordersOf : Nat) (a_imageLine : Nat) (a_bodyKind : Nat) (a_trace : Nat) (a_shelf : Nat) (a_many : Nat) (a_items : Nat) (a_carried : Nat) (people : Int32) (keptMany : Int32) (done : Int32) (tapeMany : Int32) (textMany : Int32) (base : Int32) (at_ : Int32) (ends : Int32) (fault : Int32) (opened : Int32) (lineMany : Int32) (rowMany : Int32) (taller : Int32) (tallerBy : Int32) (pasts : Int32) (isKept : Int32) (imageMany : Int32) (bodies : Int32) (ran : Int32) (ownKind : Int32) (ownNumber : Int32) (pastMany : Nat → Int32) (past : Nat → Int32) : va_W := [(a_this, cO 12 [.int people, .ref a_height, .ref a_changeAt, .ref a_changeWas, .ref a_changeIs, .int keptMany, .int done, .ref a_tape, .int tapeMany, .ref a_text, .int textMany, .int base, .int at_, .int ends, .int fault, .int opened, .ref a_names, .ref a_line, .int lineMany, .ref a_row, .int rowMany, .int taller, .int tallerBy, .ref a_pastMany, .ref a_past, .int pasts, .ref a_changed, .ref a_greatest, .ref a_numbersWere, .ref a_told, .ref a_waysOf, .ref a_waysWere, .ref a_blocks, .ref a_ordersOf, .int isKept, .int imageMany, .ref a_imageLine, .int bodies, .ref a_bodyKind, .ref a_trace, .int ran, .int ownKind, .int ownNumber, .ref a_shelf, .ref a_many, .ref a_items, .ref a_carried]), (a_pastMany, cI G 12 pastMany), (a_past, cI G 108 past)]
def f_M_was (pasts : Int32) (pastMany : Nat → Int32) (past : Nat → Int32) (x1 : Int32) (x2 : Int32) : Option Int32 := (if (f_M_within (Int32.toInt64 x1) 1 (Int32.toInt64 pasts)) = 0 then (some (-1)) else (zg pastMany 12 (pasts - x1) fun v_2 => (if (f_M_within (Int32.toInt64 x2) 0 (Int32.toInt64 (v_2 - (1 : Int32)))) = 0 then (some (-1)) else (zg past 108 (((9 : Int32) * (pasts - x1)) + x2) fun v_4 => (some v_4)))))
set_option maxRecDepth 100000 in
set_option maxHeartbeats 4000000 in
theorem c_M_was (l : Launch) (G : zG) (a_this : Nat) (a_height : Nat) (a_changeAt : Nat) (a_changeWas : Nat) (a_changeIs : Nat) (a_tape : Nat) (a_text : Nat) (a_names : Nat) (a_line : Nat) (a_row : Nat) (a_pastMany : Nat) (a_past : Nat) (a_changed : Nat) (a_greatest : Nat) (a_numbersWere : Nat) (a_told : Nat) (a_waysOf : Nat) (a_waysWere : Nat) (a_blocks : Nat) (a_ordersOf : Nat) (a_imageLine : Nat) (a_bodyKind : Nat) (a_trace : Nat) (a_shelf : Nat) (a_many : Nat) (a_items : Nat) (a_carried : Nat) (people : Int32) (keptMany : Int32) (done : Int32) (tapeMany : Int32) (textMany : Int32) (base : Int32) (at_ : Int32) (ends : Int32) (fault : Int32) (opened : Int32) (lineMany : Int32) (rowMany : Int32) (taller : Int32) (tallerBy : Int32) (pasts : Int32) (isKept : Int32) (imageMany : Int32) (bodies : Int32) (ran : Int32) (ownKind : Int32) (ownNumber : Int32) (pastMany : Nat → Int32) (past : Nat → Int32) (x1 : Int32) (x2 : Int32) (r_ : Int32) (hf : f_M_was pasts pastMany past x1 x2 = some r_) : zM l yX12_was cX12_was 3 (some .int) 1 25 G [.ref a_this, .int x1, .int x2] (w_M_was G a_this a_height a_changeAt a_changeWas a_changeIs a_tape a_text a_names a_line a_row a_pastMany a_past a_changed a_greatest a_numbersWere a_told a_waysOf a_waysWere a_blocks a_ordersOf a_imageLine a_bodyKind a_trace a_shelf a_many a_items a_carried people keptMany done tapeMany textMany base at_ ends fault opened lineMany rowMany taller tallerBy pasts isKept imageMany bodies ran ownKind ownNumber pastMany past) (some (.int r_)) (w_M_was G a_this a_height a_changeAt a_changeWas a_changeIs a_tape a_text a_names a_line a_row a_pastMany a_past a_changed a_greatest a_numbersWere a_told a_waysOf a_waysWere a_blocks a_ordersOf a_imageLine a_bodyKind a_trace a_shelf a_many a_items a_carried people keptMany done tapeMany textMany base at_ ends fault opened lineMany rowMany taller tallerBy pasts isKept imageMany bodies ran ownKind ownNumber pastMany past) := by
  refine zM.of [(0, .ref a_this), (1, .int x1), (2, .int x2)] (own := RX12) rfl (by decide +kernel) (Nat.le_of_ble_eq_true rfl) rfl rfl fun X hX F => ?_
  subst hX
  replace hf := (f_M_was.eq_1 ..).symm.trans hf
  refine z_iload_n F 1 dX12_was_0 rfl rfl ?_
  refine z_i2l F dX12_was_1 ?_
  refine z_lconst F (1) dX12_was_2 rfl ?_
  refine z_aload_n F 0 dX12_was_3 rfl rfl ?_
  refine z_get F 0 12 25 inlX12 rfl rfl (by decide) fl_X12_242 rfl dX12_was_4 ?_
  refine z_i2l F dX12_was_7 ?_
  refine z_callSm (rest := []) F (c_M_within (xL X) G (Int32.toInt64 x1) 1 (Int32.toInt64 pasts) _ rfl) hy_X12_within ml_X12_96 hd_X12_within ⟨by omega, by omega⟩ rfl [] rfl rfl (w_M_was G a_this a_height a_changeAt a_changeWas a_changeIs a_tape a_text a_names a_line a_row a_pastMany a_past a_changed a_greatest a_numbersWere a_told a_waysOf a_waysWere a_blocks a_ordersOf a_imageLine a_bodyKind a_trace a_shelf a_many a_items a_carried people keptMany done tapeMany textMany base at_ ends fault opened lineMany rowMany taller tallerBy pasts isKept imageMany bodies ran ownKind ownNumber pastMany past) [none, none, none] rfl (by decide +kernel) rfl rfl (Nat.le_of_ble_eq_true rfl) dX12_was_8 (fun hz_1 => ?_)
  refine z_if_eq F 37 dX12_was_11 (by decide) hf (fun hf _ => ?_) (fun hf _ => ?_)
  · refine z_iconst F (-1) dX12_was_37 rfl ?_
    have ee1 := Option.some.inj hf
    subst ee1
    exact z_iret F rfl rfl rfl rfl dX12_was_38
  · refine z_iload_n F 2 dX12_was_14 rfl rfl ?_
    refine z_i2l F dX12_was_15 ?_
    refine z_lconst F (0) dX12_was_16 rfl ?_
    refine z_aload_n F 0 dX12_was_17 rfl rfl ?_
    refine z_get F 0 12 23 inlX12 rfl rfl (by decide) fl_X12_37 rfl dX12_was_18 ?_
    refine z_aload_n F 0 dX12_was_21 rfl rfl ?_
    refine z_get F 0 12 25 inlX12 rfl rfl (by decide) fl_X12_242 rfl dX12_was_22 ?_
    refine z_iload_n F 1 dX12_was_25 rfl rfl ?_
    refine z_isub F dX12_was_26 ?_
    refine z_iald F 1 rfl hf dX12_was_27 (fun v_2 hf => ?_)
    refine z_iconst F (1) dX12_was_28 rfl ?_
    refine z_isub F dX12_was_29 ?_
    refine z_i2l F dX12_was_30 ?_
    refine z_callSm (rest := []) F (c_M_within (xL X) G (Int32.toInt64 x2) 0 (Int32.toInt64 (v_2 - (1 : Int32))) _ rfl) hy_X12_within ml_X12_96 hd_X12_within ⟨by omega, by omega⟩ rfl [] rfl rfl (w_M_was G a_this a_height a_changeAt a_changeWas a_changeIs a_tape a_text a_names a_line a_row a_pastMany a_past a_changed a_greatest a_numbersWere a_told a_waysOf a_waysWere a_blocks a_ordersOf a_imageLine a_bodyKind a_trace a_shelf a_many a_items a_carried people keptMany done tapeMany textMany base at_ ends fault opened lineMany rowMany taller tallerBy pasts isKept imageMany bodies ran ownKind ownNumber pastMany past) [none, none, none] rfl (by decide +kernel) rfl rfl (Nat.le_of_ble_eq_true rfl) dX12_was_31 (fun hz_3 => ?_)
    refine z_if_ne F 39 dX12_was_34 (by decide) hf (fun hf _ => ?_) (fun hf _ => ?_)
    · refine z_aload_n F 0 dX12_was_39 rfl rfl ?_
      refine z_get F 0 12 24 inlX12 rfl rfl (by decide) fl_X12_40 rfl dX12_was_40 ?_
      refine z_bipush F (9) dX12_was_43 rfl ?_
      refine z_aload_n F 0 dX12_was_45 rfl rfl ?_
      refine z_get F 0 12 25 inlX12 rfl rfl (by decide) fl_X12_242 rfl dX12_was_46 ?_
      refine z_iload_n F 1 dX12_was_49 rfl rfl ?_
      refine z_isub F dX12_was_50 ?_
      refine z_imul F dX12_was_51 ?_
      refine z_iload_n F 2 dX12_was_52 rfl rfl ?_
      refine z_iadd F dX12_was_53 ?_
      refine z_iald F 2 rfl hf dX12_was_54 (fun v_4 hf => ?_)
      have ee1 := Option.some.inj hf
      subst ee1
      exact z_iret F rfl rfl rfl rfl dX12_was_55
    · refine z_iconst F (-1) dX12_was_37 rfl ?_
      have ee1 := Option.some.inj hf
      subst ee1
      exact z_iret F rfl rfl rfl rfl dX12_was_38

abbrev w_M_again (G : zG) (a_this : Nat) (a_height : Nat) (a_changeAt : Nat) (a_changeWas : Nat) (a_changeIs : Nat) (a_tape : Nat) (a_text : Nat) (a_names : Nat) (a_line : Nat) (a_row : Nat) (a_pastMany : Nat) (a_past : Nat) (a_changed : Nat) (a_greatest : Nat) (a_numbersWere : Nat) (a_told : Nat) (a_waysOf : Nat) (a_waysWere : Nat) (a_blocks : Nat) (a_ordersOf : Nat) (a_imageLine : Nat) (a_bodyKind : Nat) (a_trace : Nat) (a_shelf : Nat) (a_many : Nat) (a_items : Nat) (a_carried : Nat) (people : Int32) (keptMany : Int32) (done : Int32) (tapeMany : Int32) (textMany : Int32) (base : Int32) (at_ : Int32) (ends : Int32) (fault : Int32) (opened : Int32) (lineMany : Int32) (rowMany : Int32) (taller : Int32) (tallerBy : Int32) (pasts : Int32) (isKept : Int32) (imageMany : Int32) (bodies : Int32) (ran : Int32) (ownKind : Int32) (ownNumber : Int32) (line : Nat → Int32) (pastMany : Nat → Int32) (past : Nat → Int32) : va_W := [(a_this, cO 12 [.int people, .ref a_height, .ref a_changeAt, .ref a_changeWas, .ref a_changeIs, .int keptMany, .int done, .ref a_tape, .int tapeMany, .ref a_text, .int textMany, .int base, .int at_, .int ends, .int fault, .int opened, .ref a_names, .ref a_line, .int lineMany, .ref a_row, .int rowMany, .int taller, .int tallerBy, .ref a_pastMany, .ref a_past, .int pasts, .ref a_changed, .ref a_greatest, .ref a_numbersWere, .ref a_told, .ref a_waysOf, .ref a_waysWere, .ref a_blocks, .ref a_ordersOf, .int isKept, .int imageMany, .ref a_imageLine, .int bodies, .ref a_bodyKind, .ref a_trace, .int ran, .int ownKind, .int ownNumber, .ref a_shelf, .ref a_many, .ref a_items, .ref a_carried]), (a_line, cI G 9 line), (a_pastMany, cI G 12 pastMany), (a_past, cI G 108 past)]
def f_M_again_L41 (lineMany : Int32) (pasts : Int32) (past : Nat → Int32) : Nat → (Nat → Int32) → Int32 → Option ((Nat → Int32))
  | 0, _, _ => none
  | fuel + 1, line, v2 => (if lineMany ≤ v2 then (some line) else (zg past 108 (((9 : Int32) * pasts) + v2) fun v_3 => (zs line 9 v2 v_3 fun line_4 => (f_M_again_L41 lineMany pasts past fuel line_4 (v2 + 1)))))
def f_M_again (lineMany : Int32) (pasts : Int32) (line : Nat → Int32) (pastMany : Nat → Int32) (past : Nat → Int32) (x1 : Int32) : Option (Int32 × Int32 × Int32 × (Nat → Int32)) := (if (f_M_within (Int32.toInt64 x1) 1 (Int32.toInt64 pasts)) = 0 then (some ((-1), lineMany, pasts, line)) else (zg pastMany 12 (pasts - x1) fun v_2 => (zb1 (f_M_again_L41 v_2 (pasts - x1) past FU line 0) fun line_5 => (some ((pasts - x1), v_2, (pasts - x1), line_5)))))
set_option maxRecDepth 100000 in
set_option maxHeartbeats 4000000 in
theorem l_M_again_41 {X : zX} (G : zG) (a_this : Nat) (a_height : Nat) (a_changeAt : Nat) (a_changeWas : Nat) (a_changeIs : Nat) (a_tape : Nat) (a_text : Nat) (a_names : Nat) (a_line : Nat) (a_row : Nat) (a_pastMany : Nat) (a_past : Nat) (a_changed : Nat) (a_greatest : Nat) (a_numbersWere : Nat) (a_told : Nat) (a_waysOf : Nat) (a_waysWere : Nat) (a_blocks : Nat) (a_ordersOf : Nat) (a_imageLine : Nat) (a_bodyKind : Nat) (a_trace : Nat) (a_shelf : Nat) (a_many : Nat) (a_items : Nat) (a_carried : Nat) (people : Int32) (keptMany : Int32) (done : Int32) (tapeMany : Int32) (textMany : Int32) (base : Int32) (at_ : Int32) (ends : Int32) (fault : Int32) (opened : Int32) (lineMany : Int32) (rowMany : Int32) (taller : Int32) (tallerBy : Int32) (pasts : Int32) (isKept : Int32) (imageMany : Int32) (bodies : Int32) (ran : Int32) (ownKind : Int32) (ownNumber : Int32) (pastMany : Nat → Int32) (past : Nat → Int32) {v0 : Option Value} {w0 : va_W} (F : zF X G cX12_again RX12 3 (some .int) 1 25 v0 w0) (e_line : Nat → Int32) (hk : Z X G 3 (w_M_again G a_this a_height a_changeAt a_changeWas a_changeIs a_tape a_text a_names a_line a_row a_pastMany a_past a_changed a_greatest a_numbersWere a_told a_waysOf a_waysWere a_blocks a_ordersOf a_imageLine a_bodyKind a_trace a_shelf a_many a_items a_carried people keptMany done tapeMany textMany base at_ ends fault opened lineMany rowMany taller tallerBy pasts isKept imageMany bodies ran ownKind ownNumber e_line pastMany past) [(0, .ref a_this)] 75 []) :
    ∀ (fuel : Nat) (line : Nat → Int32) (v2 : Int32), f_M_again_L41 lineMany pasts past fuel line v2 = some e_line → Z X G 3 (w_M_again G a_this a_height a_changeAt a_changeWas a_changeIs a_tape a_text a_names a_line a_row a_pastMany a_past a_changed a_greatest a_numbersWere a_told a_waysOf a_waysWere a_blocks a_ordersOf a_imageLine a_bodyKind a_trace a_shelf a_many a_items a_carried people keptMany done tapeMany textMany base at_ ends fault opened lineMany rowMany taller tallerBy pasts isKept imageMany bodies ran ownKind ownNumber line pastMany past) [(0, .ref a_this), (2, .int v2)] 41 [] := by
  intro fuel
  induction fuel with
  | zero => intro line v2 hf; exact absurd ((f_M_again_L41.eq_1 ..).symm.trans hf) (fun h => by cases h)
  | succ fuel ih =>
    intro line v2 hf
    replace hf := (f_M_again_L41.eq_2 ..).symm.trans hf
    refine z_iload_n F 1 dX12_again_41 rfl rfl ?_
    refine z_aload_n F 0 dX12_again_42 rfl rfl ?_
    refine z_get F 0 12 18 inlX12 rfl rfl (by decide) fl_X12_100 rfl dX12_again_43 ?_
    refine z_icmp_ge F 75 dX12_again_46 (by decide) hf (fun hf _ => ?_) (fun hf _ => ?_)
    · have ee1 := Option.some.inj hf
      subst ee1
      exact z_sub [0] rfl hk
    · refine z_aload_n F 0 dX12_again_49 rfl rfl ?_
      refine z_get F 0 12 17 inlX12 rfl rfl (by decide) fl_X12_31 rfl dX12_again_50 ?_
      refine z_iload_n F 1 dX12_again_53 rfl rfl ?_
      refine z_aload_n F 0 dX12_again_54 rfl rfl ?_
      refine z_get F 0 12 24 inlX12 rfl rfl (by decide) fl_X12_40 rfl dX12_again_55 ?_
      refine z_bipush F (9) dX12_again_58 rfl ?_
      refine z_aload_n F 0 dX12_again_60 rfl rfl ?_
      refine z_get F 0 12 25 inlX12 rfl rfl (by decide) fl_X12_242 rfl dX12_again_61 ?_
      refine z_imul F dX12_again_64 ?_
      refine z_iload_n F 1 dX12_again_65 rfl rfl ?_
      refine z_iadd F dX12_again_66 ?_
      refine z_iald F 3 rfl hf dX12_again_67 (fun v_3 hf => ?_)
      refine z_iast F 1 (fun line_4 => (w_M_again G a_this a_height a_changeAt a_changeWas a_changeIs a_tape a_text a_names a_line a_row a_pastMany a_past a_changed a_greatest a_numbersWere a_told a_waysOf a_waysWere a_blocks a_ordersOf a_imageLine a_bodyKind a_trace a_shelf a_many a_items a_carried people keptMany done tapeMany textMany base at_ ends fault opened lineMany rowMany taller tallerBy pasts isKept imageMany bodies ran ownKind ownNumber line_4 pastMany past)) rfl hf (fun _ => rfl) dX12_again_68 (fun line_4 hf => ?_)
      refine z_iinc F [(2, .int (v2 + 1)), (0, .ref a_this)] dX12_again_69 1 rfl rfl (by decide) rfl ?_
      refine z_goto F 41 dX12_again_72 (by decide) ?_
      exact z_sub [1, 0] rfl (ih line_4 (v2 + 1) hf)

set_option maxRecDepth 100000 in
set_option maxHeartbeats 4000000 in
theorem c_M_again (l : Launch) (G : zG) (a_this : Nat) (a_height : Nat) (a_changeAt : Nat) (a_changeWas : Nat) (a_changeIs : Nat) (a_tape : Nat) (a_text : Nat) (a_names : Nat) (a_line : Nat) (a_row : Nat) (a_pastMany : Nat) (a_past : Nat) (a_changed : Nat) (a_greatest : Nat) (a_numbersWere : Nat) (a_told : Nat) (a_waysOf : Nat) (a_waysWere : Nat) (a_blocks : Nat) (a_ordersOf : Nat) (a_imageLine : Nat) (a_bodyKind : Nat) (a_trace : Nat) (a_shelf : Nat) (a_many : Nat) (a_items : Nat) (a_carried : Nat) (people : Int32) (keptMany : Int32) (done : Int32) (tapeMany : Int32) (textMany : Int32) (base : Int32) (at_ : Int32) (ends : Int32) (fault : Int32) (opened : Int32) (lineMany : Int32) (rowMany : Int32) (taller : Int32) (tallerBy : Int32) (pasts : Int32) (isKept : Int32) (imageMany : Int32) (bodies : Int32) (ran : Int32) (ownKind : Int32) (ownNumber : Int32) (line : Nat → Int32) (pastMany : Nat → Int32) (past : Nat → Int32) (x1 : Int32) (r_ : Int32) (o_lineMany : Int32) (o_pasts : Int32) (o_line : Nat → Int32) (hf : f_M_again lineMany pasts line pastMany past x1 = some (r_, o_lineMany, o_pasts, o_line)) : zM l yX12_again cX12_again 3 (some .int) 1 25 G [.ref a_this, .int x1] (w_M_again G a_this a_height a_changeAt a_changeWas a_changeIs a_tape a_text a_names a_line a_row a_pastMany a_past a_changed a_greatest a_numbersWere a_told a_waysOf a_waysWere a_blocks a_ordersOf a_imageLine a_bodyKind a_trace a_shelf a_many a_items a_carried people keptMany done tapeMany textMany base at_ ends fault opened lineMany rowMany taller tallerBy pasts isKept imageMany bodies ran ownKind ownNumber line pastMany past) (some (.int r_)) (w_M_again G a_this a_height a_changeAt a_changeWas a_changeIs a_tape a_text a_names a_line a_row a_pastMany a_past a_changed a_greatest a_numbersWere a_told a_waysOf a_waysWere a_blocks a_ordersOf a_imageLine a_bodyKind a_trace a_shelf a_many a_items a_carried people keptMany done tapeMany textMany base at_ ends fault opened o_lineMany rowMany taller tallerBy o_pasts isKept imageMany bodies ran ownKind ownNumber o_line pastMany past) := by
  refine zM.of [(0, .ref a_this), (1, .int x1)] (own := RX12) rfl (by decide +kernel) (Nat.le_of_ble_eq_true rfl) rfl rfl fun X hX F => ?_
  subst hX
  replace hf := (f_M_again.eq_1 ..).symm.trans hf
  refine z_iload_n F 1 dX12_again_0 rfl rfl ?_
  refine z_i2l F dX12_again_1 ?_
  refine z_lconst F (1) dX12_again_2 rfl ?_
  refine z_aload_n F 0 dX12_again_3 rfl rfl ?_
  refine z_get F 0 12 25 inlX12 rfl rfl (by decide) fl_X12_242 rfl dX12_again_4 ?_
  refine z_i2l F dX12_again_7 ?_
  refine z_callSm (rest := []) F (c_M_within (xL X) G (Int32.toInt64 x1) 1 (Int32.toInt64 pasts) _ rfl) hy_X12_within ml_X12_96 hd_X12_within ⟨by omega, by omega⟩ rfl [] rfl rfl (w_M_again G a_this a_height a_changeAt a_changeWas a_changeIs a_tape a_text a_names a_line a_row a_pastMany a_past a_changed a_greatest a_numbersWere a_told a_waysOf a_waysWere a_blocks a_ordersOf a_imageLine a_bodyKind a_trace a_shelf a_many a_items a_carried people keptMany done tapeMany textMany base at_ ends fault opened lineMany rowMany taller tallerBy pasts isKept imageMany bodies ran ownKind ownNumber line pastMany past) [none, none, none, none] rfl (by decide +kernel) rfl rfl (Nat.le_of_ble_eq_true rfl) dX12_again_8 (fun hz_1 => ?_)
  refine z_if_ne F 16 dX12_again_11 (by decide) hf (fun hf _ => ?_) (fun hf _ => ?_)
  · refine z_aload_n F 0 dX12_again_16 rfl rfl ?_
    refine z_dup F rfl dX12_again_17 ?_
    refine z_get F 0 12 25 inlX12 rfl rfl (by decide) fl_X12_242 rfl dX12_again_18 ?_
    refine z_iload_n F 1 dX12_again_21 rfl rfl ?_
    refine z_isub F dX12_again_22 ?_
    refine z_put F 0 12 25 (w_M_again G a_this a_height a_changeAt a_changeWas a_changeIs a_tape a_text a_names a_line a_row a_pastMany a_past a_changed a_greatest a_numbersWere a_told a_waysOf a_waysWere a_blocks a_ordersOf a_imageLine a_bodyKind a_trace a_shelf a_many a_items a_carried people keptMany done tapeMany textMany base at_ ends fault opened lineMany rowMany taller tallerBy (pasts - x1) isKept imageMany bodies ran ownKind ownNumber line pastMany past) inlX12 tyX12 tyX12_ok nmX12 rfl rfl (by decide) fl_X12_242 rfl rfl rfl (Nat.le_of_ble_eq_true rfl) rfl dX12_again_23 ?_
    refine z_aload_n F 0 dX12_again_26 rfl rfl ?_
    refine z_aload_n F 0 dX12_again_27 rfl rfl ?_
    refine z_get F 0 12 23 inlX12 rfl rfl (by decide) fl_X12_37 rfl dX12_again_28 ?_
    refine z_aload_n F 0 dX12_again_31 rfl rfl ?_
    refine z_get F 0 12 25 inlX12 rfl rfl (by decide) fl_X12_242 rfl dX12_again_32 ?_
    refine z_iald F 2 rfl hf dX12_again_35 (fun v_2 hf => ?_)
    refine z_put F 0 12 18 (w_M_again G a_this a_height a_changeAt a_changeWas a_changeIs a_tape a_text a_names a_line a_row a_pastMany a_past a_changed a_greatest a_numbersWere a_told a_waysOf a_waysWere a_blocks a_ordersOf a_imageLine a_bodyKind a_trace a_shelf a_many a_items a_carried people keptMany done tapeMany textMany base at_ ends fault opened v_2 rowMany taller tallerBy (pasts - x1) isKept imageMany bodies ran ownKind ownNumber line pastMany past) inlX12 tyX12 tyX12_ok nmX12 rfl rfl (by decide) fl_X12_100 rfl rfl rfl (Nat.le_of_ble_eq_true rfl) rfl dX12_again_36 ?_
    refine z_iconst F (0) dX12_again_39 rfl ?_
    refine z_istore_n F [(2, .int 0), (0, .ref a_this), (1, .int x1)] dX12_again_40 rfl (by decide) rfl ?_
    obtain ⟨line_5, hg, hf⟩ := zb1_some hf
    refine z_sub [1, 0] rfl ?_
    refine l_M_again_41 G a_this a_height a_changeAt a_changeWas a_changeIs a_tape a_text a_names a_line a_row a_pastMany a_past a_changed a_greatest a_numbersWere a_told a_waysOf a_waysWere a_blocks a_ordersOf a_imageLine a_bodyKind a_trace a_shelf a_many a_items a_carried people keptMany done tapeMany textMany base at_ ends fault opened v_2 rowMany taller tallerBy (pasts - x1) isKept imageMany bodies ran ownKind ownNumber pastMany past F line_5 ?_ FU line 0 hg
    refine z_aload_n F 0 dX12_again_75 rfl rfl ?_
    refine z_get F 0 12 25 inlX12 rfl rfl (by decide) fl_X12_242 rfl dX12_again_76 ?_
    have eq1 := Option.some.inj hf
    obtain ⟨ee1, eq2⟩ := Prod.mk.inj eq1
    obtain ⟨ee2, eq3⟩ := Prod.mk.inj eq2
    obtain ⟨ee3, ee4⟩ := Prod.mk.inj eq3
    subst ee1
    subst ee2
    subst ee3
    subst ee4
    exact z_iret F rfl rfl rfl rfl dX12_again_79
  · refine z_iconst F (-1) dX12_again_14 rfl ?_
    have eq1 := Option.some.inj hf
    obtain ⟨ee1, eq2⟩ := Prod.mk.inj eq1
    obtain ⟨ee2, eq3⟩ := Prod.mk.inj eq2
    obtain ⟨ee3, ee4⟩ := Prod.mk.inj eq3
    subst ee1
    subst ee2
    subst ee3
    subst ee4
    exact z_iret F rfl rfl rfl rfl dX12_again_15

abbrev w_M_bookIs (G : zG) (a_this : Nat) (a_height : Nat) (a_changeAt : Nat) (a_changeWas : Nat) (a_changeIs : Nat) (a_tape : Nat) (a_text : Nat) (a_names : Nat) (a_line : Nat) (a_row : Nat) (a_pastMany : Nat) (a_past : Nat) (a_changed : Nat) (a_greatest : Nat) (a_numbersWere : Nat) (a_told : Nat) (a_waysOf : Nat) (a_waysWere : Nat) (a_blocks : Nat) (a_ordersOf : Nat) (a_imageLine : Nat) (a_bodyKind : Nat) (a_trace : Nat) (a_shelf : Nat) (a_many : Nat) (a_items : Nat) (a_carried : Nat) (people : Int32) (keptMany : Int32) (done : Int32) (tapeMany : Int32) (textMany : Int32) (base : Int32) (at_ : Int32) (ends : Int32) (fault : Int32) (opened : Int32) (lineMany : Int32) (rowMany : Int32) (taller : Int32) (tallerBy : Int32) (pasts : Int32) (isKept : Int32) (imageMany : Int32) (bodies : Int32) (ran : Int32) (ownKind : Int32) (ownNumber : Int32) (shelf : Nat → Int32) : va_W := [(a_this, cO 12 [.int people, .ref a_height, .ref a_changeAt, .ref a_changeWas, .ref a_changeIs, .int keptMany, .int done, .ref a_tape, .int tapeMany, .ref a_text, .int textMany, .int base, .int at_, .int ends, .int fault, .int opened, .ref a_names, .ref a_line, .int lineMany, .ref a_row, .int rowMany, .int taller, .int tallerBy, .ref a_pastMany, .ref a_past, .int pasts, .ref a_changed, .ref a_greatest, .ref a_numbersWere, .ref a_told, .ref a_waysOf, .ref a_waysWere, .ref a_blocks, .ref a_ordersOf, .int isKept, .int imageMany, .ref a_imageLine, .int bodies, .ref a_bodyKind, .ref a_trace, .int ran, .int ownKind, .int ownNumber, .ref a_shelf, .ref a_many, .ref a_items, .ref a_carried]), (a_shelf, cI G 6 shelf)]
def f_M_bookIs (shelf : Nat → Int32) (x1 : Int32) : Option Int32 := (if (f_M_isShelf x1) = 0 then (some (-1)) else (zg shelf 6 x1 fun v_2 => (if (0 : Int32) ≤ v_2 then (zg shelf 6 x1 fun v_3 => (if v_3 = 50 then (some 1) else (some (-12)))) else (some (-11)))))
set_option maxRecDepth 100000 in
set_option maxHeartbeats 4000000 in
theorem c_M_bookIs (l : Launch) (G : zG) (a_this : Nat) (a_height : Nat) (a_changeAt : Nat) (a_changeWas : Nat) (a_changeIs : Nat) (a_tape : Nat) (a_text : Nat) (a_names : Nat) (a_line : Nat) (a_row : Nat) (a_pastMany : Nat) (a_past : Nat) (a_changed : Nat) (a_greatest : Nat) (a_numbersWere : Nat) (a_told : Nat) (a_waysOf : Nat) (a_waysWere : Nat) (a_blocks : Nat) (a_ordersOf : Nat) (a_imageLine : Nat) (a_bodyKind : Nat) (a_trace : Nat) (a_shelf : Nat) (a_many : Nat) (a_items : Nat) (a_carried : Nat) (people : Int32) (keptMany : Int32) (done : Int32) (tapeMany : Int32) (textMany : Int32) (base : Int32) (at_ : Int32) (ends : Int32) (fault : Int32) (opened : Int32) (lineMany : Int32) (rowMany : Int32) (taller : Int32) (tallerBy : Int32) (pasts : Int32) (isKept : Int32) (imageMany : Int32) (bodies : Int32) (ran : Int32) (ownKind : Int32) (ownNumber : Int32) (shelf : Nat → Int32) (x1 : Int32) (r_ : Int32) (hf : f_M_bookIs shelf x1 = some r_) : zM l yX12_bookIs cX12_bookIs 2 (some .int) 2 45 G [.ref a_this, .int x1] (w_M_bookIs G a_this a_height a_changeAt a_changeWas a_changeIs a_tape a_text a_names a_line a_row a_pastMany a_past a_changed a_greatest a_numbersWere a_told a_waysOf a_waysWere a_blocks a_ordersOf a_imageLine a_bodyKind a_trace a_shelf a_many a_items a_carried people keptMany done tapeMany textMany base at_ ends fault opened lineMany rowMany taller tallerBy pasts isKept imageMany bodies ran ownKind ownNumber shelf) (some (.int r_)) (w_M_bookIs G a_this a_height a_changeAt a_changeWas a_changeIs a_tape a_text a_names a_line a_row a_pastMany a_past a_changed a_greatest a_numbersWere a_told a_waysOf a_waysWere a_blocks a_ordersOf a_imageLine a_bodyKind a_trace a_shelf a_many a_items a_carried people keptMany done tapeMany textMany base at_ ends fault opened lineMany rowMany taller tallerBy pasts isKept imageMany bodies ran ownKind ownNumber shelf) := by
  refine zM.of [(0, .ref a_this), (1, .int x1)] (own := RX12) rfl (by decide +kernel) (Nat.le_of_ble_eq_true rfl) rfl rfl fun X hX F => ?_
  subst hX
  replace hf := (f_M_bookIs.eq_1 ..).symm.trans hf
  refine z_iload_n F 1 dX12_bookIs_0 rfl rfl ?_
  refine z_callSm (rest := []) F (c_M_isShelf (xL X) G x1 _ rfl) hy_X12_isShelf ml_X12_113 hd_X12_isShelf ⟨by omega, by omega⟩ rfl [] rfl rfl (w_M_bookIs G a_this a_height a_changeAt a_changeWas a_changeIs a_tape a_text a_names a_line a_row a_pastMany a_past a_changed a_greatest a_numbersWere a_told a_waysOf a_waysWere a_blocks a_ordersOf a_imageLine a_bodyKind a_trace a_shelf a_many a_items a_carried people keptMany done tapeMany textMany base at_ ends fault opened lineMany rowMany taller tallerBy pasts isKept imageMany bodies ran ownKind ownNumber shelf) [none, none] rfl (by decide +kernel) rfl rfl (Nat.le_of_ble_eq_true rfl) dX12_bookIs_1 (fun hz_1 => ?_)
  refine z_if_ne F 11 dX12_bookIs_4 (by decide) hf (fun hf _ => ?_) (fun hf _ => ?_)
  · refine z_aload_n F 0 dX12_bookIs_11 rfl rfl ?_
    refine z_get F 0 12 43 inlX12 rfl rfl (by decide) fl_X12_76 rfl dX12_bookIs_12 ?_
    refine z_iload_n F 1 dX12_bookIs_15 rfl rfl ?_
    refine z_iald F 1 rfl hf dX12_bookIs_16 (fun v_2 hf => ?_)
    refine z_if_ge F 25 dX12_bookIs_17 (by decide) hf (fun hf _ => ?_) (fun hf _ => ?_)
    · refine z_aload_n F 0 dX12_bookIs_25 rfl rfl ?_
      refine z_get F 0 12 43 inlX12 rfl rfl (by decide) fl_X12_76 rfl dX12_bookIs_26 ?_
      refine z_iload_n F 1 dX12_bookIs_29 rfl rfl ?_
      refine z_iald F 1 rfl hf dX12_bookIs_30 (fun v_3 hf => ?_)
      refine z_bipush F (50) dX12_bookIs_31 rfl ?_
      refine z_icmp_ne F 40 dX12_bookIs_33 (by decide) hf (fun hf _ => ?_) (fun hf _ => ?_)
      · refine z_bipush F (-12) dX12_bookIs_40 rfl ?_
        have ee1 := Option.some.inj hf
        subst ee1
        exact z_iret F rfl rfl rfl rfl dX12_bookIs_42
      · refine z_iconst F (1) dX12_bookIs_36 rfl ?_
        refine z_goto F 42 dX12_bookIs_37 (by decide) ?_
        have ee1 := Option.some.inj hf
        subst ee1
        exact z_iret F rfl rfl rfl rfl dX12_bookIs_42
    · refine z_bipush F (-11) dX12_bookIs_20 rfl ?_
      refine z_goto F 42 dX12_bookIs_22 (by decide) ?_
      have ee1 := Option.some.inj hf
      subst ee1
      exact z_iret F rfl rfl rfl rfl dX12_bookIs_42
  · refine z_iconst F (-1) dX12_bookIs_7 rfl ?_
    refine z_goto F 42 dX12_bookIs_8 (by decide) ?_
    have ee1 := Option.some.inj hf
    subst ee1
    exact z_iret F rfl rfl rfl rfl dX12_bookIs_42

abbrev w_M_falseAt (G : zG) (a_this : Nat) (a_height : Nat) (a_changeAt : Nat) (a_changeWas : Nat) (a_changeIs : Nat) (a_tape : Nat) (a_text : Nat) (a_names : Nat) (a_line : Nat) (a_row : Nat) (a_pastMany : Nat) (a_past : Nat) (a_changed : Nat) (a_greatest : Nat) (a_numbersWere : Nat) (a_told : Nat) (a_waysOf : Nat) (a_waysWere : Nat) (a_blocks : Nat) (a_ordersOf : Nat) (a_imageLine : Nat) (a_bodyKind : Nat) (a_trace : Nat) (a_shelf : Nat) (a_many : Nat) (a_items : Nat) (a_carried : Nat) (people : Int32) (keptMany : Int32) (done : Int32) (tapeMany : Int32) (textMany : Int32) (base : Int32) (at_ : Int32) (ends : Int32) (fault : Int32) (opened : Int32) (lineMany : Int32) (rowMany : Int32) (taller : Int32) (tallerBy : Int32) (pasts : Int32) (isKept : Int32) (imageMany : Int32) (bodies : Int32) (ran : Int32) (ownKind : Int32) (ownNumber : Int32) (many : Nat → Int32) (items : Nat → Int64) : va_W := [(a_this, cO 12 [.int people, .ref a_height, .ref a_changeAt, .ref a_changeWas, .ref a_changeIs, .int keptMany, .int done, .ref a_tape, .int tapeMany, .ref a_text, .int textMany, .int base, .int at_, .int ends, .int fault, .int opened, .ref a_names, .ref a_line, .int lineMany, .ref a_row, .int rowMany, .int taller, .int tallerBy, .ref a_pastMany, .ref a_past, .int pasts, .ref a_changed, .ref a_greatest, .ref a_numbersWere, .ref a_told, .ref a_waysOf, .ref a_waysWere, .ref a_blocks, .ref a_ordersOf, .int isKept, .int imageMany, .ref a_imageLine, .int bodies, .ref a_bodyKind, .ref a_trace, .int ran, .int ownKind, .int ownNumber, .ref a_shelf, .ref a_many, .ref a_items, .ref a_carried]), (a_many, cI G 6 many), (a_items, cJ G 360 items)]
def f_M_falseAt_L2 (lineMany : Int32) (many : Nat → Int32) (items : Nat → Int64) (v1 : Int32) : Nat → Int32 → Option (((Unit) ⊕ (Int32)))
  | 0, _ => none
  | fuel + 1, v2 => (if lineMany ≤ v2 then (some (.inl ())) else (zg many 6 v1 fun v_1 => (if v_1 ≤ v2 then (some (.inl ())) else (zg items 360 (((60 : Int32) * v1) + v2) fun v_2 => (if (f_M_within v_2 ((-1) : Int64) (Int32.toInt64 v2)) = 0 then (some (.inr v2)) else (f_M_falseAt_L2 lineMany many items v1 fuel (v2 + 1)))))))
def f_M_falseAt (lineMany : Int32) (many : Nat → Int32) (items : Nat → Int64) (x1 : Int32) : Option Int32 := (zbs0 (f_M_falseAt_L2 lineMany many items x1 FU 0) ((some (-2))) some)
set_option maxRecDepth 100000 in
set_option maxHeartbeats 4000000 in
theorem l_M_falseAt_2 {X : zX} (G : zG) (a_this : Nat) (a_height : Nat) (a_changeAt : Nat) (a_changeWas : Nat) (a_changeIs : Nat) (a_tape : Nat) (a_text : Nat) (a_names : Nat) (a_line : Nat) (a_row : Nat) (a_pastMany : Nat) (a_past : Nat) (a_changed : Nat) (a_greatest : Nat) (a_numbersWere : Nat) (a_told : Nat) (a_waysOf : Nat) (a_waysWere : Nat) (a_blocks : Nat) (a_ordersOf : Nat) (a_imageLine : Nat) (a_bodyKind : Nat) (a_trace : Nat) (a_shelf : Nat) (a_many : Nat) (a_items : Nat) (a_carried : Nat) (people : Int32) (keptMany : Int32) (done : Int32) (tapeMany : Int32) (textMany : Int32) (base : Int32) (at_ : Int32) (ends : Int32) (fault : Int32) (opened : Int32) (lineMany : Int32) (rowMany : Int32) (taller : Int32) (tallerBy : Int32) (pasts : Int32) (isKept : Int32) (imageMany : Int32) (bodies : Int32) (ran : Int32) (ownKind : Int32) (ownNumber : Int32) (many : Nat → Int32) (items : Nat → Int64) (v1 : Int32) {v0 : Option Value} {w0 : va_W} (F : zF X G cX12_falseAt RX12 3 (some .int) 1 25 v0 w0) (out : ((Unit) ⊕ (Int32))) (hk : out = .inl () → Z X G 3 (w_M_falseAt G a_this a_height a_changeAt a_changeWas a_changeIs a_tape a_text a_names a_line a_row a_pastMany a_past a_changed a_greatest a_numbersWere a_told a_waysOf a_waysWere a_blocks a_ordersOf a_imageLine a_bodyKind a_trace a_shelf a_many a_items a_carried people keptMany done tapeMany textMany base at_ ends fault opened lineMany rowMany taller tallerBy pasts isKept imageMany bodies ran ownKind ownNumber many items) [] 50 []) (hr : ∀ q : Int32, out = .inr q → v0 = some (.int q) ∧ w0 = (w_M_falseAt G a_this a_height a_changeAt a_changeWas a_changeIs a_tape a_text a_names a_line a_row a_pastMany a_past a_changed a_greatest a_numbersWere a_told a_waysOf a_waysWere a_blocks a_ordersOf a_imageLine a_bodyKind a_trace a_shelf a_many a_items a_carried people keptMany done tapeMany textMany base at_ ends fault opened lineMany rowMany taller tallerBy pasts isKept imageMany bodies ran ownKind ownNumber many items)) :
    ∀ (fuel : Nat) (v2 : Int32), f_M_falseAt_L2 lineMany many items v1 fuel v2 = some out → Z X G 3 (w_M_falseAt G a_this a_height a_changeAt a_changeWas a_changeIs a_tape a_text a_names a_line a_row a_pastMany a_past a_changed a_greatest a_numbersWere a_told a_waysOf a_waysWere a_blocks a_ordersOf a_imageLine a_bodyKind a_trace a_shelf a_many a_items a_carried people keptMany done tapeMany textMany base at_ ends fault opened lineMany rowMany taller tallerBy pasts isKept imageMany bodies ran ownKind ownNumber many items) [(0, .ref a_this), (1, .int v1), (2, .int v2)] 2 [] := by
  intro fuel
  induction fuel with
  | zero => intro v2 hf; exact absurd ((f_M_falseAt_L2.eq_1 ..).symm.trans hf) (fun h => by cases h)
  | succ fuel ih =>
    intro v2 hf
    replace hf := (f_M_falseAt_L2.eq_2 ..).symm.trans hf
    refine z_iload_n F 2 dX12_falseAt_2 rfl rfl ?_
    refine z_aload_n F 0 dX12_falseAt_3 rfl rfl ?_
    refine z_get F 0 12 18 inlX12 rfl rfl (by decide) fl_X12_100 rfl dX12_falseAt_4 ?_
    refine z_icmp_ge F 50 dX12_falseAt_7 (by decide) hf (fun hf _ => ?_) (fun hf _ => ?_)
    · exact z_sub [] rfl (hk  (Option.some.inj hf).symm)
    · refine z_iload_n F 2 dX12_falseAt_10 rfl rfl ?_
      refine z_aload_n F 0 dX12_falseAt_11 rfl rfl ?_
      refine z_get F 0 12 44 inlX12 rfl rfl (by decide) fl_X12_79 rfl dX12_falseAt_12 ?_
      refine z_iload_n F 1 dX12_falseAt_15 rfl rfl ?_
      refine z_iald F 1 rfl hf dX12_falseAt_16 (fun v_1 hf => ?_)
      refine z_icmp_ge F 50 dX12_falseAt_17 (by decide) hf (fun hf _ => ?_) (fun hf _ => ?_)
      · exact z_sub [] rfl (hk  (Option.some.inj hf).symm)
      · refine z_aload_n F 0 dX12_falseAt_20 rfl rfl ?_
        refine z_get F 0 12 45 inlX12 rfl rfl (by decide) fl_X12_82 rfl dX12_falseAt_21 ?_
        refine z_bipush F (60) dX12_falseAt_24 rfl ?_
        refine z_iload_n F 1 dX12_falseAt_26 rfl rfl ?_
        refine z_imul F dX12_falseAt_27 ?_
        refine z_iload_n F 2 dX12_falseAt_28 rfl rfl ?_
        refine z_iadd F dX12_falseAt_29 ?_
        refine z_lald F 2 rfl hf dX12_falseAt_30 (fun v_2 hf => ?_)
        refine z_ldc2 F (-1) (uw34 _ (List.mem_of_getElem? (i := 14) rfl)) dX12_falseAt_31 ?_
        refine z_iload_n F 2 dX12_falseAt_34 rfl rfl ?_
        refine z_i2l F dX12_falseAt_35 ?_
        refine z_callSm (rest := []) F (c_M_within (xL X) G v_2 (-1) (Int32.toInt64 v2) _ rfl) hy_X12_within ml_X12_96 hd_X12_within ⟨by omega, by omega⟩ rfl [] rfl rfl (w_M_falseAt G a_this a_height a_changeAt a_changeWas a_changeIs a_tape a_text a_names a_line a_row a_pastMany a_past a_changed a_greatest a_numbersWere a_told a_waysOf a_waysWere a_blocks a_ordersOf a_imageLine a_bodyKind a_trace a_shelf a_many a_items a_carried people keptMany done tapeMany textMany base at_ ends fault opened lineMany rowMany taller tallerBy pasts isKept imageMany bodies ran ownKind ownNumber many items) [none, none, none] rfl (by decide +kernel) rfl rfl (Nat.le_of_ble_eq_true rfl) dX12_falseAt_36 (fun hz_3 => ?_)
        refine z_if_ne F 44 dX12_falseAt_39 (by decide) hf (fun hf _ => ?_) (fun hf _ => ?_)
        · refine z_iinc F [(2, .int (v2 + 1)), (0, .ref a_this), (1, .int v1)] dX12_falseAt_44 2 rfl rfl (by decide) rfl ?_
          refine z_goto F 2 dX12_falseAt_47 (by decide) ?_
          exact z_sub [1, 2, 0] rfl (ih (v2 + 1) hf)
        · refine z_iload_n F 2 dX12_falseAt_42 rfl rfl ?_
          obtain ⟨e1, e2⟩ := hr _ (Option.some.inj hf).symm
          exact z_iret F rfl rfl e1.symm e2.symm dX12_falseAt_43

set_option maxRecDepth 100000 in
set_option maxHeartbeats 4000000 in
theorem c_M_falseAt (l : Launch) (G : zG) (a_this : Nat) (a_height : Nat) (a_changeAt : Nat) (a_changeWas : Nat) (a_changeIs : Nat) (a_tape : Nat) (a_text : Nat) (a_names : Nat) (a_line : Nat) (a_row : Nat) (a_pastMany : Nat) (a_past : Nat) (a_changed : Nat) (a_greatest : Nat) (a_numbersWere : Nat) (a_told : Nat) (a_waysOf : Nat) (a_waysWere : Nat) (a_blocks : Nat) (a_ordersOf : Nat) (a_imageLine : Nat) (a_bodyKind : Nat) (a_trace : Nat) (a_shelf : Nat) (a_many : Nat) (a_items : Nat) (a_carried : Nat) (people : Int32) (keptMany : Int32) (done : Int32) (tapeMany : Int32) (textMany : Int32) (base : Int32) (at_ : Int32) (ends : Int32) (fault : Int32) (opened : Int32) (lineMany : Int32) (rowMany : Int32) (taller : Int32) (tallerBy : Int32) (pasts : Int32) (isKept : Int32) (imageMany : Int32) (bodies : Int32) (ran : Int32) (ownKind : Int32) (ownNumber : Int32) (many : Nat → Int32) (items : Nat → Int64) (x1 : Int32) (r_ : Int32) (hf : f_M_falseAt lineMany many items x1 = some r_) : zM l yX12_falseAt cX12_falseAt 3 (some .int) 1 25 G [.ref a_this, .int x1] (w_M_falseAt G a_this a_height a_changeAt a_changeWas a_changeIs a_tape a_text a_names a_line a_row a_pastMany a_past a_changed a_greatest a_numbersWere a_told a_waysOf a_waysWere a_blocks a_ordersOf a_imageLine a_bodyKind a_trace a_shelf a_many a_items a_carried people keptMany done tapeMany textMany base at_ ends fault opened lineMany rowMany taller tallerBy pasts isKept imageMany bodies ran ownKind ownNumber many items) (some (.int r_)) (w_M_falseAt G a_this a_height a_changeAt a_changeWas a_changeIs a_tape a_text a_names a_line a_row a_pastMany a_past a_changed a_greatest a_numbersWere a_told a_waysOf a_waysWere a_blocks a_ordersOf a_imageLine a_bodyKind a_trace a_shelf a_many a_items a_carried people keptMany done tapeMany textMany base at_ ends fault opened lineMany rowMany taller tallerBy pasts isKept imageMany bodies ran ownKind ownNumber many items) := by
  refine zM.of [(0, .ref a_this), (1, .int x1)] (own := RX12) rfl (by decide +kernel) (Nat.le_of_ble_eq_true rfl) rfl rfl fun X hX F => ?_
  subst hX
  replace hf := (f_M_falseAt.eq_1 ..).symm.trans hf
  refine z_iconst F (0) dX12_falseAt_0 rfl ?_
  refine z_istore_n F [(2, .int 0), (0, .ref a_this), (1, .int x1)] dX12_falseAt_1 rfl (by decide) rfl ?_
  obtain ⟨z_4, hg, hf1_5, hf2_6⟩ := zbs0_some hf
  refine z_sub [1, 2, 0] rfl ?_
  refine l_M_falseAt_2 G a_this a_height a_changeAt a_changeWas a_changeIs a_tape a_text a_names a_line a_row a_pastMany a_past a_changed a_greatest a_numbersWere a_told a_waysOf a_waysWere a_blocks a_ordersOf a_imageLine a_bodyKind a_trace a_shelf a_many a_items a_carried people keptMany done tapeMany textMany base at_ ends fault opened lineMany rowMany taller tallerBy pasts isKept imageMany bodies ran ownKind ownNumber many items x1 F z_4 (fun e => ?_) (fun q e => ?_) FU 0 hg
  · have hf := hf1_5 e
    refine z_bipush F (-2) dX12_falseAt_50 rfl ?_
    have ee1 := Option.some.inj hf
    subst ee1
    exact z_iret F rfl rfl rfl rfl dX12_falseAt_52
  · have hf := hf2_6 _ e
    cases hf
    exact ⟨rfl, rfl⟩

abbrev w_M_book (G : zG) (a_this : Nat) (a_height : Nat) (a_changeAt : Nat) (a_changeWas : Nat) (a_changeIs : Nat) (a_tape : Nat) (a_text : Nat) (a_names : Nat) (a_line : Nat) (a_row : Nat) (a_pastMany : Nat) (a_past : Nat) (a_changed : Nat) (a_greatest : Nat) (a_numbersWere : Nat) (a_told : Nat) (a_waysOf : Nat) (a_waysWere : Nat) (a_blocks : Nat) (a_ordersOf : Nat) (a_imageLine : Nat) (a_bodyKind : Nat) (a_trace : Nat) (a_shelf : Nat) (a_many : Nat) (a_items : Nat) (a_carried : Nat) (people : Int32) (keptMany : Int32) (done : Int32) (tapeMany : Int32) (textMany : Int32) (base : Int32) (at_ : Int32) (ends : Int32) (fault : Int32) (opened : Int32) (lineMany : Int32) (rowMany : Int32) (taller : Int32) (tallerBy : Int32) (pasts : Int32) (isKept : Int32) (imageMany : Int32) (bodies : Int32) (ran : Int32) (ownKind : Int32) (ownNumber : Int32) (height : Nat → Int32) (tape : Nat → Int32) (text : Nat → Int32) (names : Nat → Int32) (line : Nat → Int32) (row : Nat → Int32) (shelf : Nat → Int32) (many : Nat → Int32) (items : Nat → Int64) : va_W := [(a_this, cO 12 [.int people, .ref a_height, .ref a_changeAt, .ref a_changeWas, .ref a_changeIs, .int keptMany, .int done, .ref a_tape, .int tapeMany, .ref a_text, .int textMany, .int base, .int at_, .int ends, .int fault, .int opened, .ref a_names, .ref a_line, .int lineMany, .ref a_row, .int rowMany, .int taller, .int tallerBy, .ref a_pastMany, .ref a_past, .int pasts, .ref a_changed, .ref a_greatest, .ref a_numbersWere, .ref a_told, .ref a_waysOf, .ref a_waysWere, .ref a_blocks, .ref a_ordersOf, .int isKept, .int imageMany, .ref a_imageLine, .int bodies, .ref a_bodyKind, .ref a_trace, .int ran, .int ownKind, .int ownNumber, .ref a_shelf, .ref a_many, .ref a_items, .ref a_carried]), (a_height, cI G 9 height), (a_tape, cI G 120 tape), (a_text, cI G 120 text), (a_names, cI G 5 names), (a_line, cI G 9 line), (a_row, cI G 9 row), (a_shelf, cI G 6 shelf), (a_many, cI G 6 many), (a_items, cJ G 360 items)]
def f_M_book_L42 (textMany : Int32) (lineMany : Int32) (rowMany : Int32) (taller : Int32) (tallerBy : Int32) (height : Nat → Int32) (tape : Nat → Int32) (text : Nat → Int32) (row : Nat → Int32) (many : Nat → Int32) (items : Nat → Int64) (v1 : Int32) : Nat → Int32 → Int32 → Int32 → Int32 → Int32 → (Nat → Int32) → Int32 → Option (((Int32 × Int32 × Int32 × Int32 × Int32 × (Nat → Int32)) ⊕ (Int32 × Int32 × Int32 × Int32 × Int32 × Int32 × Int32 × Int32 × (Nat → Int32) × (Nat → Int32))))
  | 0, _, _, _, _, _, _, _ => none
  | fuel + 1, base, at_, ends, fault, opened, names, v3 => (if lineMany ≤ v3 then (some (.inl (base, at_, ends, fault, opened, names))) else (zg many 6 v1 fun v_8 => (if v_8 ≤ v3 then (some (.inl (base, at_, ends, fault, opened, names))) else (zg items 360 (((60 : Int32) * v1) + v3) fun v_9 => (if (lg_cmp v_9 (-1)) = 0 then (f_M_book_L42 textMany lineMany rowMany taller tallerBy height tape text row many items v1 fuel base at_ ends fault opened names (v3 + 1)) else (zb7 (f_M_numberAt textMany base at_ ends fault opened taller tallerBy height tape text names row v3) fun r_10 base_11 at__12 ends_13 fault_14 opened_15 names_16 => (if (lg_cmp v_9 (Int32.toInt64 r_10)) = 0 then (f_M_book_L42 textMany lineMany rowMany taller tallerBy height tape text row many items v1 fuel base_11 at__12 ends_13 fault_14 opened_15 names_16 (v3 + 1)) else (some (.inr (v3, base_11, at__12, ends_13, fault_14, opened_15, rowMany, taller, names_16, row))))))))))
def f_M_book (textMany : Int32) (base : Int32) (at_ : Int32) (ends : Int32) (fault : Int32) (opened : Int32) (lineMany : Int32) (rowMany : Int32) (taller : Int32) (tallerBy : Int32) (height : Nat → Int32) (tape : Nat → Int32) (text : Nat → Int32) (names : Nat → Int32) (line : Nat → Int32) (row : Nat → Int32) (shelf : Nat → Int32) (many : Nat → Int32) (items : Nat → Int64) (x1 : Int32) (x2 : Int32) : Option (Int32 × Int32 × Int32 × Int32 × Int32 × Int32 × Int32 × Int32 × (Nat → Int32) × (Nat → Int32)) := (if (f_M_within (Int32.toInt64 x2) 0 1) = 0 then (some ((-1), base, at_, ends, fault, opened, rowMany, taller, names, row)) else (zb1 (f_M_bookIs shelf x1) fun r_2 => (if (0 : Int32) ≤ r_2 then (if x2 = 0 then (zb1 (f_M_falseAt lineMany many items x1) fun r_27 => (some (r_27, base, at_, ends, fault, opened, rowMany, taller, names, row))) else (zb3 (f_M_laysOut lineMany rowMany taller line row) fun rowMany_4 taller_5 row_6 => (zbs6 (f_M_book_L42 textMany lineMany rowMany_4 taller_5 tallerBy height tape text row_6 many items x1 FU base at_ ends fault opened names 0) (fun base_18 at__19 ends_20 fault_21 opened_22 names_23 => (some ((-2), base_18, at__19, ends_20, fault_21, opened_22, rowMany_4, taller_5, names_23, row_6))) some))) else (zb1 (f_M_bookIs shelf x1) fun r_29 => (some (r_29, base, at_, ends, fault, opened, rowMany, taller, names, row))))))
set_option maxRecDepth 100000 in
set_option maxHeartbeats 4000000 in
theorem l_M_book_42 {X : zX} (G : zG) (a_this : Nat) (a_height : Nat) (a_changeAt : Nat) (a_changeWas : Nat) (a_changeIs : Nat) (a_tape : Nat) (a_text : Nat) (a_names : Nat) (a_line : Nat) (a_row : Nat) (a_pastMany : Nat) (a_past : Nat) (a_changed : Nat) (a_greatest : Nat) (a_numbersWere : Nat) (a_told : Nat) (a_waysOf : Nat) (a_waysWere : Nat) (a_blocks : Nat) (a_ordersOf : Nat) (a_imageLine : Nat) (a_bodyKind : Nat) (a_trace : Nat) (a_shelf : Nat) (a_many : Nat) (a_items : Nat) (a_carried : Nat) (people : Int32) (keptMany : Int32) (done : Int32) (tapeMany : Int32) (textMany : Int32) (lineMany : Int32) (rowMany : Int32) (taller : Int32) (tallerBy : Int32) (pasts : Int32) (isKept : Int32) (imageMany : Int32) (bodies : Int32) (ran : Int32) (ownKind : Int32) (ownNumber : Int32) (height : Nat → Int32) (tape : Nat → Int32) (text : Nat → Int32) (line : Nat → Int32) (row : Nat → Int32) (shelf : Nat → Int32) (many : Nat → Int32) (items : Nat → Int64) (v1 : Int32) {v0 : Option Value} {w0 : va_W} (F : zF X G cX12_book RX12 6 (some .int) 152 3533 v0 w0) (out : ((Int32 × Int32 × Int32 × Int32 × Int32 × (Nat → Int32)) ⊕ (Int32 × Int32 × Int32 × Int32 × Int32 × Int32 × Int32 × Int32 × (Nat → Int32) × (Nat → Int32)))) (hk : ∀ (e_base : Int32) (e_at_ : Int32) (e_ends : Int32) (e_fault : Int32) (e_opened : Int32) (e_names : Nat → Int32), out = .inl (e_base, e_at_, e_ends, e_fault, e_opened, e_names) → Z X G 6 (w_M_book G a_this a_height a_changeAt a_changeWas a_changeIs a_tape a_text a_names a_line a_row a_pastMany a_past a_changed a_greatest a_numbersWere a_told a_waysOf a_waysWere a_blocks a_ordersOf a_imageLine a_bodyKind a_trace a_shelf a_many a_items a_carried people keptMany done tapeMany textMany e_base e_at_ e_ends e_fault e_opened lineMany rowMany taller tallerBy pasts isKept imageMany bodies ran ownKind ownNumber height tape text e_names line row shelf many items) [] 102 []) (hr : ∀ q : Int32 × Int32 × Int32 × Int32 × Int32 × Int32 × Int32 × Int32 × (Nat → Int32) × (Nat → Int32), out = .inr q → v0 = some (.int q.1) ∧ w0 = (w_M_book G a_this a_height a_changeAt a_changeWas a_changeIs a_tape a_text a_names a_line a_row a_pastMany a_past a_changed a_greatest a_numbersWere a_told a_waysOf a_waysWere a_blocks a_ordersOf a_imageLine a_bodyKind a_trace a_shelf a_many a_items a_carried people keptMany done tapeMany textMany (q.2.1) (q.2.2.1) (q.2.2.2.1) (q.2.2.2.2.1) (q.2.2.2.2.2.1) lineMany (q.2.2.2.2.2.2.1) (q.2.2.2.2.2.2.2.1) tallerBy pasts isKept imageMany bodies ran ownKind ownNumber height tape text (q.2.2.2.2.2.2.2.2.1) line (q.2.2.2.2.2.2.2.2.2) shelf many items)) :
    ∀ (fuel : Nat) (base : Int32) (at_ : Int32) (ends : Int32) (fault : Int32) (opened : Int32) (names : Nat → Int32) (v3 : Int32), f_M_book_L42 textMany lineMany rowMany taller tallerBy height tape text row many items v1 fuel base at_ ends fault opened names v3 = some out → Z X G 6 (w_M_book G a_this a_height a_changeAt a_changeWas a_changeIs a_tape a_text a_names a_line a_row a_pastMany a_past a_changed a_greatest a_numbersWere a_told a_waysOf a_waysWere a_blocks a_ordersOf a_imageLine a_bodyKind a_trace a_shelf a_many a_items a_carried people keptMany done tapeMany textMany base at_ ends fault opened lineMany rowMany taller tallerBy pasts isKept imageMany bodies ran ownKind ownNumber height tape text names line row shelf many items) [(0, .ref a_this), (1, .int v1), (3, .int v3)] 42 [] := by
  intro fuel
  induction fuel with
  | zero => intro base at_ ends fault opened names v3 hf; exact absurd ((f_M_book_L42.eq_1 ..).symm.trans hf) (fun h => by cases h)
  | succ fuel ih =>
    intro base at_ ends fault opened names v3 hf
    replace hf := (f_M_book_L42.eq_2 ..).symm.trans hf
    refine z_iload_n F 2 dX12_book_42 rfl rfl ?_
    refine z_aload_n F 0 dX12_book_43 rfl rfl ?_
    refine z_get F 0 12 18 inlX12 rfl rfl (by decide) fl_X12_100 rfl dX12_book_44 ?_
    refine z_icmp_ge F 102 dX12_book_47 (by decide) hf (fun hf _ => ?_) (fun hf _ => ?_)
    · exact z_sub [] rfl (hk _ _ _ _ _ _ (Option.some.inj hf).symm)
    · refine z_iload_n F 2 dX12_book_50 rfl rfl ?_
      refine z_aload_n F 0 dX12_book_51 rfl rfl ?_
      refine z_get F 0 12 44 inlX12 rfl rfl (by decide) fl_X12_79 rfl dX12_book_52 ?_
      refine z_iload_n F 1 dX12_book_55 rfl rfl ?_
      refine z_iald F 8 rfl hf dX12_book_56 (fun v_8 hf => ?_)
      refine z_icmp_ge F 102 dX12_book_57 (by decide) hf (fun hf _ => ?_) (fun hf _ => ?_)
      · exact z_sub [] rfl (hk _ _ _ _ _ _ (Option.some.inj hf).symm)
      · refine z_aload_n F 0 dX12_book_60 rfl rfl ?_
        refine z_get F 0 12 45 inlX12 rfl rfl (by decide) fl_X12_82 rfl dX12_book_61 ?_
        refine z_bipush F (60) dX12_book_64 rfl ?_
        refine z_iload_n F 1 dX12_book_66 rfl rfl ?_
        refine z_imul F dX12_book_67 ?_
        refine z_iload_n F 2 dX12_book_68 rfl rfl ?_
        refine z_iadd F dX12_book_69 ?_
        refine z_lald F 9 rfl hf dX12_book_70 (fun v_9 hf => ?_)
        refine z_lstore F [(4, .long v_9), (0, .ref a_this), (1, .int v1), (3, .int v3)] dX12_book_71 (by decide) rfl ?_
        refine z_lload F 0 dX12_book_73 rfl ?_
        refine z_ldc2 F (-1) (uw34 _ (List.mem_of_getElem? (i := 14) rfl)) dX12_book_75 ?_
        refine z_lcmp F dX12_book_78 ?_
        refine z_if_eq F 96 dX12_book_79 (by decide) hf (fun hf _ => ?_) (fun hf _ => ?_)
        · refine z_iinc F [(3, .int (v3 + 1)), (4, .long v_9), (0, .ref a_this), (1, .int v1)] dX12_book_96 3 rfl rfl (by decide) rfl ?_
          refine z_goto F 42 dX12_book_99 (by decide) ?_
          exact z_sub [2, 3, 0] rfl (ih base at_ ends fault opened names (v3 + 1) hf)
        · refine z_lload F 0 dX12_book_82 rfl ?_
          refine z_aload_n F 1 dX12_book_84 rfl rfl ?_
          refine z_iload_n F 3 dX12_book_85 rfl rfl ?_
          obtain ⟨r_10, base_11, at__12, ends_13, fault_14, opened_15, names_16, hg, hf⟩ := zb7_some hf
          refine z_callVm (rest := [.long v_9]) F 12 (c_M_numberAt (xL X) G a_this a_height a_changeAt a_changeWas a_changeIs a_tape a_text a_names a_line a_row a_pastMany a_past a_changed a_greatest a_numbersWere a_told a_waysOf a_waysWere a_blocks a_ordersOf a_imageLine a_bodyKind a_trace a_shelf a_many a_items a_carried people keptMany done tapeMany textMany base at_ ends fault opened lineMany rowMany taller tallerBy pasts isKept imageMany bodies ran ownKind ownNumber height tape text names row v3 r_10 base_11 at__12 ends_13 fault_14 opened_15 names_16 hg) hy_X12_numberAt ml_X12_200 hd_X12_numberAt ⟨by omega, by omega⟩ rfl [0, 1, 2, 3, 4, 6] rfl rfl 0 rfl rfl (w_M_book G a_this a_height a_changeAt a_changeWas a_changeIs a_tape a_text a_names a_line a_row a_pastMany a_past a_changed a_greatest a_numbersWere a_told a_waysOf a_waysWere a_blocks a_ordersOf a_imageLine a_bodyKind a_trace a_shelf a_many a_items a_carried people keptMany done tapeMany textMany base_11 at__12 ends_13 fault_14 opened_15 lineMany rowMany taller tallerBy pasts isKept imageMany bodies ran ownKind ownNumber height tape text names_16 line row shelf many items) [some 0, some 1, some 2, some 3, some 4, none, some 5, none, none, none] rfl (by decide +kernel) rfl rfl (Nat.le_of_ble_eq_true rfl) dX12_book_86 (fun hz_17 => ?_)
          refine z_i2l F dX12_book_89 ?_
          refine z_lcmp F dX12_book_90 ?_
          refine z_if_eq F 96 dX12_book_91 (by decide) hf (fun hf _ => ?_) (fun hf _ => ?_)
          · refine z_iinc F [(3, .int (v3 + 1)), (4, .long v_9), (0, .ref a_this), (1, .int v1)] dX12_book_96 3 rfl rfl (by decide) rfl ?_
            refine z_goto F 42 dX12_book_99 (by decide) ?_
            exact z_sub [2, 3, 0] rfl (ih base_11 at__12 ends_13 fault_14 opened_15 names_16 (v3 + 1) hf)
          · refine z_iload_n F 3 dX12_book_94 rfl rfl ?_
            obtain ⟨e1, e2⟩ := hr _ (Option.some.inj hf).symm
            exact z_iret F rfl rfl e1.symm e2.symm dX12_book_95

set_option maxRecDepth 100000 in
set_option maxHeartbeats 4000000 in
theorem c_M_book (l : Launch) (G : zG) (a_this : Nat) (a_height : Nat) (a_changeAt : Nat) (a_changeWas : Nat) (a_changeIs : Nat) (a_tape : Nat) (a_text : Nat) (a_names : Nat) (a_line : Nat) (a_row : Nat) (a_pastMany : Nat) (a_past : Nat) (a_changed : Nat) (a_greatest : Nat) (a_numbersWere : Nat) (a_told : Nat) (a_waysOf : Nat) (a_waysWere : Nat) (a_blocks : Nat) (a_ordersOf : Nat) (a_imageLine : Nat) (a_bodyKind : Nat) (a_trace : Nat) (a_shelf : Nat) (a_many : Nat) (a_items : Nat) (a_carried : Nat) (people : Int32) (keptMany : Int32) (done : Int32) (tapeMany : Int32) (textMany : Int32) (base : Int32) (at_ : Int32) (ends : Int32) (fault : Int32) (opened : Int32) (lineMany : Int32) (rowMany : Int32) (taller : Int32) (tallerBy : Int32) (pasts : Int32) (isKept : Int32) (imageMany : Int32) (bodies : Int32) (ran : Int32) (ownKind : Int32) (ownNumber : Int32) (height : Nat → Int32) (tape : Nat → Int32) (text : Nat → Int32) (names : Nat → Int32) (line : Nat → Int32) (row : Nat → Int32) (shelf : Nat → Int32) (many : Nat → Int32) (items : Nat → Int64) (x1 : Int32) (x2 : Int32) (r_ : Int32) (o_base : Int32) (o_at_ : Int32) (o_ends : Int32) (o_fault : Int32) (o_opened : Int32) (o_rowMany : Int32) (o_taller : Int32) (o_names : Nat → Int32) (o_row : Nat → Int32) (hf : f_M_book textMany base at_ ends fault opened lineMany rowMany taller tallerBy height tape text names line row shelf many items x1 x2 = some (r_, o_base, o_at_, o_ends, o_fault, o_opened, o_rowMany, o_taller, o_names, o_row)) : zM l yX12_book cX12_book 6 (some .int) 152 3533 G [.ref a_this, .int x1, .int x2] (w_M_book G a_this a_height a_changeAt a_changeWas a_changeIs a_tape a_text a_names a_line a_row a_pastMany a_past a_changed a_greatest a_numbersWere a_told a_waysOf a_waysWere a_blocks a_ordersOf a_imageLine a_bodyKind a_trace a_shelf a_many a_items a_carried people keptMany done tapeMany textMany base at_ ends fault opened lineMany rowMany taller tallerBy pasts isKept imageMany bodies ran ownKind ownNumber height tape text names line row shelf many items) (some (.int r_)) (w_M_book G a_this a_height a_changeAt a_changeWas a_changeIs a_tape a_text a_names a_line a_row a_pastMany a_past a_changed a_greatest a_numbersWere a_told a_waysOf a_waysWere a_blocks a_ordersOf a_imageLine a_bodyKind a_trace a_shelf a_many a_items a_carried people keptMany done tapeMany textMany o_base o_at_ o_ends o_fault o_opened lineMany o_rowMany o_taller tallerBy pasts isKept imageMany bodies ran ownKind ownNumber height tape text o_names line o_row shelf many items) := by
  refine zM.of [(0, .ref a_this), (1, .int x1), (2, .int x2)] (own := RX12) rfl (by decide +kernel) (Nat.le_of_ble_eq_true rfl) rfl rfl fun X hX F => ?_
  subst hX
  replace hf := (f_M_book.eq_1 ..).symm.trans hf
  refine z_iload_n F 2 dX12_book_0 rfl rfl ?_
  refine z_i2l F dX12_book_1 ?_
  refine z_lconst F (0) dX12_book_2 rfl ?_
  refine z_lconst F (1) dX12_book_3 rfl ?_
  refine z_callSm (rest := []) F (c_M_within (xL X) G (Int32.toInt64 x2) 0 1 _ rfl) hy_X12_within ml_X12_96 hd_X12_within ⟨by omega, by omega⟩ rfl [] rfl rfl (w_M_book G a_this a_height a_changeAt a_changeWas a_changeIs a_tape a_text a_names a_line a_row a_pastMany a_past a_changed a_greatest a_numbersWere a_told a_waysOf a_waysWere a_blocks a_ordersOf a_imageLine a_bodyKind a_trace a_shelf a_many a_items a_carried people keptMany done tapeMany textMany base at_ ends fault opened lineMany rowMany taller tallerBy pasts isKept imageMany bodies ran ownKind ownNumber height tape text names line row shelf many items) [none, none, none, none, none, none, none, none, none, none] rfl (by decide +kernel) rfl rfl (Nat.le_of_ble_eq_true rfl) dX12_book_4 (fun hz_1 => ?_)
  refine z_if_ne F 12 dX12_book_7 (by decide) hf (fun hf _ => ?_) (fun hf _ => ?_)
  · refine z_aload_n F 0 dX12_book_12 rfl rfl ?_
    refine z_iload_n F 1 dX12_book_13 rfl rfl ?_
    obtain ⟨r_2, hg, hf⟩ := zb1_some hf
    refine z_callVm (rest := []) F 12 (c_M_bookIs (xL X) G a_this a_height a_changeAt a_changeWas a_changeIs a_tape a_text a_names a_line a_row a_pastMany a_past a_changed a_greatest a_numbersWere a_told a_waysOf a_waysWere a_blocks a_ordersOf a_imageLine a_bodyKind a_trace a_shelf a_many a_items a_carried people keptMany done tapeMany textMany base at_ ends fault opened lineMany rowMany taller tallerBy pasts isKept imageMany bodies ran ownKind ownNumber shelf x1 r_2 hg) hy_X12_bookIs ml_X12_265 hd_X12_bookIs ⟨by omega, by omega⟩ rfl [0, 7] rfl rfl 0 rfl rfl (w_M_book G a_this a_height a_changeAt a_changeWas a_changeIs a_tape a_text a_names a_line a_row a_pastMany a_past a_changed a_greatest a_numbersWere a_told a_waysOf a_waysWere a_blocks a_ordersOf a_imageLine a_bodyKind a_trace a_shelf a_many a_items a_carried people keptMany done tapeMany textMany base at_ ends fault opened lineMany rowMany taller tallerBy pasts isKept imageMany bodies ran ownKind ownNumber height tape text names line row shelf many items) [some 0, none, none, none, none, none, none, some 1, none, none] rfl (by decide +kernel) rfl rfl (Nat.le_of_ble_eq_true rfl) dX12_book_14 (fun hz_3 => ?_)
    refine z_if_ge F 26 dX12_book_17 (by decide) hf (fun hf _ => ?_) (fun hf _ => ?_)
    · refine z_iload_n F 2 dX12_book_26 rfl rfl ?_
      refine z_if_ne F 36 dX12_book_27 (by decide) hf (fun hf _ => ?_) (fun hf _ => ?_)
      · refine z_aload_n F 0 dX12_book_36 rfl rfl ?_
        obtain ⟨rowMany_4, taller_5, row_6, hg, hf⟩ := zb3_some hf
        refine z_callVm (rest := []) F 12 (c_M_laysOut (xL X) G a_this a_height a_changeAt a_changeWas a_changeIs a_tape a_text a_names a_line a_row a_pastMany a_past a_changed a_greatest a_numbersWere a_told a_waysOf a_waysWere a_blocks a_ordersOf a_imageLine a_bodyKind a_trace a_shelf a_many a_items a_carried people keptMany done tapeMany textMany base at_ ends fault opened lineMany rowMany taller tallerBy pasts isKept imageMany bodies ran ownKind ownNumber line row rowMany_4 taller_5 row_6 hg) hy_X12_laysOut ml_X12_203 hd_X12_laysOut ⟨by omega, by omega⟩ rfl [0, 5, 6] rfl rfl 0 rfl rfl (w_M_book G a_this a_height a_changeAt a_changeWas a_changeIs a_tape a_text a_names a_line a_row a_pastMany a_past a_changed a_greatest a_numbersWere a_told a_waysOf a_waysWere a_blocks a_ordersOf a_imageLine a_bodyKind a_trace a_shelf a_many a_items a_carried people keptMany done tapeMany textMany base at_ ends fault opened lineMany rowMany_4 taller_5 tallerBy pasts isKept imageMany bodies ran ownKind ownNumber height tape text names line row_6 shelf many items) [some 0, none, none, none, none, some 1, some 2, none, none, none] rfl (by decide +kernel) rfl rfl (Nat.le_of_ble_eq_true rfl) dX12_book_37 (fun hz_7 => ?_)
        refine z_iconst F (0) dX12_book_40 rfl ?_
        refine z_istore_n F [(3, .int 0), (0, .ref a_this), (1, .int x1), (2, .int x2)] dX12_book_41 rfl (by decide) rfl ?_
        obtain ⟨z_24, hg, hf1_25, hf2_26⟩ := zbs6_some hf
        refine z_sub [1, 2, 0] rfl ?_
        refine l_M_book_42 G a_this a_height a_changeAt a_changeWas a_changeIs a_tape a_text a_names a_line a_row a_pastMany a_past a_changed a_greatest a_numbersWere a_told a_waysOf a_waysWere a_blocks a_ordersOf a_imageLine a_bodyKind a_trace a_shelf a_many a_items a_carried people keptMany done tapeMany textMany lineMany rowMany_4 taller_5 tallerBy pasts isKept imageMany bodies ran ownKind ownNumber height tape text line row_6 shelf many items x1 F z_24 (fun base_18 at__19 ends_20 fault_21 opened_22 names_23 e => ?_) (fun q e => ?_) FU base at_ ends fault opened names 0 hg
        · have hf := hf1_25 _ _ _ _ _ _ e
          refine z_bipush F (-2) dX12_book_102 rfl ?_
          have eq1 := Option.some.inj hf
          obtain ⟨ee1, eq2⟩ := Prod.mk.inj eq1
          obtain ⟨ee2, eq3⟩ := Prod.mk.inj eq2
          obtain ⟨ee3, eq4⟩ := Prod.mk.inj eq3
          obtain ⟨ee4, eq5⟩ := Prod.mk.inj eq4
          obtain ⟨ee5, eq6⟩ := Prod.mk.inj eq5
          obtain ⟨ee6, eq7⟩ := Prod.mk.inj eq6
          obtain ⟨ee7, eq8⟩ := Prod.mk.inj eq7
          obtain ⟨ee8, eq9⟩ := Prod.mk.inj eq8
          obtain ⟨ee9, ee10⟩ := Prod.mk.inj eq9
          subst ee1
          subst ee2
          subst ee3
          subst ee4
          subst ee5
          subst ee6
          subst ee7
          subst ee8
          subst ee9
          subst ee10
          exact z_iret F rfl rfl rfl rfl dX12_book_104
        · have hf := hf2_26 _ e
          cases hf
          exact ⟨rfl, rfl⟩
      · refine z_aload_n F 0 dX12_book_30 rfl rfl ?_
        refine z_iload_n F 1 dX12_book_31 rfl rfl ?_
        obtain ⟨r_27, hg, hf⟩ := zb1_some hf
        refine z_callVm (rest := []) F 12 (c_M_falseAt (xL X) G a_this a_height a_changeAt a_changeWas a_changeIs a_tape a_text a_names a_line a_row a_pastMany a_past a_changed a_greatest a_numbersWere a_told a_waysOf a_waysWere a_blocks a_ordersOf a_imageLine a_bodyKind a_trace a_shelf a_many a_items a_carried people keptMany done tapeMany textMany base at_ ends fault opened lineMany rowMany taller tallerBy pasts isKept imageMany bodies ran ownKind ownNumber many items x1 r_27 hg) hy_X12_falseAt ml_X12_268 hd_X12_falseAt ⟨by omega, by omega⟩ rfl [0, 8, 9] rfl rfl 0 rfl rfl (w_M_book G a_this a_height a_changeAt a_changeWas a_changeIs a_tape a_text a_names a_line a_row a_pastMany a_past a_changed a_greatest a_numbersWere a_told a_waysOf a_waysWere a_blocks a_ordersOf a_imageLine a_bodyKind a_trace a_shelf a_many a_items a_carried people keptMany done tapeMany textMany base at_ ends fault opened lineMany rowMany taller tallerBy pasts isKept imageMany bodies ran ownKind ownNumber height tape text names line row shelf many items) [some 0, none, none, none, none, none, none, none, some 1, some 2] rfl (by decide +kernel) rfl rfl (Nat.le_of_ble_eq_true rfl) dX12_book_32 (fun hz_28 => ?_)
        have eq1 := Option.some.inj hf
        obtain ⟨ee1, eq2⟩ := Prod.mk.inj eq1
        obtain ⟨ee2, eq3⟩ := Prod.mk.inj eq2
        obtain ⟨ee3, eq4⟩ := Prod.mk.inj eq3
        obtain ⟨ee4, eq5⟩ := Prod.mk.inj eq4
        obtain ⟨ee5, eq6⟩ := Prod.mk.inj eq5
        obtain ⟨ee6, eq7⟩ := Prod.mk.inj eq6
        obtain ⟨ee7, eq8⟩ := Prod.mk.inj eq7
        obtain ⟨ee8, eq9⟩ := Prod.mk.inj eq8
        obtain ⟨ee9, ee10⟩ := Prod.mk.inj eq9
        subst ee1
        subst ee2
        subst ee3
        subst ee4
        subst ee5
        subst ee6
        subst ee7
        subst ee8
        subst ee9
        subst ee10
        exact z_iret F rfl rfl rfl rfl dX12_book_35
    · refine z_aload_n F 0 dX12_book_20 rfl rfl ?_
      refine z_iload_n F 1 dX12_book_21 rfl rfl ?_
      obtain ⟨r_29, hg, hf⟩ := zb1_some hf
      refine z_callVm (rest := []) F 12 (c_M_bookIs (xL X) G a_this a_height a_changeAt a_changeWas a_changeIs a_tape a_text a_names a_line a_row a_pastMany a_past a_changed a_greatest a_numbersWere a_told a_waysOf a_waysWere a_blocks a_ordersOf a_imageLine a_bodyKind a_trace a_shelf a_many a_items a_carried people keptMany done tapeMany textMany base at_ ends fault opened lineMany rowMany taller tallerBy pasts isKept imageMany bodies ran ownKind ownNumber shelf x1 r_29 hg) hy_X12_bookIs ml_X12_265 hd_X12_bookIs ⟨by omega, by omega⟩ rfl [0, 7] rfl rfl 0 rfl rfl (w_M_book G a_this a_height a_changeAt a_changeWas a_changeIs a_tape a_text a_names a_line a_row a_pastMany a_past a_changed a_greatest a_numbersWere a_told a_waysOf a_waysWere a_blocks a_ordersOf a_imageLine a_bodyKind a_trace a_shelf a_many a_items a_carried people keptMany done tapeMany textMany base at_ ends fault opened lineMany rowMany taller tallerBy pasts isKept imageMany bodies ran ownKind ownNumber height tape text names line row shelf many items) [some 0, none, none, none, none, none, none, some 1, none, none] rfl (by decide +kernel) rfl rfl (Nat.le_of_ble_eq_true rfl) dX12_book_22 (fun hz_30 => ?_)
      have eq1 := Option.some.inj hf
      obtain ⟨ee1, eq2⟩ := Prod.mk.inj eq1
      obtain ⟨ee2, eq3⟩ := Prod.mk.inj eq2
      obtain ⟨ee3, eq4⟩ := Prod.mk.inj eq3
      obtain ⟨ee4, eq5⟩ := Prod.mk.inj eq4
      obtain ⟨ee5, eq6⟩ := Prod.mk.inj eq5
      obtain ⟨ee6, eq7⟩ := Prod.mk.inj eq6
      obtain ⟨ee7, eq8⟩ := Prod.mk.inj eq7
      obtain ⟨ee8, eq9⟩ := Prod.mk.inj eq8
      obtain ⟨ee9, ee10⟩ := Prod.mk.inj eq9
      subst ee1
      subst ee2
      subst ee3
      subst ee4
      subst ee5
      subst ee6
      subst ee7
      subst ee8
      subst ee9
      subst ee10
      exact z_iret F rfl rfl rfl rfl dX12_book_25
  · refine z_iconst F (-1) dX12_book_10 rfl ?_
    have eq1 := Option.some.inj hf
    obtain ⟨ee1, eq2⟩ := Prod.mk.inj eq1
    obtain ⟨ee2, eq3⟩ := Prod.mk.inj eq2
    obtain ⟨ee3, eq4⟩ := Prod.mk.inj eq3
    obtain ⟨ee4, eq5⟩ := Prod.mk.inj eq4
    obtain ⟨ee5, eq6⟩ := Prod.mk.inj eq5
    obtain ⟨ee6, eq7⟩ := Prod.mk.inj eq6
    obtain ⟨ee7, eq8⟩ := Prod.mk.inj eq7
    obtain ⟨ee8, eq9⟩ := Prod.mk.inj eq8
    obtain ⟨ee9, ee10⟩ := Prod.mk.inj eq9
    subst ee1
    subst ee2
    subst ee3
    subst ee4
    subst ee5
    subst ee6
    subst ee7
    subst ee8
    subst ee9
    subst ee10
    exact z_iret F rfl rfl rfl rfl dX12_book_11

abbrev w_M_tallerIn (G : zG) (a_this : Nat) (a_height : Nat) (a_changeAt : Nat) (a_changeWas : Nat) (a_changeIs : Nat) (a_tape : Nat) (a_text : Nat) (a_names : Nat) (a_line : Nat) (a_row : Nat) (a_pastMany : Nat) (a_past : Nat) (a_changed : Nat) (a_greatest : Nat) (a_numbersWere : Nat) (a_told : Nat) (a_waysOf : Nat) (a_waysWere : Nat) (a_blocks : Nat) (a_ordersOf : Nat) (a_imageLine : Nat) (a_bodyKind : Nat) (a_trace : Nat) (a_shelf : Nat) (a_many : Nat) (a_items : Nat) (a_carried : Nat) (people : Int32) (keptMany : Int32) (done : Int32) (tapeMany : Int32) (textMany : Int32) (base : Int32) (at_ : Int32) (ends : Int32) (fault : Int32) (opened : Int32) (lineMany : Int32) (rowMany : Int32) (taller : Int32) (tallerBy : Int32) (pasts : Int32) (isKept : Int32) (imageMany : Int32) (bodies : Int32) (ran : Int32) (ownKind : Int32) (ownNumber : Int32) (height : Nat → Int32) : va_W := [(a_this, cO 12 [.int people, .ref a_height, .ref a_changeAt, .ref a_changeWas, .ref a_changeIs, .int keptMany, .int done, .ref a_tape, .int tapeMany, .ref a_text, .int textMany, .int base, .int at_, .int ends, .int fault, .int opened, .ref a_names, .ref a_line, .int lineMany, .ref a_row, .int rowMany, .int taller, .int tallerBy, .ref a_pastMany, .ref a_past, .int pasts, .ref a_changed, .ref a_greatest, .ref a_numbersWere, .ref a_told, .ref a_waysOf, .ref a_waysWere, .ref a_blocks, .ref a_ordersOf, .int isKept, .int imageMany, .ref a_imageLine, .int bodies, .ref a_bodyKind, .ref a_trace, .int ran, .int ownKind, .int ownNumber, .ref a_shelf, .ref a_many, .ref a_items, .ref a_carried]), (a_height, cI G 9 height)]
def f_M_tallerIn_L5 (people : Int32) (height : Nat → Int32) (v1 : Int32) (v2 : Int32) : Nat → Int32 → Int32 → Option Int32
  | 0, _, _ => none
  | fuel + 1, v3, v4 => (if people ≤ v4 then (some v3) else (if (f_M_isIn v1 v4) = 0 then (f_M_tallerIn_L5 people height v1 v2 fuel (v3 + (0 : Int32)) (v4 + 1)) else (zg height 9 v4 fun v_2 => (zg height 9 v2 fun v_3 => (if v_2 ≤ v_3 then (f_M_tallerIn_L5 people height v1 v2 fuel (v3 + (0 : Int32)) (v4 + 1)) else (f_M_tallerIn_L5 people height v1 v2 fuel (v3 + (1 : Int32)) (v4 + 1)))))))
def f_M_tallerIn (people : Int32) (height : Nat → Int32) (x1 : Int32) (x2 : Int32) : Option Int32 := (zb1 (f_M_tallerIn_L5 people height x1 x2 FU 0 0) fun v3_4 => (some v3_4))
set_option maxRecDepth 100000 in
set_option maxHeartbeats 4000000 in
theorem l_M_tallerIn_5 {X : zX} (G : zG) (a_this : Nat) (a_height : Nat) (a_changeAt : Nat) (a_changeWas : Nat) (a_changeIs : Nat) (a_tape : Nat) (a_text : Nat) (a_names : Nat) (a_line : Nat) (a_row : Nat) (a_pastMany : Nat) (a_past : Nat) (a_changed : Nat) (a_greatest : Nat) (a_numbersWere : Nat) (a_told : Nat) (a_waysOf : Nat) (a_waysWere : Nat) (a_blocks : Nat) (a_ordersOf : Nat) (a_imageLine : Nat) (a_bodyKind : Nat) (a_trace : Nat) (a_shelf : Nat) (a_many : Nat) (a_items : Nat) (a_carried : Nat) (people : Int32) (keptMany : Int32) (done : Int32) (tapeMany : Int32) (textMany : Int32) (base : Int32) (at_ : Int32) (ends : Int32) (fault : Int32) (opened : Int32) (lineMany : Int32) (rowMany : Int32) (taller : Int32) (tallerBy : Int32) (pasts : Int32) (isKept : Int32) (imageMany : Int32) (bodies : Int32) (ran : Int32) (ownKind : Int32) (ownNumber : Int32) (height : Nat → Int32) (v1 : Int32) (v2 : Int32) {v0 : Option Value} {w0 : va_W} (F : zF X G cX12_tallerIn RX12 5 (some .int) 1 21 v0 w0) (e_v3 : Int32) (hk : Z X G 5 (w_M_tallerIn G a_this a_height a_changeAt a_changeWas a_changeIs a_tape a_text a_names a_line a_row a_pastMany a_past a_changed a_greatest a_numbersWere a_told a_waysOf a_waysWere a_blocks a_ordersOf a_imageLine a_bodyKind a_trace a_shelf a_many a_items a_carried people keptMany done tapeMany textMany base at_ ends fault opened lineMany rowMany taller tallerBy pasts isKept imageMany bodies ran ownKind ownNumber height) [(3, .int e_v3)] 53 []) :
    ∀ (fuel : Nat) (v3 : Int32) (v4 : Int32), f_M_tallerIn_L5 people height v1 v2 fuel v3 v4 = some e_v3 → Z X G 5 (w_M_tallerIn G a_this a_height a_changeAt a_changeWas a_changeIs a_tape a_text a_names a_line a_row a_pastMany a_past a_changed a_greatest a_numbersWere a_told a_waysOf a_waysWere a_blocks a_ordersOf a_imageLine a_bodyKind a_trace a_shelf a_many a_items a_carried people keptMany done tapeMany textMany base at_ ends fault opened lineMany rowMany taller tallerBy pasts isKept imageMany bodies ran ownKind ownNumber height) [(0, .ref a_this), (1, .int v1), (2, .int v2), (3, .int v3), (4, .int v4)] 5 [] := by
  intro fuel
  induction fuel with
  | zero => intro v3 v4 hf; exact absurd ((f_M_tallerIn_L5.eq_1 ..).symm.trans hf) (fun h => by cases h)
  | succ fuel ih =>
    intro v3 v4 hf
    replace hf := (f_M_tallerIn_L5.eq_2 ..).symm.trans hf
    refine z_iload F 4 dX12_tallerIn_5 rfl ?_
    refine z_aload_n F 0 dX12_tallerIn_7 rfl rfl ?_
    refine z_get F 0 12 0 inlX12 rfl rfl (by decide) fl_X12_93 rfl dX12_tallerIn_8 ?_
    refine z_icmp_ge F 53 dX12_tallerIn_11 (by decide) hf (fun hf _ => ?_) (fun hf _ => ?_)
    · have ee1 := Option.some.inj hf
      subst ee1
      exact z_sub [3] rfl hk
    · refine z_iload_n F 3 dX12_tallerIn_14 rfl rfl ?_
      refine z_iload_n F 1 dX12_tallerIn_15 rfl rfl ?_
      refine z_iload F 4 dX12_tallerIn_16 rfl ?_
      refine z_callSm (rest := [.int v3]) F (c_M_isIn (xL X) G v1 v4 _ rfl) hy_X12_isIn ml_X12_271 hd_X12_isIn ⟨by omega, by omega⟩ rfl [] rfl rfl (w_M_tallerIn G a_this a_height a_changeAt a_changeWas a_changeIs a_tape a_text a_names a_line a_row a_pastMany a_past a_changed a_greatest a_numbersWere a_told a_waysOf a_waysWere a_blocks a_ordersOf a_imageLine a_bodyKind a_trace a_shelf a_many a_items a_carried people keptMany done tapeMany textMany base at_ ends fault opened lineMany rowMany taller tallerBy pasts isKept imageMany bodies ran ownKind ownNumber height) [none, none] rfl (by decide +kernel) rfl rfl (Nat.le_of_ble_eq_true rfl) dX12_tallerIn_18 (fun hz_1 => ?_)
      refine z_if_eq F 44 dX12_tallerIn_21 (by decide) hf (fun hf _ => ?_) (fun hf _ => ?_)
      · refine z_iconst F (0) dX12_tallerIn_44 rfl ?_
        refine z_iadd F dX12_tallerIn_45 ?_
        refine z_istore_n F [(3, .int (v3 + (0 : Int32))), (0, .ref a_this), (1, .int v1), (2, .int v2), (4, .int v4)] dX12_tallerIn_46 rfl (by decide) rfl ?_
        refine z_iinc F [(4, .int (v4 + 1)), (3, .int (v3 + (0 : Int32))), (0, .ref a_this), (1, .int v1), (2, .int v2)] dX12_tallerIn_47 4 rfl rfl (by decide) rfl ?_
        refine z_goto F 5 dX12_tallerIn_50 (by decide) ?_
        exact z_sub [2, 3, 4, 1, 0] rfl (ih (v3 + (0 : Int32)) (v4 + 1) hf)
      · refine z_aload_n F 0 dX12_tallerIn_24 rfl rfl ?_
        refine z_get F 0 12 1 inlX12 rfl rfl (by decide) fl_X12_9 rfl dX12_tallerIn_25 ?_
        refine z_iload F 4 dX12_tallerIn_28 rfl ?_
        refine z_iald F 1 rfl hf dX12_tallerIn_30 (fun v_2 hf => ?_)
        refine z_aload_n F 0 dX12_tallerIn_31 rfl rfl ?_
        refine z_get F 0 12 1 inlX12 rfl rfl (by decide) fl_X12_9 rfl dX12_tallerIn_32 ?_
        refine z_iload_n F 2 dX12_tallerIn_35 rfl rfl ?_
        refine z_iald F 1 rfl hf dX12_tallerIn_36 (fun v_3 hf => ?_)
        refine z_icmp_le F 44 dX12_tallerIn_37 (by decide) hf (fun hf _ => ?_) (fun hf _ => ?_)
        · refine z_iconst F (0) dX12_tallerIn_44 rfl ?_
          refine z_iadd F dX12_tallerIn_45 ?_
          refine z_istore_n F [(3, .int (v3 + (0 : Int32))), (0, .ref a_this), (1, .int v1), (2, .int v2), (4, .int v4)] dX12_tallerIn_46 rfl (by decide) rfl ?_
          refine z_iinc F [(4, .int (v4 + 1)), (3, .int (v3 + (0 : Int32))), (0, .ref a_this), (1, .int v1), (2, .int v2)] dX12_tallerIn_47 4 rfl rfl (by decide) rfl ?_
          refine z_goto F 5 dX12_tallerIn_50 (by decide) ?_
          exact z_sub [2, 3, 4, 1, 0] rfl (ih (v3 + (0 : Int32)) (v4 + 1) hf)
        · refine z_iconst F (1) dX12_tallerIn_40 rfl ?_
          refine z_goto F 45 dX12_tallerIn_41 (by decide) ?_
          refine z_iadd F dX12_tallerIn_45 ?_
          refine z_istore_n F [(3, .int (v3 + (1 : Int32))), (0, .ref a_this), (1, .int v1), (2, .int v2), (4, .int v4)] dX12_tallerIn_46 rfl (by decide) rfl ?_
          refine z_iinc F [(4, .int (v4 + 1)), (3, .int (v3 + (1 : Int32))), (0, .ref a_this), (1, .int v1), (2, .int v2)] dX12_tallerIn_47 4 rfl rfl (by decide) rfl ?_
          refine z_goto F 5 dX12_tallerIn_50 (by decide) ?_
          exact z_sub [2, 3, 4, 1, 0] rfl (ih (v3 + (1 : Int32)) (v4 + 1) hf)

set_option maxRecDepth 100000 in
set_option maxHeartbeats 4000000 in
theorem c_M_tallerIn (l : Launch) (G : zG) (a_this : Nat) (a_height : Nat) (a_changeAt : Nat) (a_changeWas : Nat) (a_changeIs : Nat) (a_tape : Nat) (a_text : Nat) (a_names : Nat) (a_line : Nat) (a_row : Nat) (a_pastMany : Nat) (a_past : Nat) (a_changed : Nat) (a_greatest : Nat) (a_numbersWere : Nat) (a_told : Nat) (a_waysOf : Nat) (a_waysWere : Nat) (a_blocks : Nat) (a_ordersOf : Nat) (a_imageLine : Nat) (a_bodyKind : Nat) (a_trace : Nat) (a_shelf : Nat) (a_many : Nat) (a_items : Nat) (a_carried : Nat) (people : Int32) (keptMany : Int32) (done : Int32) (tapeMany : Int32) (textMany : Int32) (base : Int32) (at_ : Int32) (ends : Int32) (fault : Int32) (opened : Int32) (lineMany : Int32) (rowMany : Int32) (taller : Int32) (tallerBy : Int32) (pasts : Int32) (isKept : Int32) (imageMany : Int32) (bodies : Int32) (ran : Int32) (ownKind : Int32) (ownNumber : Int32) (height : Nat → Int32) (x1 : Int32) (x2 : Int32) (r_ : Int32) (hf : f_M_tallerIn people height x1 x2 = some r_) : zM l yX12_tallerIn cX12_tallerIn 5 (some .int) 1 21 G [.ref a_this, .int x1, .int x2] (w_M_tallerIn G a_this a_height a_changeAt a_changeWas a_changeIs a_tape a_text a_names a_line a_row a_pastMany a_past a_changed a_greatest a_numbersWere a_told a_waysOf a_waysWere a_blocks a_ordersOf a_imageLine a_bodyKind a_trace a_shelf a_many a_items a_carried people keptMany done tapeMany textMany base at_ ends fault opened lineMany rowMany taller tallerBy pasts isKept imageMany bodies ran ownKind ownNumber height) (some (.int r_)) (w_M_tallerIn G a_this a_height a_changeAt a_changeWas a_changeIs a_tape a_text a_names a_line a_row a_pastMany a_past a_changed a_greatest a_numbersWere a_told a_waysOf a_waysWere a_blocks a_ordersOf a_imageLine a_bodyKind a_trace a_shelf a_many a_items a_carried people keptMany done tapeMany textMany base at_ ends fault opened lineMany rowMany taller tallerBy pasts isKept imageMany bodies ran ownKind ownNumber height) := by
  refine zM.of [(0, .ref a_this), (1, .int x1), (2, .int x2)] (own := RX12) rfl (by decide +kernel) (Nat.le_of_ble_eq_true rfl) rfl rfl fun X hX F => ?_
  subst hX
  replace hf := (f_M_tallerIn.eq_1 ..).symm.trans hf
  refine z_iconst F (0) dX12_tallerIn_0 rfl ?_
  refine z_istore_n F [(3, .int 0), (0, .ref a_this), (1, .int x1), (2, .int x2)] dX12_tallerIn_1 rfl (by decide) rfl ?_
  refine z_iconst F (0) dX12_tallerIn_2 rfl ?_
  refine z_istore F [(4, .int 0), (3, .int 0), (0, .ref a_this), (1, .int x1), (2, .int x2)] dX12_tallerIn_3 (by decide) rfl ?_
  obtain ⟨v3_4, hg, hf⟩ := zb1_some hf
  refine z_sub [2, 3, 4, 1, 0] rfl ?_
  refine l_M_tallerIn_5 G a_this a_height a_changeAt a_changeWas a_changeIs a_tape a_text a_names a_line a_row a_pastMany a_past a_changed a_greatest a_numbersWere a_told a_waysOf a_waysWere a_blocks a_ordersOf a_imageLine a_bodyKind a_trace a_shelf a_many a_items a_carried people keptMany done tapeMany textMany base at_ ends fault opened lineMany rowMany taller tallerBy pasts isKept imageMany bodies ran ownKind ownNumber height x1 x2 F v3_4 ?_ FU 0 0 hg
  refine z_iload_n F 0 dX12_tallerIn_53 rfl rfl ?_
  have ee1 := Option.some.inj hf
  subst ee1
  exact z_iret F rfl rfl rfl rfl dX12_tallerIn_54

abbrev w_M_restores (G : zG) (a_this : Nat) (a_height : Nat) (a_changeAt : Nat) (a_changeWas : Nat) (a_changeIs : Nat) (a_tape : Nat) (a_text : Nat) (a_names : Nat) (a_line : Nat) (a_row : Nat) (a_pastMany : Nat) (a_past : Nat) (a_changed : Nat) (a_greatest : Nat) (a_numbersWere : Nat) (a_told : Nat) (a_waysOf : Nat) (a_waysWere : Nat) (a_blocks : Nat) (a_ordersOf : Nat) (a_imageLine : Nat) (a_bodyKind : Nat) (a_trace : Nat) (a_shelf : Nat) (a_many : Nat) (a_items : Nat) (a_carried : Nat) (people : Int32) (keptMany : Int32) (done : Int32) (tapeMany : Int32) (textMany : Int32) (base : Int32) (at_ : Int32) (ends : Int32) (fault : Int32) (opened : Int32) (lineMany : Int32) (rowMany : Int32) (taller : Int32) (tallerBy : Int32) (pasts : Int32) (isKept : Int32) (imageMany : Int32) (bodies : Int32) (ran : Int32) (ownKind : Int32) (ownNumber : Int32) (height : Nat → Int32) (line : Nat → Int32) (row : Nat → Int32) (told : Nat → Int32) : va_W := [(a_this, cO 12 [.int people, .ref a_height, .ref a_changeAt, .ref a_changeWas, .ref a_changeIs, .int keptMany, .int done, .ref a_tape, .int tapeMany, .ref a_text, .int textMany, .int base, .int at_, .int ends, .int fault, .int opened, .ref a_names, .ref a_line, .int lineMany, .ref a_row, .int rowMany, .int taller, .int tallerBy, .ref a_pastMany, .ref a_past, .int pasts, .ref a_changed, .ref a_greatest, .ref a_numbersWere, .ref a_told, .ref a_waysOf, .ref a_waysWere, .ref a_blocks, .ref a_ordersOf, .int isKept, .int imageMany, .ref a_imageLine, .int bodies, .ref a_bodyKind, .ref a_trace, .int ran, .int ownKind, .int ownNumber, .ref a_shelf, .ref a_many, .ref a_items, .ref a_carried]), (a_height, cI G 9 height), (a_line, cI G 9 line), (a_row, cI G 9 row), (a_told, cI G 9 told)]
def f_M_restores_L4 (lineMany : Int32) (line : Nat → Int32) : Nat → Int32 → Int32 → Option Int32
  | 0, _, _ => none
  | fuel + 1, v1, v2 => (if lineMany ≤ v2 then (some v1) else (zg line 9 v2 fun v_1 => (f_M_restores_L4 lineMany line fuel (v1 ||| ((1 : Int32) <<< (v_1 &&& 31))) (v2 + 1))))
def f_M_restores_L58 (people : Int32) (height : Nat → Int32) (told : Nat → Int32) (v1 : Int32) (v2 : Int32) : Nat → Int32 → Int32 → Option Int32
  | 0, _, _ => none
  | fuel + 1, v3, v4 => (if people ≤ v4 then (some v3) else (if (f_M_isIn v1 v4) = 0 then (f_M_restores_L58 people height told v1 v2 fuel v3 (v4 + 1)) else (zb1 (f_M_tallerIn people height v1 v4) fun r_4 => (zg told 9 v2 fun v_6 => (if r_4 = v_6 then (f_M_restores_L58 people height told v1 v2 fuel v4 (v4 + 1)) else (f_M_restores_L58 people height told v1 v2 fuel v3 (v4 + 1)))))))
def f_M_restores_L49 (people : Int32) (height : Nat → Int32) (told : Nat → Int32) : Nat → (Nat → Int32) → Int32 → Int32 → Option ((Nat → Int32))
  | 0, _, _, _ => none
  | fuel + 1, row, v1, v2 => (if v2 < 0 then (some row) else (zb1 (f_M_restores_L58 people height told v1 v2 FU (-1) 0) fun v3_7 => (zs row 9 v2 v3_7 fun row_8 => (f_M_restores_L49 people height told fuel row_8 (v1 &&& (((1 : Int32) <<< (v3_7 &&& 31)) ^^^ ((-1) : Int32))) (v2 + (-1))))))
def f_M_restores (people : Int32) (lineMany : Int32) (rowMany : Int32) (taller : Int32) (height : Nat → Int32) (line : Nat → Int32) (row : Nat → Int32) (told : Nat → Int32) : Option (Int32 × Int32 × (Nat → Int32)) := (zb1 (f_M_restores_L4 lineMany line FU 0 0) fun v1_2 => (zb1 (f_M_restores_L49 people height told FU row v1_2 (lineMany - (1 : Int32))) fun row_9 => (some (lineMany, ((-1) : Int32), row_9))))
set_option maxRecDepth 100000 in
set_option maxHeartbeats 4000000 in
theorem l_M_restores_4 {X : zX} (G : zG) (a_this : Nat) (a_height : Nat) (a_changeAt : Nat) (a_changeWas : Nat) (a_changeIs : Nat) (a_tape : Nat) (a_text : Nat) (a_names : Nat) (a_line : Nat) (a_row : Nat) (a_pastMany : Nat) (a_past : Nat) (a_changed : Nat) (a_greatest : Nat) (a_numbersWere : Nat) (a_told : Nat) (a_waysOf : Nat) (a_waysWere : Nat) (a_blocks : Nat) (a_ordersOf : Nat) (a_imageLine : Nat) (a_bodyKind : Nat) (a_trace : Nat) (a_shelf : Nat) (a_many : Nat) (a_items : Nat) (a_carried : Nat) (people : Int32) (keptMany : Int32) (done : Int32) (tapeMany : Int32) (textMany : Int32) (base : Int32) (at_ : Int32) (ends : Int32) (fault : Int32) (opened : Int32) (lineMany : Int32) (rowMany : Int32) (taller : Int32) (tallerBy : Int32) (pasts : Int32) (isKept : Int32) (imageMany : Int32) (bodies : Int32) (ran : Int32) (ownKind : Int32) (ownNumber : Int32) (height : Nat → Int32) (line : Nat → Int32) (row : Nat → Int32) (told : Nat → Int32) {v0 : Option Value} {w0 : va_W} (F : zF X G cX12_restores RX12 5 none 2 45 v0 w0) (e_v1 : Int32) (hk : Z X G 5 (w_M_restores G a_this a_height a_changeAt a_changeWas a_changeIs a_tape a_text a_names a_line a_row a_pastMany a_past a_changed a_greatest a_numbersWere a_told a_waysOf a_waysWere a_blocks a_ordersOf a_imageLine a_bodyKind a_trace a_shelf a_many a_items a_carried people keptMany done tapeMany textMany base at_ ends fault opened lineMany rowMany taller tallerBy pasts isKept imageMany bodies ran ownKind ownNumber height line row told) [(0, .ref a_this), (1, .int e_v1)] 29 []) :
    ∀ (fuel : Nat) (v1 : Int32) (v2 : Int32), f_M_restores_L4 lineMany line fuel v1 v2 = some e_v1 → Z X G 5 (w_M_restores G a_this a_height a_changeAt a_changeWas a_changeIs a_tape a_text a_names a_line a_row a_pastMany a_past a_changed a_greatest a_numbersWere a_told a_waysOf a_waysWere a_blocks a_ordersOf a_imageLine a_bodyKind a_trace a_shelf a_many a_items a_carried people keptMany done tapeMany textMany base at_ ends fault opened lineMany rowMany taller tallerBy pasts isKept imageMany bodies ran ownKind ownNumber height line row told) [(0, .ref a_this), (1, .int v1), (2, .int v2)] 4 [] := by
  intro fuel
  induction fuel with
  | zero => intro v1 v2 hf; exact absurd ((f_M_restores_L4.eq_1 ..).symm.trans hf) (fun h => by cases h)
  | succ fuel ih =>
    intro v1 v2 hf
    replace hf := (f_M_restores_L4.eq_2 ..).symm.trans hf
    refine z_iload_n F 2 dX12_restores_4 rfl rfl ?_
    refine z_aload_n F 0 dX12_restores_5 rfl rfl ?_
    refine z_get F 0 12 18 inlX12 rfl rfl (by decide) fl_X12_100 rfl dX12_restores_6 ?_
    refine z_icmp_ge F 29 dX12_restores_9 (by decide) hf (fun hf _ => ?_) (fun hf _ => ?_)
    · have ee1 := Option.some.inj hf
      subst ee1
      exact z_sub [0, 1] rfl hk
    · refine z_iload_n F 1 dX12_restores_12 rfl rfl ?_
      refine z_iconst F (1) dX12_restores_13 rfl ?_
      refine z_aload_n F 0 dX12_restores_14 rfl rfl ?_
      refine z_get F 0 12 17 inlX12 rfl rfl (by decide) fl_X12_31 rfl dX12_restores_15 ?_
      refine z_iload_n F 2 dX12_restores_18 rfl rfl ?_
      refine z_iald F 2 rfl hf dX12_restores_19 (fun v_1 hf => ?_)
      refine z_ishl F dX12_restores_20 ?_
      refine z_ior F dX12_restores_21 ?_
      refine z_istore_n F [(1, .int (v1 ||| ((1 : Int32) <<< (v_1 &&& 31)))), (0, .ref a_this), (2, .int v2)] dX12_restores_22 rfl (by decide) rfl ?_
      refine z_iinc F [(2, .int (v2 + 1)), (1, .int (v1 ||| ((1 : Int32) <<< (v_1 &&& 31)))), (0, .ref a_this)] dX12_restores_23 2 rfl rfl (by decide) rfl ?_
      refine z_goto F 4 dX12_restores_26 (by decide) ?_
      exact z_sub [2, 1, 0] rfl (ih (v1 ||| ((1 : Int32) <<< (v_1 &&& 31))) (v2 + 1) hf)

set_option maxRecDepth 100000 in
set_option maxHeartbeats 4000000 in
theorem l_M_restores_58 {X : zX} (G : zG) (a_this : Nat) (a_height : Nat) (a_changeAt : Nat) (a_changeWas : Nat) (a_changeIs : Nat) (a_tape : Nat) (a_text : Nat) (a_names : Nat) (a_line : Nat) (a_row : Nat) (a_pastMany : Nat) (a_past : Nat) (a_changed : Nat) (a_greatest : Nat) (a_numbersWere : Nat) (a_told : Nat) (a_waysOf : Nat) (a_waysWere : Nat) (a_blocks : Nat) (a_ordersOf : Nat) (a_imageLine : Nat) (a_bodyKind : Nat) (a_trace : Nat) (a_shelf : Nat) (a_many : Nat) (a_items : Nat) (a_carried : Nat) (people : Int32) (keptMany : Int32) (done : Int32) (tapeMany : Int32) (textMany : Int32) (base : Int32) (at_ : Int32) (ends : Int32) (fault : Int32) (opened : Int32) (lineMany : Int32) (rowMany : Int32) (taller : Int32) (tallerBy : Int32) (pasts : Int32) (isKept : Int32) (imageMany : Int32) (bodies : Int32) (ran : Int32) (ownKind : Int32) (ownNumber : Int32) (height : Nat → Int32) (line : Nat → Int32) (row : Nat → Int32) (told : Nat → Int32) (v1 : Int32) (v2 : Int32) {v0 : Option Value} {w0 : va_W} (F : zF X G cX12_restores RX12 5 none 2 45 v0 w0) (e_v3 : Int32) (hk : Z X G 5 (w_M_restores G a_this a_height a_changeAt a_changeWas a_changeIs a_tape a_text a_names a_line a_row a_pastMany a_past a_changed a_greatest a_numbersWere a_told a_waysOf a_waysWere a_blocks a_ordersOf a_imageLine a_bodyKind a_trace a_shelf a_many a_items a_carried people keptMany done tapeMany textMany base at_ ends fault opened lineMany rowMany taller tallerBy pasts isKept imageMany bodies ran ownKind ownNumber height line row told) [(0, .ref a_this), (1, .int v1), (2, .int v2), (3, .int e_v3)] 105 []) :
    ∀ (fuel : Nat) (v3 : Int32) (v4 : Int32), f_M_restores_L58 people height told v1 v2 fuel v3 v4 = some e_v3 → Z X G 5 (w_M_restores G a_this a_height a_changeAt a_changeWas a_changeIs a_tape a_text a_names a_line a_row a_pastMany a_past a_changed a_greatest a_numbersWere a_told a_waysOf a_waysWere a_blocks a_ordersOf a_imageLine a_bodyKind a_trace a_shelf a_many a_items a_carried people keptMany done tapeMany textMany base at_ ends fault opened lineMany rowMany taller tallerBy pasts isKept imageMany bodies ran ownKind ownNumber height line row told) [(0, .ref a_this), (1, .int v1), (2, .int v2), (3, .int v3), (4, .int v4)] 58 [] := by
  intro fuel
  induction fuel with
  | zero => intro v3 v4 hf; exact absurd ((f_M_restores_L58.eq_1 ..).symm.trans hf) (fun h => by cases h)
  | succ fuel ih =>
    intro v3 v4 hf
    replace hf := (f_M_restores_L58.eq_2 ..).symm.trans hf
    refine z_iload F 4 dX12_restores_58 rfl ?_
    refine z_aload_n F 0 dX12_restores_60 rfl rfl ?_
    refine z_get F 0 12 0 inlX12 rfl rfl (by decide) fl_X12_93 rfl dX12_restores_61 ?_
    refine z_icmp_ge F 105 dX12_restores_64 (by decide) hf (fun hf _ => ?_) (fun hf _ => ?_)
    · have ee1 := Option.some.inj hf
      subst ee1
      exact z_sub [0, 1, 2, 3] rfl hk
    · refine z_iload_n F 1 dX12_restores_67 rfl rfl ?_
      refine z_iload F 4 dX12_restores_68 rfl ?_
      refine z_callSm (rest := []) F (c_M_isIn (xL X) G v1 v4 _ rfl) hy_X12_isIn ml_X12_271 hd_X12_isIn ⟨by omega, by omega⟩ rfl [] rfl rfl (w_M_restores G a_this a_height a_changeAt a_changeWas a_changeIs a_tape a_text a_names a_line a_row a_pastMany a_past a_changed a_greatest a_numbersWere a_told a_waysOf a_waysWere a_blocks a_ordersOf a_imageLine a_bodyKind a_trace a_shelf a_many a_items a_carried people keptMany done tapeMany textMany base at_ ends fault opened lineMany rowMany taller tallerBy pasts isKept imageMany bodies ran ownKind ownNumber height line row told) [none, none, none, none, none] rfl (by decide +kernel) rfl rfl (Nat.le_of_ble_eq_true rfl) dX12_restores_70 (fun hz_3 => ?_)
      refine z_if_eq F 97 dX12_restores_73 (by decide) hf (fun hf _ => ?_) (fun hf _ => ?_)
      · refine z_iload_n F 3 dX12_restores_97 rfl rfl ?_
        refine z_istore_n F [(3, .int v3), (0, .ref a_this), (1, .int v1), (2, .int v2), (4, .int v4)] dX12_restores_98 rfl (by decide) rfl ?_
        refine z_iinc F [(4, .int (v4 + 1)), (3, .int v3), (0, .ref a_this), (1, .int v1), (2, .int v2)] dX12_restores_99 4 rfl rfl (by decide) rfl ?_
        refine z_goto F 58 dX12_restores_102 (by decide) ?_
        exact z_sub [2, 3, 4, 1, 0] rfl (ih v3 (v4 + 1) hf)
      · refine z_aload_n F 0 dX12_restores_76 rfl rfl ?_
        refine z_iload_n F 1 dX12_restores_77 rfl rfl ?_
        refine z_iload F 4 dX12_restores_78 rfl ?_
        obtain ⟨r_4, hg, hf⟩ := zb1_some hf
        refine z_callVm (rest := []) F 12 (c_M_tallerIn (xL X) G a_this a_height a_changeAt a_changeWas a_changeIs a_tape a_text a_names a_line a_row a_pastMany a_past a_changed a_greatest a_numbersWere a_told a_waysOf a_waysWere a_blocks a_ordersOf a_imageLine a_bodyKind a_trace a_shelf a_many a_items a_carried people keptMany done tapeMany textMany base at_ ends fault opened lineMany rowMany taller tallerBy pasts isKept imageMany bodies ran ownKind ownNumber height v1 v4 r_4 hg) hy_X12_tallerIn ml_X12_275 hd_X12_tallerIn ⟨by omega, by omega⟩ rfl [0, 1] rfl rfl 0 rfl rfl (w_M_restores G a_this a_height a_changeAt a_changeWas a_changeIs a_tape a_text a_names a_line a_row a_pastMany a_past a_changed a_greatest a_numbersWere a_told a_waysOf a_waysWere a_blocks a_ordersOf a_imageLine a_bodyKind a_trace a_shelf a_many a_items a_carried people keptMany done tapeMany textMany base at_ ends fault opened lineMany rowMany taller tallerBy pasts isKept imageMany bodies ran ownKind ownNumber height line row told) [some 0, some 1, none, none, none] rfl (by decide +kernel) rfl rfl (Nat.le_of_ble_eq_true rfl) dX12_restores_80 (fun hz_5 => ?_)
        refine z_aload_n F 0 dX12_restores_83 rfl rfl ?_
        refine z_get F 0 12 29 inlX12 rfl rfl (by decide) fl_X12_52 rfl dX12_restores_84 ?_
        refine z_iload_n F 2 dX12_restores_87 rfl rfl ?_
        refine z_iald F 4 rfl hf dX12_restores_88 (fun v_6 hf => ?_)
        refine z_icmp_ne F 97 dX12_restores_89 (by decide) hf (fun hf _ => ?_) (fun hf _ => ?_)
        · refine z_iload_n F 3 dX12_restores_97 rfl rfl ?_
          refine z_istore_n F [(3, .int v3), (0, .ref a_this), (1, .int v1), (2, .int v2), (4, .int v4)] dX12_restores_98 rfl (by decide) rfl ?_
          refine z_iinc F [(4, .int (v4 + 1)), (3, .int v3), (0, .ref a_this), (1, .int v1), (2, .int v2)] dX12_restores_99 4 rfl rfl (by decide) rfl ?_
          refine z_goto F 58 dX12_restores_102 (by decide) ?_
          exact z_sub [2, 3, 4, 1, 0] rfl (ih v3 (v4 + 1) hf)
        · refine z_iload F 4 dX12_restores_92 rfl ?_
          refine z_goto F 98 dX12_restores_94 (by decide) ?_
          refine z_istore_n F [(3, .int v4), (0, .ref a_this), (1, .int v1), (2, .int v2), (4, .int v4)] dX12_restores_98 rfl (by decide) rfl ?_
          refine z_iinc F [(4, .int (v4 + 1)), (3, .int v4), (0, .ref a_this), (1, .int v1), (2, .int v2)] dX12_restores_99 4 rfl rfl (by decide) rfl ?_
          refine z_goto F 58 dX12_restores_102 (by decide) ?_
          exact z_sub [2, 3, 4, 1, 0] rfl (ih v4 (v4 + 1) hf)

set_option maxRecDepth 100000 in
set_option maxHeartbeats 4000000 in
theorem l_M_restores_49 {X : zX} (G : zG) (a_this : Nat) (a_height : Nat) (a_changeAt : Nat) (a_changeWas : Nat) (a_changeIs : Nat) (a_tape : Nat) (a_text : Nat) (a_names : Nat) (a_line : Nat) (a_row : Nat) (a_pastMany : Nat) (a_past : Nat) (a_changed : Nat) (a_greatest : Nat) (a_numbersWere : Nat) (a_told : Nat) (a_waysOf : Nat) (a_waysWere : Nat) (a_blocks : Nat) (a_ordersOf : Nat) (a_imageLine : Nat) (a_bodyKind : Nat) (a_trace : Nat) (a_shelf : Nat) (a_many : Nat) (a_items : Nat) (a_carried : Nat) (people : Int32) (keptMany : Int32) (done : Int32) (tapeMany : Int32) (textMany : Int32) (base : Int32) (at_ : Int32) (ends : Int32) (fault : Int32) (opened : Int32) (lineMany : Int32) (rowMany : Int32) (taller : Int32) (tallerBy : Int32) (pasts : Int32) (isKept : Int32) (imageMany : Int32) (bodies : Int32) (ran : Int32) (ownKind : Int32) (ownNumber : Int32) (height : Nat → Int32) (line : Nat → Int32) (told : Nat → Int32) {v0 : Option Value} {w0 : va_W} (F : zF X G cX12_restores RX12 5 none 2 45 v0 w0) (e_row : Nat → Int32) (hk : Z X G 5 (w_M_restores G a_this a_height a_changeAt a_changeWas a_changeIs a_tape a_text a_names a_line a_row a_pastMany a_past a_changed a_greatest a_numbersWere a_told a_waysOf a_waysWere a_blocks a_ordersOf a_imageLine a_bodyKind a_trace a_shelf a_many a_items a_carried people keptMany done tapeMany textMany base at_ ends fault opened lineMany rowMany taller tallerBy pasts isKept imageMany bodies ran ownKind ownNumber height line e_row told) [] 126 []) :
    ∀ (fuel : Nat) (row : Nat → Int32) (v1 : Int32) (v2 : Int32), f_M_restores_L49 people height told fuel row v1 v2 = some e_row → Z X G 5 (w_M_restores G a_this a_height a_changeAt a_changeWas a_changeIs a_tape a_text a_names a_line a_row a_pastMany a_past a_changed a_greatest a_numbersWere a_told a_waysOf a_waysWere a_blocks a_ordersOf a_imageLine a_bodyKind a_trace a_shelf a_many a_items a_carried people keptMany done tapeMany textMany base at_ ends fault opened lineMany rowMany taller tallerBy pasts isKept imageMany bodies ran ownKind ownNumber height line row told) [(0, .ref a_this), (1, .int v1), (2, .int v2)] 49 [] := by
  intro fuel
  induction fuel with
  | zero => intro row v1 v2 hf; exact absurd ((f_M_restores_L49.eq_1 ..).symm.trans hf) (fun h => by cases h)
  | succ fuel ih =>
    intro row v1 v2 hf
    replace hf := (f_M_restores_L49.eq_2 ..).symm.trans hf
    refine z_iload_n F 2 dX12_restores_49 rfl rfl ?_
    refine z_if_lt F 126 dX12_restores_50 (by decide) hf (fun hf _ => ?_) (fun hf _ => ?_)
    · have ee1 := Option.some.inj hf
      subst ee1
      exact z_sub [] rfl hk
    · refine z_iconst F (-1) dX12_restores_53 rfl ?_
      refine z_istore_n F [(3, .int (-1)), (0, .ref a_this), (1, .int v1), (2, .int v2)] dX12_restores_54 rfl (by decide) rfl ?_
      refine z_iconst F (0) dX12_restores_55 rfl ?_
      refine z_istore F [(4, .int 0), (3, .int (-1)), (0, .ref a_this), (1, .int v1), (2, .int v2)] dX12_restores_56 (by decide) rfl ?_
      obtain ⟨v3_7, hg, hf⟩ := zb1_some hf
      refine z_sub [2, 3, 4, 1, 0] rfl ?_
      refine l_M_restores_58 G a_this a_height a_changeAt a_changeWas a_changeIs a_tape a_text a_names a_line a_row a_pastMany a_past a_changed a_greatest a_numbersWere a_told a_waysOf a_waysWere a_blocks a_ordersOf a_imageLine a_bodyKind a_trace a_shelf a_many a_items a_carried people keptMany done tapeMany textMany base at_ ends fault opened lineMany rowMany taller tallerBy pasts isKept imageMany bodies ran ownKind ownNumber height line row told v1 v2 F v3_7 ?_ FU (-1) 0 hg
      refine z_aload_n F 0 dX12_restores_105 rfl rfl ?_
      refine z_get F 0 12 19 inlX12 rfl rfl (by decide) fl_X12_34 rfl dX12_restores_106 ?_
      refine z_iload_n F 2 dX12_restores_109 rfl rfl ?_
      refine z_iload_n F 3 dX12_restores_110 rfl rfl ?_
      refine z_iast F 3 (fun row_8 => (w_M_restores G a_this a_height a_changeAt a_changeWas a_changeIs a_tape a_text a_names a_line a_row a_pastMany a_past a_changed a_greatest a_numbersWere a_told a_waysOf a_waysWere a_blocks a_ordersOf a_imageLine a_bodyKind a_trace a_shelf a_many a_items a_carried people keptMany done tapeMany textMany base at_ ends fault opened lineMany rowMany taller tallerBy pasts isKept imageMany bodies ran ownKind ownNumber height line row_8 told)) rfl hf (fun _ => rfl) dX12_restores_111 (fun row_8 hf => ?_)
      refine z_iload_n F 1 dX12_restores_112 rfl rfl ?_
      refine z_iconst F (1) dX12_restores_113 rfl ?_
      refine z_iload_n F 3 dX12_restores_114 rfl rfl ?_
      refine z_ishl F dX12_restores_115 ?_
      refine z_iconst F (-1) dX12_restores_116 rfl ?_
      refine z_ixor F dX12_restores_117 ?_
      refine z_iand F dX12_restores_118 ?_
      refine z_istore_n F [(1, .int (v1 &&& (((1 : Int32) <<< (v3_7 &&& 31)) ^^^ ((-1) : Int32)))), (0, .ref a_this), (2, .int v2), (3, .int v3_7)] dX12_restores_119 rfl (by decide) rfl ?_
      refine z_iinc F [(2, .int (v2 + (-1))), (1, .int (v1 &&& (((1 : Int32) <<< (v3_7 &&& 31)) ^^^ ((-1) : Int32)))), (0, .ref a_this), (3, .int v3_7)] dX12_restores_120 2 rfl rfl (by decide) rfl ?_
      refine z_goto F 49 dX12_restores_123 (by decide) ?_
      exact z_sub [2, 1, 0] rfl (ih row_8 (v1 &&& (((1 : Int32) <<< (v3_7 &&& 31)) ^^^ ((-1) : Int32))) (v2 + (-1)) hf)

set_option maxRecDepth 100000 in
set_option maxHeartbeats 4000000 in
theorem c_M_restores (l : Launch) (G : zG) (a_this : Nat) (a_height : Nat) (a_changeAt : Nat) (a_changeWas : Nat) (a_changeIs : Nat) (a_tape : Nat) (a_text : Nat) (a_names : Nat) (a_line : Nat) (a_row : Nat) (a_pastMany : Nat) (a_past : Nat) (a_changed : Nat) (a_greatest : Nat) (a_numbersWere : Nat) (a_told : Nat) (a_waysOf : Nat) (a_waysWere : Nat) (a_blocks : Nat) (a_ordersOf : Nat) (a_imageLine : Nat) (a_bodyKind : Nat) (a_trace : Nat) (a_shelf : Nat) (a_many : Nat) (a_items : Nat) (a_carried : Nat) (people : Int32) (keptMany : Int32) (done : Int32) (tapeMany : Int32) (textMany : Int32) (base : Int32) (at_ : Int32) (ends : Int32) (fault : Int32) (opened : Int32) (lineMany : Int32) (rowMany : Int32) (taller : Int32) (tallerBy : Int32) (pasts : Int32) (isKept : Int32) (imageMany : Int32) (bodies : Int32) (ran : Int32) (ownKind : Int32) (ownNumber : Int32) (height : Nat → Int32) (line : Nat → Int32) (row : Nat → Int32) (told : Nat → Int32) (o_rowMany : Int32) (o_taller : Int32) (o_row : Nat → Int32) (hf : f_M_restores people lineMany rowMany taller height line row told = some (o_rowMany, o_taller, o_row)) : zM l yX12_restores cX12_restores 5 none 2 45 G [.ref a_this] (w_M_restores G a_this a_height a_changeAt a_changeWas a_changeIs a_tape a_text a_names a_line a_row a_pastMany a_past a_changed a_greatest a_numbersWere a_told a_waysOf a_waysWere a_blocks a_ordersOf a_imageLine a_bodyKind a_trace a_shelf a_many a_items a_carried people keptMany done tapeMany textMany base at_ ends fault opened lineMany rowMany taller tallerBy pasts isKept imageMany bodies ran ownKind ownNumber height line row told) (none) (w_M_restores G a_this a_height a_changeAt a_changeWas a_changeIs a_tape a_text a_names a_line a_row a_pastMany a_past a_changed a_greatest a_numbersWere a_told a_waysOf a_waysWere a_blocks a_ordersOf a_imageLine a_bodyKind a_trace a_shelf a_many a_items a_carried people keptMany done tapeMany textMany base at_ ends fault opened lineMany o_rowMany o_taller tallerBy pasts isKept imageMany bodies ran ownKind ownNumber height line o_row told) := by
  refine zM.of [(0, .ref a_this)] (own := RX12) rfl (by decide +kernel) (Nat.le_of_ble_eq_true rfl) rfl rfl fun X hX F => ?_
  subst hX
  replace hf := (f_M_restores.eq_1 ..).symm.trans hf
  refine z_iconst F (0) dX12_restores_0 rfl ?_
  refine z_istore_n F [(1, .int 0), (0, .ref a_this)] dX12_restores_1 rfl (by decide) rfl ?_
  refine z_iconst F (0) dX12_restores_2 rfl ?_
  refine z_istore_n F [(2, .int 0), (1, .int 0), (0, .ref a_this)] dX12_restores_3 rfl (by decide) rfl ?_
  obtain ⟨v1_2, hg, hf⟩ := zb1_some hf
  refine z_sub [2, 1, 0] rfl ?_
  refine l_M_restores_4 G a_this a_height a_changeAt a_changeWas a_changeIs a_tape a_text a_names a_line a_row a_pastMany a_past a_changed a_greatest a_numbersWere a_told a_waysOf a_waysWere a_blocks a_ordersOf a_imageLine a_bodyKind a_trace a_shelf a_many a_items a_carried people keptMany done tapeMany textMany base at_ ends fault opened lineMany rowMany taller tallerBy pasts isKept imageMany bodies ran ownKind ownNumber height line row told F v1_2 ?_ FU 0 0 hg
  refine z_aload_n F 0 dX12_restores_29 rfl rfl ?_
  refine z_aload_n F 0 dX12_restores_30 rfl rfl ?_
  refine z_get F 0 12 18 inlX12 rfl rfl (by decide) fl_X12_100 rfl dX12_restores_31 ?_
  refine z_put F 0 12 20 (w_M_restores G a_this a_height a_changeAt a_changeWas a_changeIs a_tape a_text a_names a_line a_row a_pastMany a_past a_changed a_greatest a_numbersWere a_told a_waysOf a_waysWere a_blocks a_ordersOf a_imageLine a_bodyKind a_trace a_shelf a_many a_items a_carried people keptMany done tapeMany textMany base at_ ends fault opened lineMany lineMany taller tallerBy pasts isKept imageMany bodies ran ownKind ownNumber height line row told) inlX12 tyX12 tyX12_ok nmX12 rfl rfl (by decide) fl_X12_184 rfl rfl rfl (Nat.le_of_ble_eq_true rfl) rfl dX12_restores_34 ?_
  refine z_aload_n F 0 dX12_restores_37 rfl rfl ?_
  refine z_iconst F (-1) dX12_restores_38 rfl ?_
  refine z_put F 0 12 21 (w_M_restores G a_this a_height a_changeAt a_changeWas a_changeIs a_tape a_text a_names a_line a_row a_pastMany a_past a_changed a_greatest a_numbersWere a_told a_waysOf a_waysWere a_blocks a_ordersOf a_imageLine a_bodyKind a_trace a_shelf a_many a_items a_carried people keptMany done tapeMany textMany base at_ ends fault opened lineMany lineMany ((-1) : Int32) tallerBy pasts isKept imageMany bodies ran ownKind ownNumber height line row told) inlX12 tyX12 tyX12_ok nmX12 rfl rfl (by decide) fl_X12_187 rfl rfl rfl (Nat.le_of_ble_eq_true rfl) rfl dX12_restores_39 ?_
  refine z_aload_n F 0 dX12_restores_42 rfl rfl ?_
  refine z_get F 0 12 18 inlX12 rfl rfl (by decide) fl_X12_100 rfl dX12_restores_43 ?_
  refine z_iconst F (1) dX12_restores_46 rfl ?_
  refine z_isub F dX12_restores_47 ?_
  refine z_istore_n F [(2, .int (lineMany - (1 : Int32))), (0, .ref a_this), (1, .int v1_2)] dX12_restores_48 rfl (by decide) rfl ?_
  obtain ⟨row_9, hg, hf⟩ := zb1_some hf
  refine z_sub [1, 2, 0] rfl ?_
  refine l_M_restores_49 G a_this a_height a_changeAt a_changeWas a_changeIs a_tape a_text a_names a_line a_row a_pastMany a_past a_changed a_greatest a_numbersWere a_told a_waysOf a_waysWere a_blocks a_ordersOf a_imageLine a_bodyKind a_trace a_shelf a_many a_items a_carried people keptMany done tapeMany textMany base at_ ends fault opened lineMany lineMany ((-1) : Int32) tallerBy pasts isKept imageMany bodies ran ownKind ownNumber height line told F row_9 ?_ FU row v1_2 (lineMany - (1 : Int32)) hg
  have eq1 := Option.some.inj hf
  obtain ⟨ee1, eq2⟩ := Prod.mk.inj eq1
  obtain ⟨ee2, ee3⟩ := Prod.mk.inj eq2
  subst ee1
  subst ee2
  subst ee3
  exact z_vret F rfl rfl rfl dX12_restores_126

abbrev w_M_smearedIn (G : zG) (a_this : Nat) (a_height : Nat) (a_changeAt : Nat) (a_changeWas : Nat) (a_changeIs : Nat) (a_tape : Nat) (a_text : Nat) (a_names : Nat) (a_line : Nat) (a_row : Nat) (a_pastMany : Nat) (a_past : Nat) (a_changed : Nat) (a_greatest : Nat) (a_numbersWere : Nat) (a_told : Nat) (a_waysOf : Nat) (a_waysWere : Nat) (a_blocks : Nat) (a_ordersOf : Nat) (a_imageLine : Nat) (a_bodyKind : Nat) (a_trace : Nat) (a_shelf : Nat) (a_many : Nat) (a_items : Nat) (a_carried : Nat) (people : Int32) (keptMany : Int32) (done : Int32) (tapeMany : Int32) (textMany : Int32) (base : Int32) (at_ : Int32) (ends : Int32) (fault : Int32) (opened : Int32) (lineMany : Int32) (rowMany : Int32) (taller : Int32) (tallerBy : Int32) (pasts : Int32) (isKept : Int32) (imageMany : Int32) (bodies : Int32) (ran : Int32) (ownKind : Int32) (ownNumber : Int32) (told : Nat → Int32) (items : Nat → Int64) : va_W := [(a_this, cO 12 [.int people, .ref a_height, .ref a_changeAt, .ref a_changeWas, .ref a_changeIs, .int keptMany, .int done, .ref a_tape, .int tapeMany, .ref a_text, .int textMany, .int base, .int at_, .int ends, .int fault, .int opened, .ref a_names, .ref a_line, .int lineMany, .ref a_row, .int rowMany, .int taller, .int tallerBy, .ref a_pastMany, .ref a_past, .int pasts, .ref a_changed, .ref a_greatest, .ref a_numbersWere, .ref a_told, .ref a_waysOf, .ref a_waysWere, .ref a_blocks, .ref a_ordersOf, .int isKept, .int imageMany, .ref a_imageLine, .int bodies, .ref a_bodyKind, .ref a_trace, .int ran, .int ownKind, .int ownNumber, .ref a_shelf, .ref a_many, .ref a_items, .ref a_carried]), (a_told, cI G 9 told), (a_items, cJ G 360 items)]
def f_M_smearedIn_L4 (lineMany : Int32) (items : Nat → Int64) (v1 : Int32) : Nat → (Nat → Int32) → Int32 → Int32 → Option ((Nat → Int32) × Int32)
  | 0, _, _, _ => none
  | fuel + 1, told, v2, v3 => (if lineMany ≤ v3 then (some (told, v2)) else (zg items 360 (((60 : Int32) * v1) + v3) fun v_1 => (zs told 9 v3 (Int64.toInt32 v_1) fun told_2 => (zg told_2 9 v3 fun v_3 => (if (0 : Int32) ≤ v_3 then (f_M_smearedIn_L4 lineMany items v1 fuel told_2 (v2 + (0 : Int32)) (v3 + 1)) else (f_M_smearedIn_L4 lineMany items v1 fuel told_2 (v2 + (1 : Int32)) (v3 + 1)))))))
def f_M_smearedIn (lineMany : Int32) (told : Nat → Int32) (items : Nat → Int64) (x1 : Int32) : Option (Int32 × (Nat → Int32)) := (zb2 (f_M_smearedIn_L4 lineMany items x1 FU told 0 0) fun told_4 v2_5 => (some (v2_5, told_4)))
set_option maxRecDepth 100000 in
set_option maxHeartbeats 4000000 in
theorem l_M_smearedIn_4 {X : zX} (G : zG) (a_this : Nat) (a_height : Nat) (a_changeAt : Nat) (a_changeWas : Nat) (a_changeIs : Nat) (a_tape : Nat) (a_text : Nat) (a_names : Nat) (a_line : Nat) (a_row : Nat) (a_pastMany : Nat) (a_past : Nat) (a_changed : Nat) (a_greatest : Nat) (a_numbersWere : Nat) (a_told : Nat) (a_waysOf : Nat) (a_waysWere : Nat) (a_blocks : Nat) (a_ordersOf : Nat) (a_imageLine : Nat) (a_bodyKind : Nat) (a_trace : Nat) (a_shelf : Nat) (a_many : Nat) (a_items : Nat) (a_carried : Nat) (people : Int32) (keptMany : Int32) (done : Int32) (tapeMany : Int32) (textMany : Int32) (base : Int32) (at_ : Int32) (ends : Int32) (fault : Int32) (opened : Int32) (lineMany : Int32) (rowMany : Int32) (taller : Int32) (tallerBy : Int32) (pasts : Int32) (isKept : Int32) (imageMany : Int32) (bodies : Int32) (ran : Int32) (ownKind : Int32) (ownNumber : Int32) (items : Nat → Int64) (v1 : Int32) {v0 : Option Value} {w0 : va_W} (F : zF X G cX12_smearedIn RX12 4 (some .int) 0 0 v0 w0) (e_told : Nat → Int32) (e_v2 : Int32) (hk : Z X G 4 (w_M_smearedIn G a_this a_height a_changeAt a_changeWas a_changeIs a_tape a_text a_names a_line a_row a_pastMany a_past a_changed a_greatest a_numbersWere a_told a_waysOf a_waysWere a_blocks a_ordersOf a_imageLine a_bodyKind a_trace a_shelf a_many a_items a_carried people keptMany done tapeMany textMany base at_ ends fault opened lineMany rowMany taller tallerBy pasts isKept imageMany bodies ran ownKind ownNumber e_told items) [(2, .int e_v2)] 53 []) :
    ∀ (fuel : Nat) (told : Nat → Int32) (v2 : Int32) (v3 : Int32), f_M_smearedIn_L4 lineMany items v1 fuel told v2 v3 = some (e_told, e_v2) → Z X G 4 (w_M_smearedIn G a_this a_height a_changeAt a_changeWas a_changeIs a_tape a_text a_names a_line a_row a_pastMany a_past a_changed a_greatest a_numbersWere a_told a_waysOf a_waysWere a_blocks a_ordersOf a_imageLine a_bodyKind a_trace a_shelf a_many a_items a_carried people keptMany done tapeMany textMany base at_ ends fault opened lineMany rowMany taller tallerBy pasts isKept imageMany bodies ran ownKind ownNumber told items) [(0, .ref a_this), (1, .int v1), (2, .int v2), (3, .int v3)] 4 [] := by
  intro fuel
  induction fuel with
  | zero => intro told v2 v3 hf; exact absurd ((f_M_smearedIn_L4.eq_1 ..).symm.trans hf) (fun h => by cases h)
  | succ fuel ih =>
    intro told v2 v3 hf
    replace hf := (f_M_smearedIn_L4.eq_2 ..).symm.trans hf
    refine z_iload_n F 3 dX12_smearedIn_4 rfl rfl ?_
    refine z_aload_n F 0 dX12_smearedIn_5 rfl rfl ?_
    refine z_get F 0 12 18 inlX12 rfl rfl (by decide) fl_X12_100 rfl dX12_smearedIn_6 ?_
    refine z_icmp_ge F 53 dX12_smearedIn_9 (by decide) hf (fun hf _ => ?_) (fun hf _ => ?_)
    · have eq1 := Option.some.inj hf
      obtain ⟨ee1, ee2⟩ := Prod.mk.inj eq1
      subst ee1
      subst ee2
      exact z_sub [2] rfl hk
    · refine z_aload_n F 0 dX12_smearedIn_12 rfl rfl ?_
      refine z_get F 0 12 29 inlX12 rfl rfl (by decide) fl_X12_52 rfl dX12_smearedIn_13 ?_
      refine z_iload_n F 3 dX12_smearedIn_16 rfl rfl ?_
      refine z_aload_n F 0 dX12_smearedIn_17 rfl rfl ?_
      refine z_get F 0 12 45 inlX12 rfl rfl (by decide) fl_X12_82 rfl dX12_smearedIn_18 ?_
      refine z_bipush F (60) dX12_smearedIn_21 rfl ?_
      refine z_iload_n F 1 dX12_smearedIn_23 rfl rfl ?_
      refine z_imul F dX12_smearedIn_24 ?_
      refine z_iload_n F 3 dX12_smearedIn_25 rfl rfl ?_
      refine z_iadd F dX12_smearedIn_26 ?_
      refine z_lald F 2 rfl hf dX12_smearedIn_27 (fun v_1 hf => ?_)
      refine z_l2i F dX12_smearedIn_28 ?_
      refine z_iast F 1 (fun told_2 => (w_M_smearedIn G a_this a_height a_changeAt a_changeWas a_changeIs a_tape a_text a_names a_line a_row a_pastMany a_past a_changed a_greatest a_numbersWere a_told a_waysOf a_waysWere a_blocks a_ordersOf a_imageLine a_bodyKind a_trace a_shelf a_many a_items a_carried people keptMany done tapeMany textMany base at_ ends fault opened lineMany rowMany taller tallerBy pasts isKept imageMany bodies ran ownKind ownNumber told_2 items)) rfl hf (fun _ => rfl) dX12_smearedIn_29 (fun told_2 hf => ?_)
      refine z_iload_n F 2 dX12_smearedIn_30 rfl rfl ?_
      refine z_aload_n F 0 dX12_smearedIn_31 rfl rfl ?_
      refine z_get F 0 12 29 inlX12 rfl rfl (by decide) fl_X12_52 rfl dX12_smearedIn_32 ?_
      refine z_iload_n F 3 dX12_smearedIn_35 rfl rfl ?_
      refine z_iald F 1 rfl hf dX12_smearedIn_36 (fun v_3 hf => ?_)
      refine z_if_ge F 44 dX12_smearedIn_37 (by decide) hf (fun hf _ => ?_) (fun hf _ => ?_)
      · refine z_iconst F (0) dX12_smearedIn_44 rfl ?_
        refine z_iadd F dX12_smearedIn_45 ?_
        refine z_istore_n F [(2, .int (v2 + (0 : Int32))), (0, .ref a_this), (1, .int v1), (3, .int v3)] dX12_smearedIn_46 rfl (by decide) rfl ?_
        refine z_iinc F [(3, .int (v3 + 1)), (2, .int (v2 + (0 : Int32))), (0, .ref a_this), (1, .int v1)] dX12_smearedIn_47 3 rfl rfl (by decide) rfl ?_
        refine z_goto F 4 dX12_smearedIn_50 (by decide) ?_
        exact z_sub [2, 3, 1, 0] rfl (ih told_2 (v2 + (0 : Int32)) (v3 + 1) hf)
      · refine z_iconst F (1) dX12_smearedIn_40 rfl ?_
        refine z_goto F 45 dX12_smearedIn_41 (by decide) ?_
        refine z_iadd F dX12_smearedIn_45 ?_
        refine z_istore_n F [(2, .int (v2 + (1 : Int32))), (0, .ref a_this), (1, .int v1), (3, .int v3)] dX12_smearedIn_46 rfl (by decide) rfl ?_
        refine z_iinc F [(3, .int (v3 + 1)), (2, .int (v2 + (1 : Int32))), (0, .ref a_this), (1, .int v1)] dX12_smearedIn_47 3 rfl rfl (by decide) rfl ?_
        refine z_goto F 4 dX12_smearedIn_50 (by decide) ?_
        exact z_sub [2, 3, 1, 0] rfl (ih told_2 (v2 + (1 : Int32)) (v3 + 1) hf)

set_option maxRecDepth 100000 in
set_option maxHeartbeats 4000000 in
theorem c_M_smearedIn (l : Launch) (G : zG) (a_this : Nat) (a_height : Nat) (a_changeAt : Nat) (a_changeWas : Nat) (a_changeIs : Nat) (a_tape : Nat) (a_text : Nat) (a_names : Nat) (a_line : Nat) (a_row : Nat) (a_pastMany : Nat) (a_past : Nat) (a_changed : Nat) (a_greatest : Nat) (a_numbersWere : Nat) (a_told : Nat) (a_waysOf : Nat) (a_waysWere : Nat) (a_blocks : Nat) (a_ordersOf : Nat) (a_imageLine : Nat) (a_bodyKind : Nat) (a_trace : Nat) (a_shelf : Nat) (a_many : Nat) (a_items : Nat) (a_carried : Nat) (people : Int32) (keptMany : Int32) (done : Int32) (tapeMany : Int32) (textMany : Int32) (base : Int32) (at_ : Int32) (ends : Int32) (fault : Int32) (opened : Int32) (lineMany : Int32) (rowMany : Int32) (taller : Int32) (tallerBy : Int32) (pasts : Int32) (isKept : Int32) (imageMany : Int32) (bodies : Int32) (ran : Int32) (ownKind : Int32) (ownNumber : Int32) (told : Nat → Int32) (items : Nat → Int64) (x1 : Int32) (r_ : Int32) (o_told : Nat → Int32) (hf : f_M_smearedIn lineMany told items x1 = some (r_, o_told)) : zM l yX12_smearedIn cX12_smearedIn 4 (some .int) 0 0 G [.ref a_this, .int x1] (w_M_smearedIn G a_this a_height a_changeAt a_changeWas a_changeIs a_tape a_text a_names a_line a_row a_pastMany a_past a_changed a_greatest a_numbersWere a_told a_waysOf a_waysWere a_blocks a_ordersOf a_imageLine a_bodyKind a_trace a_shelf a_many a_items a_carried people keptMany done tapeMany textMany base at_ ends fault opened lineMany rowMany taller tallerBy pasts isKept imageMany bodies ran ownKind ownNumber told items) (some (.int r_)) (w_M_smearedIn G a_this a_height a_changeAt a_changeWas a_changeIs a_tape a_text a_names a_line a_row a_pastMany a_past a_changed a_greatest a_numbersWere a_told a_waysOf a_waysWere a_blocks a_ordersOf a_imageLine a_bodyKind a_trace a_shelf a_many a_items a_carried people keptMany done tapeMany textMany base at_ ends fault opened lineMany rowMany taller tallerBy pasts isKept imageMany bodies ran ownKind ownNumber o_told items) := by
  refine zM.of [(0, .ref a_this), (1, .int x1)] (own := RX12) rfl (by decide +kernel) (Nat.le_of_ble_eq_true rfl) rfl rfl fun X hX F => ?_
  subst hX
  replace hf := (f_M_smearedIn.eq_1 ..).symm.trans hf
  refine z_iconst F (0) dX12_smearedIn_0 rfl ?_
  refine z_istore_n F [(2, .int 0), (0, .ref a_this), (1, .int x1)] dX12_smearedIn_1 rfl (by decide) rfl ?_
  refine z_iconst F (0) dX12_smearedIn_2 rfl ?_
  refine z_istore_n F [(3, .int 0), (2, .int 0), (0, .ref a_this), (1, .int x1)] dX12_smearedIn_3 rfl (by decide) rfl ?_
  obtain ⟨told_4, v2_5, hg, hf⟩ := zb2_some hf
  refine z_sub [2, 3, 1, 0] rfl ?_
  refine l_M_smearedIn_4 G a_this a_height a_changeAt a_changeWas a_changeIs a_tape a_text a_names a_line a_row a_pastMany a_past a_changed a_greatest a_numbersWere a_told a_waysOf a_waysWere a_blocks a_ordersOf a_imageLine a_bodyKind a_trace a_shelf a_many a_items a_carried people keptMany done tapeMany textMany base at_ ends fault opened lineMany rowMany taller tallerBy pasts isKept imageMany bodies ran ownKind ownNumber items x1 F told_4 v2_5 ?_ FU told 0 0 hg
  refine z_iload_n F 0 dX12_smearedIn_53 rfl rfl ?_
  have eq1 := Option.some.inj hf
  obtain ⟨ee1, ee2⟩ := Prod.mk.inj eq1
  subst ee1
  subst ee2
  exact z_iret F rfl rfl rfl rfl dX12_smearedIn_54

abbrev w_M_restoredIs (G : zG) (a_this : Nat) (a_height : Nat) (a_changeAt : Nat) (a_changeWas : Nat) (a_changeIs : Nat) (a_tape : Nat) (a_text : Nat) (a_names : Nat) (a_line : Nat) (a_row : Nat) (a_pastMany : Nat) (a_past : Nat) (a_changed : Nat) (a_greatest : Nat) (a_numbersWere : Nat) (a_told : Nat) (a_waysOf : Nat) (a_waysWere : Nat) (a_blocks : Nat) (a_ordersOf : Nat) (a_imageLine : Nat) (a_bodyKind : Nat) (a_trace : Nat) (a_shelf : Nat) (a_many : Nat) (a_items : Nat) (a_carried : Nat) (people : Int32) (keptMany : Int32) (done : Int32) (tapeMany : Int32) (textMany : Int32) (base : Int32) (at_ : Int32) (ends : Int32) (fault : Int32) (opened : Int32) (lineMany : Int32) (rowMany : Int32) (taller : Int32) (tallerBy : Int32) (pasts : Int32) (isKept : Int32) (imageMany : Int32) (bodies : Int32) (ran : Int32) (ownKind : Int32) (ownNumber : Int32) (height : Nat → Int32) (line : Nat → Int32) (row : Nat → Int32) (told : Nat → Int32) (shelf : Nat → Int32) (many : Nat → Int32) (items : Nat → Int64) : va_W := [(a_this, cO 12 [.int people, .ref a_height, .ref a_changeAt, .ref a_changeWas, .ref a_changeIs, .int keptMany, .int done, .ref a_tape, .int tapeMany, .ref a_text, .int textMany, .int base, .int at_, .int ends, .int fault, .int opened, .ref a_names, .ref a_line, .int lineMany, .ref a_row, .int rowMany, .int taller, .int tallerBy, .ref a_pastMany, .ref a_past, .int pasts, .ref a_changed, .ref a_greatest, .ref a_numbersWere, .ref a_told, .ref a_waysOf, .ref a_waysWere, .ref a_blocks, .ref a_ordersOf, .int isKept, .int imageMany, .ref a_imageLine, .int bodies, .ref a_bodyKind, .ref a_trace, .int ran, .int ownKind, .int ownNumber, .ref a_shelf, .ref a_many, .ref a_items, .ref a_carried]), (a_height, cI G 9 height), (a_line, cI G 9 line), (a_row, cI G 9 row), (a_told, cI G 9 told), (a_shelf, cI G 6 shelf), (a_many, cI G 6 many), (a_items, cJ G 360 items)]
def f_M_restoredIs (people : Int32) (lineMany : Int32) (rowMany : Int32) (taller : Int32) (height : Nat → Int32) (line : Nat → Int32) (row : Nat → Int32) (told : Nat → Int32) (shelf : Nat → Int32) (many : Nat → Int32) (items : Nat → Int64) (x1 : Int32) : Option (Int32 × Int32 × Int32 × (Nat → Int32) × (Nat → Int32)) := (zb1 (f_M_bookIs shelf x1) fun r_1 => (if (0 : Int32) ≤ r_1 then (zg many 6 x1 fun v_3 => (if v_3 = lineMany then (zb1 (f_M_falseAt lineMany many items x1) fun r_4 => (if (0 : Int32) ≤ r_4 then (some ((-5), rowMany, taller, row, told)) else (zb2 (f_M_smearedIn lineMany told items x1) fun r_6 told_7 => (if r_6 ≤ 0 then (zb3 (f_M_restores people lineMany rowMany taller height line row told_7) fun rowMany_9 taller_10 row_11 => (some (1, rowMany_9, taller_10, row_11, told_7))) else (some ((-5), rowMany, taller, row, told_7)))))) else (some ((-5), rowMany, taller, row, told)))) else (zb1 (f_M_bookIs shelf x1) fun r_13 => (some (r_13, rowMany, taller, row, told)))))
set_option maxRecDepth 100000 in
set_option maxHeartbeats 4000000 in
theorem c_M_restoredIs (l : Launch) (G : zG) (a_this : Nat) (a_height : Nat) (a_changeAt : Nat) (a_changeWas : Nat) (a_changeIs : Nat) (a_tape : Nat) (a_text : Nat) (a_names : Nat) (a_line : Nat) (a_row : Nat) (a_pastMany : Nat) (a_past : Nat) (a_changed : Nat) (a_greatest : Nat) (a_numbersWere : Nat) (a_told : Nat) (a_waysOf : Nat) (a_waysWere : Nat) (a_blocks : Nat) (a_ordersOf : Nat) (a_imageLine : Nat) (a_bodyKind : Nat) (a_trace : Nat) (a_shelf : Nat) (a_many : Nat) (a_items : Nat) (a_carried : Nat) (people : Int32) (keptMany : Int32) (done : Int32) (tapeMany : Int32) (textMany : Int32) (base : Int32) (at_ : Int32) (ends : Int32) (fault : Int32) (opened : Int32) (lineMany : Int32) (rowMany : Int32) (taller : Int32) (tallerBy : Int32) (pasts : Int32) (isKept : Int32) (imageMany : Int32) (bodies : Int32) (ran : Int32) (ownKind : Int32) (ownNumber : Int32) (height : Nat → Int32) (line : Nat → Int32) (row : Nat → Int32) (told : Nat → Int32) (shelf : Nat → Int32) (many : Nat → Int32) (items : Nat → Int64) (x1 : Int32) (r_ : Int32) (o_rowMany : Int32) (o_taller : Int32) (o_row : Nat → Int32) (o_told : Nat → Int32) (hf : f_M_restoredIs people lineMany rowMany taller height line row told shelf many items x1 = some (r_, o_rowMany, o_taller, o_row, o_told)) : zM l yX12_restoredIs cX12_restoredIs 2 (some .int) 3 69 G [.ref a_this, .int x1] (w_M_restoredIs G a_this a_height a_changeAt a_changeWas a_changeIs a_tape a_text a_names a_line a_row a_pastMany a_past a_changed a_greatest a_numbersWere a_told a_waysOf a_waysWere a_blocks a_ordersOf a_imageLine a_bodyKind a_trace a_shelf a_many a_items a_carried people keptMany done tapeMany textMany base at_ ends fault opened lineMany rowMany taller tallerBy pasts isKept imageMany bodies ran ownKind ownNumber height line row told shelf many items) (some (.int r_)) (w_M_restoredIs G a_this a_height a_changeAt a_changeWas a_changeIs a_tape a_text a_names a_line a_row a_pastMany a_past a_changed a_greatest a_numbersWere a_told a_waysOf a_waysWere a_blocks a_ordersOf a_imageLine a_bodyKind a_trace a_shelf a_many a_items a_carried people keptMany done tapeMany textMany base at_ ends fault opened lineMany o_rowMany o_taller tallerBy pasts isKept imageMany bodies ran ownKind ownNumber height line o_row o_told shelf many items) := by
  refine zM.of [(0, .ref a_this), (1, .int x1)] (own := RX12) rfl (by decide +kernel) (Nat.le_of_ble_eq_true rfl) rfl rfl fun X hX F => ?_
  subst hX
  replace hf := (f_M_restoredIs.eq_1 ..).symm.trans hf
  refine z_aload_n F 0 dX12_restoredIs_0 rfl rfl ?_
  refine z_iload_n F 1 dX12_restoredIs_1 rfl rfl ?_
  obtain ⟨r_1, hg, hf⟩ := zb1_some hf
  refine z_callVm (rest := []) F 12 (c_M_bookIs (xL X) G a_this a_height a_changeAt a_changeWas a_changeIs a_tape a_text a_names a_line a_row a_pastMany a_past a_changed a_greatest a_numbersWere a_told a_waysOf a_waysWere a_blocks a_ordersOf a_imageLine a_bodyKind a_trace a_shelf a_many a_items a_carried people keptMany done tapeMany textMany base at_ ends fault opened lineMany rowMany taller tallerBy pasts isKept imageMany bodies ran ownKind ownNumber shelf x1 r_1 hg) hy_X12_bookIs ml_X12_265 hd_X12_bookIs ⟨by omega, by omega⟩ rfl [0, 5] rfl rfl 0 rfl rfl (w_M_restoredIs G a_this a_height a_changeAt a_changeWas a_changeIs a_tape a_text a_names a_line a_row a_pastMany a_past a_changed a_greatest a_numbersWere a_told a_waysOf a_waysWere a_blocks a_ordersOf a_imageLine a_bodyKind a_trace a_shelf a_many a_items a_carried people keptMany done tapeMany textMany base at_ ends fault opened lineMany rowMany taller tallerBy pasts isKept imageMany bodies ran ownKind ownNumber height line row told shelf many items) [some 0, none, none, none, none, some 1, none, none] rfl (by decide +kernel) rfl rfl (Nat.le_of_ble_eq_true rfl) dX12_restoredIs_2 (fun hz_2 => ?_)
  refine z_if_ge F 14 dX12_restoredIs_5 (by decide) hf (fun hf _ => ?_) (fun hf _ => ?_)
  · refine z_aload_n F 0 dX12_restoredIs_14 rfl rfl ?_
    refine z_get F 0 12 44 inlX12 rfl rfl (by decide) fl_X12_79 rfl dX12_restoredIs_15 ?_
    refine z_iload_n F 1 dX12_restoredIs_18 rfl rfl ?_
    refine z_iald F 6 rfl hf dX12_restoredIs_19 (fun v_3 hf => ?_)
    refine z_aload_n F 0 dX12_restoredIs_20 rfl rfl ?_
    refine z_get F 0 12 18 inlX12 rfl rfl (by decide) fl_X12_100 rfl dX12_restoredIs_21 ?_
    refine z_icmp_ne F 43 dX12_restoredIs_24 (by decide) hf (fun hf _ => ?_) (fun hf _ => ?_)
    · refine z_bipush F (-5) dX12_restoredIs_43 rfl ?_
      have eq1 := Option.some.inj hf
      obtain ⟨ee1, eq2⟩ := Prod.mk.inj eq1
      obtain ⟨ee2, eq3⟩ := Prod.mk.inj eq2
      obtain ⟨ee3, eq4⟩ := Prod.mk.inj eq3
      obtain ⟨ee4, ee5⟩ := Prod.mk.inj eq4
      subst ee1
      subst ee2
      subst ee3
      subst ee4
      subst ee5
      exact z_iret F rfl rfl rfl rfl dX12_restoredIs_45
    · refine z_aload_n F 0 dX12_restoredIs_27 rfl rfl ?_
      refine z_iload_n F 1 dX12_restoredIs_28 rfl rfl ?_
      obtain ⟨r_4, hg, hf⟩ := zb1_some hf
      refine z_callVm (rest := []) F 12 (c_M_falseAt (xL X) G a_this a_height a_changeAt a_changeWas a_changeIs a_tape a_text a_names a_line a_row a_pastMany a_past a_changed a_greatest a_numbersWere a_told a_waysOf a_waysWere a_blocks a_ordersOf a_imageLine a_bodyKind a_trace a_shelf a_many a_items a_carried people keptMany done tapeMany textMany base at_ ends fault opened lineMany rowMany taller tallerBy pasts isKept imageMany bodies ran ownKind ownNumber many items x1 r_4 hg) hy_X12_falseAt ml_X12_268 hd_X12_falseAt ⟨by omega, by omega⟩ rfl [0, 6, 7] rfl rfl 0 rfl rfl (w_M_restoredIs G a_this a_height a_changeAt a_changeWas a_changeIs a_tape a_text a_names a_line a_row a_pastMany a_past a_changed a_greatest a_numbersWere a_told a_waysOf a_waysWere a_blocks a_ordersOf a_imageLine a_bodyKind a_trace a_shelf a_many a_items a_carried people keptMany done tapeMany textMany base at_ ends fault opened lineMany rowMany taller tallerBy pasts isKept imageMany bodies ran ownKind ownNumber height line row told shelf many items) [some 0, none, none, none, none, none, some 1, some 2] rfl (by decide +kernel) rfl rfl (Nat.le_of_ble_eq_true rfl) dX12_restoredIs_29 (fun hz_5 => ?_)
      refine z_if_ge F 43 dX12_restoredIs_32 (by decide) hf (fun hf _ => ?_) (fun hf _ => ?_)
      · refine z_bipush F (-5) dX12_restoredIs_43 rfl ?_
        have eq1 := Option.some.inj hf
        obtain ⟨ee1, eq2⟩ := Prod.mk.inj eq1
        obtain ⟨ee2, eq3⟩ := Prod.mk.inj eq2
        obtain ⟨ee3, eq4⟩ := Prod.mk.inj eq3
        obtain ⟨ee4, ee5⟩ := Prod.mk.inj eq4
        subst ee1
        subst ee2
        subst ee3
        subst ee4
        subst ee5
        exact z_iret F rfl rfl rfl rfl dX12_restoredIs_45
      · refine z_aload_n F 0 dX12_restoredIs_35 rfl rfl ?_
        refine z_iload_n F 1 dX12_restoredIs_36 rfl rfl ?_
        obtain ⟨r_6, told_7, hg, hf⟩ := zb2_some hf
        refine z_callVm (rest := []) F 12 (c_M_smearedIn (xL X) G a_this a_height a_changeAt a_changeWas a_changeIs a_tape a_text a_names a_line a_row a_pastMany a_past a_changed a_greatest a_numbersWere a_told a_waysOf a_waysWere a_blocks a_ordersOf a_imageLine a_bodyKind a_trace a_shelf a_many a_items a_carried people keptMany done tapeMany textMany base at_ ends fault opened lineMany rowMany taller tallerBy pasts isKept imageMany bodies ran ownKind ownNumber told items x1 r_6 told_7 hg) hy_X12_smearedIn ml_X12_278 hd_X12_smearedIn ⟨by omega, by omega⟩ rfl [0, 4, 7] rfl rfl 0 rfl rfl (w_M_restoredIs G a_this a_height a_changeAt a_changeWas a_changeIs a_tape a_text a_names a_line a_row a_pastMany a_past a_changed a_greatest a_numbersWere a_told a_waysOf a_waysWere a_blocks a_ordersOf a_imageLine a_bodyKind a_trace a_shelf a_many a_items a_carried people keptMany done tapeMany textMany base at_ ends fault opened lineMany rowMany taller tallerBy pasts isKept imageMany bodies ran ownKind ownNumber height line row told_7 shelf many items) [some 0, none, none, none, some 1, none, none, some 2] rfl (by decide +kernel) rfl rfl (Nat.le_of_ble_eq_true rfl) dX12_restoredIs_37 (fun hz_8 => ?_)
        refine z_if_le F 46 dX12_restoredIs_40 (by decide) hf (fun hf _ => ?_) (fun hf _ => ?_)
        · refine z_aload_n F 0 dX12_restoredIs_46 rfl rfl ?_
          obtain ⟨rowMany_9, taller_10, row_11, hg, hf⟩ := zb3_some hf
          refine z_callVm (rest := []) F 12 (c_M_restores (xL X) G a_this a_height a_changeAt a_changeWas a_changeIs a_tape a_text a_names a_line a_row a_pastMany a_past a_changed a_greatest a_numbersWere a_told a_waysOf a_waysWere a_blocks a_ordersOf a_imageLine a_bodyKind a_trace a_shelf a_many a_items a_carried people keptMany done tapeMany textMany base at_ ends fault opened lineMany rowMany taller tallerBy pasts isKept imageMany bodies ran ownKind ownNumber height line row told_7 rowMany_9 taller_10 row_11 hg) hy_X12_restores ml_X12_281 hd_X12_restores ⟨by omega, by omega⟩ rfl [0, 1, 2, 3, 4] rfl rfl 0 rfl rfl (w_M_restoredIs G a_this a_height a_changeAt a_changeWas a_changeIs a_tape a_text a_names a_line a_row a_pastMany a_past a_changed a_greatest a_numbersWere a_told a_waysOf a_waysWere a_blocks a_ordersOf a_imageLine a_bodyKind a_trace a_shelf a_many a_items a_carried people keptMany done tapeMany textMany base at_ ends fault opened lineMany rowMany_9 taller_10 tallerBy pasts isKept imageMany bodies ran ownKind ownNumber height line row_11 told_7 shelf many items) [some 0, some 1, some 2, some 3, some 4, none, none, none] rfl (by decide +kernel) rfl rfl (Nat.le_of_ble_eq_true rfl) dX12_restoredIs_47 (fun hz_12 => ?_)
          refine z_iconst F (1) dX12_restoredIs_50 rfl ?_
          have eq1 := Option.some.inj hf
          obtain ⟨ee1, eq2⟩ := Prod.mk.inj eq1
          obtain ⟨ee2, eq3⟩ := Prod.mk.inj eq2
          obtain ⟨ee3, eq4⟩ := Prod.mk.inj eq3
          obtain ⟨ee4, ee5⟩ := Prod.mk.inj eq4
          subst ee1
          subst ee2
          subst ee3
          subst ee4
          subst ee5
          exact z_iret F rfl rfl rfl rfl dX12_restoredIs_51
        · refine z_bipush F (-5) dX12_restoredIs_43 rfl ?_
          have eq1 := Option.some.inj hf
          obtain ⟨ee1, eq2⟩ := Prod.mk.inj eq1
          obtain ⟨ee2, eq3⟩ := Prod.mk.inj eq2
          obtain ⟨ee3, eq4⟩ := Prod.mk.inj eq3
          obtain ⟨ee4, ee5⟩ := Prod.mk.inj eq4
          subst ee1
          subst ee2
          subst ee3
          subst ee4
          subst ee5
          exact z_iret F rfl rfl rfl rfl dX12_restoredIs_45
  · refine z_aload_n F 0 dX12_restoredIs_8 rfl rfl ?_
    refine z_iload_n F 1 dX12_restoredIs_9 rfl rfl ?_
    obtain ⟨r_13, hg, hf⟩ := zb1_some hf
    refine z_callVm (rest := []) F 12 (c_M_bookIs (xL X) G a_this a_height a_changeAt a_changeWas a_changeIs a_tape a_text a_names a_line a_row a_pastMany a_past a_changed a_greatest a_numbersWere a_told a_waysOf a_waysWere a_blocks a_ordersOf a_imageLine a_bodyKind a_trace a_shelf a_many a_items a_carried people keptMany done tapeMany textMany base at_ ends fault opened lineMany rowMany taller tallerBy pasts isKept imageMany bodies ran ownKind ownNumber shelf x1 r_13 hg) hy_X12_bookIs ml_X12_265 hd_X12_bookIs ⟨by omega, by omega⟩ rfl [0, 5] rfl rfl 0 rfl rfl (w_M_restoredIs G a_this a_height a_changeAt a_changeWas a_changeIs a_tape a_text a_names a_line a_row a_pastMany a_past a_changed a_greatest a_numbersWere a_told a_waysOf a_waysWere a_blocks a_ordersOf a_imageLine a_bodyKind a_trace a_shelf a_many a_items a_carried people keptMany done tapeMany textMany base at_ ends fault opened lineMany rowMany taller tallerBy pasts isKept imageMany bodies ran ownKind ownNumber height line row told shelf many items) [some 0, none, none, none, none, some 1, none, none] rfl (by decide +kernel) rfl rfl (Nat.le_of_ble_eq_true rfl) dX12_restoredIs_10 (fun hz_14 => ?_)
    have eq1 := Option.some.inj hf
    obtain ⟨ee1, eq2⟩ := Prod.mk.inj eq1
    obtain ⟨ee2, eq3⟩ := Prod.mk.inj eq2
    obtain ⟨ee3, eq4⟩ := Prod.mk.inj eq3
    obtain ⟨ee4, ee5⟩ := Prod.mk.inj eq4
    subst ee1
    subst ee2
    subst ee3
    subst ee4
    subst ee5
    exact z_iret F rfl rfl rfl rfl dX12_restoredIs_13

