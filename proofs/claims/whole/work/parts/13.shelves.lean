/-! by program (wip/whole/gen.py): pure functions and contracts -/
theorem dX9_isShelf_0 : decode cX9_isShelf 0 = .ok (.iload_n 1, 1) := by decide +kernel
theorem dX9_isShelf_1 : decode cX9_isShelf 1 = .ok (.ifCond .lt 13, 3) := by decide +kernel
theorem dX9_isShelf_4 : decode cX9_isShelf 4 = .ok (.iload_n 1, 1) := by decide +kernel
theorem dX9_isShelf_5 : decode cX9_isShelf 5 = .ok (.bipush 6, 2) := by decide +kernel
theorem dX9_isShelf_7 : decode cX9_isShelf 7 = .ok (.if_icmp .ge 7, 3) := by decide +kernel
theorem dX9_isShelf_10 : decode cX9_isShelf 10 = .ok (.iconst 1, 1) := by decide +kernel
theorem dX9_isShelf_11 : decode cX9_isShelf 11 = .ok (.goto 4, 3) := by decide +kernel
theorem dX9_isShelf_14 : decode cX9_isShelf 14 = .ok (.iconst 0, 1) := by decide +kernel
theorem dX9_isShelf_15 : decode cX9_isShelf 15 = .ok (.ireturn, 1) := by decide +kernel
theorem dX9_isBare_0 : decode cX9_isBare 0 = .ok (.aload_n 0, 1) := by decide +kernel
theorem dX9_isBare_1 : decode cX9_isBare 1 = .ok (.iload_n 1, 1) := by decide +kernel
theorem dX9_isBare_2 : decode cX9_isBare 2 = .ok (.invokevirtual 32, 3) := by decide +kernel
theorem dX9_isBare_5 : decode cX9_isBare 5 = .ok (.ifCond .eq 13, 3) := by decide +kernel
theorem dX9_isBare_8 : decode cX9_isBare 8 = .ok (.aload_n 0, 1) := by decide +kernel
theorem dX9_isBare_9 : decode cX9_isBare 9 = .ok (.getfield 11, 3) := by decide +kernel
theorem dX9_isBare_12 : decode cX9_isBare 12 = .ok (.iload_n 1, 1) := by decide +kernel
theorem dX9_isBare_13 : decode cX9_isBare 13 = .ok (.iaload, 1) := by decide +kernel
theorem dX9_isBare_14 : decode cX9_isBare 14 = .ok (.iconst (-1), 1) := by decide +kernel
theorem dX9_isBare_15 : decode cX9_isBare 15 = .ok (.if_icmp .ne 7, 3) := by decide +kernel
theorem dX9_isBare_18 : decode cX9_isBare 18 = .ok (.iconst 1, 1) := by decide +kernel
theorem dX9_isBare_19 : decode cX9_isBare 19 = .ok (.goto 4, 3) := by decide +kernel
theorem dX9_isBare_22 : decode cX9_isBare 22 = .ok (.iconst 0, 1) := by decide +kernel
theorem dX9_isBare_23 : decode cX9_isBare 23 = .ok (.ireturn, 1) := by decide +kernel
theorem dX9_sortOf_0 : decode cX9_sortOf 0 = .ok (.aload_n 0, 1) := by decide +kernel
theorem dX9_sortOf_1 : decode cX9_sortOf 1 = .ok (.iload_n 1, 1) := by decide +kernel
theorem dX9_sortOf_2 : decode cX9_sortOf 2 = .ok (.invokevirtual 32, 3) := by decide +kernel
theorem dX9_sortOf_5 : decode cX9_sortOf 5 = .ok (.ifCond .eq 12, 3) := by decide +kernel
theorem dX9_sortOf_8 : decode cX9_sortOf 8 = .ok (.aload_n 0, 1) := by decide +kernel
theorem dX9_sortOf_9 : decode cX9_sortOf 9 = .ok (.getfield 11, 3) := by decide +kernel
theorem dX9_sortOf_12 : decode cX9_sortOf 12 = .ok (.iload_n 1, 1) := by decide +kernel
theorem dX9_sortOf_13 : decode cX9_sortOf 13 = .ok (.iaload, 1) := by decide +kernel
theorem dX9_sortOf_14 : decode cX9_sortOf 14 = .ok (.goto 4, 3) := by decide +kernel
theorem dX9_sortOf_17 : decode cX9_sortOf 17 = .ok (.iconst (-1), 1) := by decide +kernel
theorem dX9_sortOf_18 : decode cX9_sortOf 18 = .ok (.ireturn, 1) := by decide +kernel
theorem dX9_refusalOfBytes_0 : decode cX9_refusalOfBytes 0 = .ok (.aload_n 0, 1) := by decide +kernel
theorem dX9_refusalOfBytes_1 : decode cX9_refusalOfBytes 1 = .ok (.iload_n 1, 1) := by decide +kernel
theorem dX9_refusalOfBytes_2 : decode cX9_refusalOfBytes 2 = .ok (.invokevirtual 40, 3) := by decide +kernel
theorem dX9_refusalOfBytes_5 : decode cX9_refusalOfBytes 5 = .ok (.ifCond .eq 6, 3) := by decide +kernel
theorem dX9_refusalOfBytes_8 : decode cX9_refusalOfBytes 8 = .ok (.bipush (-11), 2) := by decide +kernel
theorem dX9_refusalOfBytes_10 : decode cX9_refusalOfBytes 10 = .ok (.ireturn, 1) := by decide +kernel
theorem dX9_refusalOfBytes_11 : decode cX9_refusalOfBytes 11 = .ok (.aload_n 0, 1) := by decide +kernel
theorem dX9_refusalOfBytes_12 : decode cX9_refusalOfBytes 12 = .ok (.iload_n 1, 1) := by decide +kernel
theorem dX9_refusalOfBytes_13 : decode cX9_refusalOfBytes 13 = .ok (.invokevirtual 36, 3) := by decide +kernel
theorem dX9_refusalOfBytes_16 : decode cX9_refusalOfBytes 16 = .ok (.ifCond .ne 7, 3) := by decide +kernel
theorem dX9_refusalOfBytes_19 : decode cX9_refusalOfBytes 19 = .ok (.iconst 0, 1) := by decide +kernel
theorem dX9_refusalOfBytes_20 : decode cX9_refusalOfBytes 20 = .ok (.goto 5, 3) := by decide +kernel
theorem dX9_refusalOfBytes_23 : decode cX9_refusalOfBytes 23 = .ok (.bipush (-12), 2) := by decide +kernel
theorem dX9_refusalOfBytes_25 : decode cX9_refusalOfBytes 25 = .ok (.ireturn, 1) := by decide +kernel
theorem dX9_sizeOf_0 : decode cX9_sizeOf 0 = .ok (.aload_n 0, 1) := by decide +kernel
theorem dX9_sizeOf_1 : decode cX9_sizeOf 1 = .ok (.iload_n 1, 1) := by decide +kernel
theorem dX9_sizeOf_2 : decode cX9_sizeOf 2 = .ok (.invokevirtual 32, 3) := by decide +kernel
theorem dX9_sizeOf_5 : decode cX9_sizeOf 5 = .ok (.ifCond .eq 12, 3) := by decide +kernel
theorem dX9_sizeOf_8 : decode cX9_sizeOf 8 = .ok (.aload_n 0, 1) := by decide +kernel
theorem dX9_sizeOf_9 : decode cX9_sizeOf 9 = .ok (.getfield 21, 3) := by decide +kernel
theorem dX9_sizeOf_12 : decode cX9_sizeOf 12 = .ok (.iload_n 1, 1) := by decide +kernel
theorem dX9_sizeOf_13 : decode cX9_sizeOf 13 = .ok (.iaload, 1) := by decide +kernel
theorem dX9_sizeOf_14 : decode cX9_sizeOf 14 = .ok (.goto 4, 3) := by decide +kernel
theorem dX9_sizeOf_17 : decode cX9_sizeOf 17 = .ok (.iconst 0, 1) := by decide +kernel
theorem dX9_sizeOf_18 : decode cX9_sizeOf 18 = .ok (.ireturn, 1) := by decide +kernel
theorem dX9_valueAt_0 : decode cX9_valueAt 0 = .ok (.iload_n 2, 1) := by decide +kernel
theorem dX9_valueAt_1 : decode cX9_valueAt 1 = .ok (.ifCond .lt 23, 3) := by decide +kernel
theorem dX9_valueAt_4 : decode cX9_valueAt 4 = .ok (.iload_n 2, 1) := by decide +kernel
theorem dX9_valueAt_5 : decode cX9_valueAt 5 = .ok (.aload_n 0, 1) := by decide +kernel
theorem dX9_valueAt_6 : decode cX9_valueAt 6 = .ok (.iload_n 1, 1) := by decide +kernel
theorem dX9_valueAt_7 : decode cX9_valueAt 7 = .ok (.invokevirtual 43, 3) := by decide +kernel
theorem dX9_valueAt_10 : decode cX9_valueAt 10 = .ok (.if_icmp .ge 14, 3) := by decide +kernel
theorem dX9_valueAt_13 : decode cX9_valueAt 13 = .ok (.aload_n 0, 1) := by decide +kernel
theorem dX9_valueAt_14 : decode cX9_valueAt 14 = .ok (.getfield 29, 3) := by decide +kernel
theorem dX9_valueAt_17 : decode cX9_valueAt 17 = .ok (.iload_n 1, 1) := by decide +kernel
theorem dX9_valueAt_18 : decode cX9_valueAt 18 = .ok (.aaload, 1) := by decide +kernel
theorem dX9_valueAt_19 : decode cX9_valueAt 19 = .ok (.iload_n 2, 1) := by decide +kernel
theorem dX9_valueAt_20 : decode cX9_valueAt 20 = .ok (.laload, 1) := by decide +kernel
theorem dX9_valueAt_21 : decode cX9_valueAt 21 = .ok (.goto 4, 3) := by decide +kernel
theorem dX9_valueAt_24 : decode cX9_valueAt 24 = .ok (.lconst 0, 1) := by decide +kernel
theorem dX9_valueAt_25 : decode cX9_valueAt 25 = .ok (.lreturn, 1) := by decide +kernel
theorem dX9_hold_0 : decode cX9_hold 0 = .ok (.aload_n 0, 1) := by decide +kernel
theorem dX9_hold_1 : decode cX9_hold 1 = .ok (.iload_n 1, 1) := by decide +kernel
theorem dX9_hold_2 : decode cX9_hold 2 = .ok (.invokevirtual 32, 3) := by decide +kernel
theorem dX9_hold_5 : decode cX9_hold 5 = .ok (.ifCond .eq 32, 3) := by decide +kernel
theorem dX9_hold_8 : decode cX9_hold 8 = .ok (.aload_n 0, 1) := by decide +kernel
theorem dX9_hold_9 : decode cX9_hold 9 = .ok (.getfield 11, 3) := by decide +kernel
theorem dX9_hold_12 : decode cX9_hold 12 = .ok (.iload_n 1, 1) := by decide +kernel
theorem dX9_hold_13 : decode cX9_hold 13 = .ok (.iload_n 2, 1) := by decide +kernel
theorem dX9_hold_14 : decode cX9_hold 14 = .ok (.ifCond .ge 7, 3) := by decide +kernel
theorem dX9_hold_17 : decode cX9_hold 17 = .ok (.iconst (-1), 1) := by decide +kernel
theorem dX9_hold_18 : decode cX9_hold 18 = .ok (.goto 4, 3) := by decide +kernel
theorem dX9_hold_21 : decode cX9_hold 21 = .ok (.iconst 5, 1) := by decide +kernel
theorem dX9_hold_22 : decode cX9_hold 22 = .ok (.iastore, 1) := by decide +kernel
theorem dX9_hold_23 : decode cX9_hold 23 = .ok (.aload_n 0, 1) := by decide +kernel
theorem dX9_hold_24 : decode cX9_hold 24 = .ok (.getfield 21, 3) := by decide +kernel
theorem dX9_hold_27 : decode cX9_hold 27 = .ok (.iload_n 1, 1) := by decide +kernel
theorem dX9_hold_28 : decode cX9_hold 28 = .ok (.iconst 0, 1) := by decide +kernel
theorem dX9_hold_29 : decode cX9_hold 29 = .ok (.iastore, 1) := by decide +kernel
theorem dX9_hold_30 : decode cX9_hold 30 = .ok (.aload_n 0, 1) := by decide +kernel
theorem dX9_hold_31 : decode cX9_hold 31 = .ok (.getfield 24, 3) := by decide +kernel
theorem dX9_hold_34 : decode cX9_hold 34 = .ok (.iload_n 1, 1) := by decide +kernel
theorem dX9_hold_35 : decode cX9_hold 35 = .ok (.iload_n 2, 1) := by decide +kernel
theorem dX9_hold_36 : decode cX9_hold 36 = .ok (.iastore, 1) := by decide +kernel
theorem dX9_hold_37 : decode cX9_hold 37 = .ok (.return_, 1) := by decide +kernel
theorem dX9_holdRow_0 : decode cX9_holdRow 0 = .ok (.aload_n 0, 1) := by decide +kernel
theorem dX9_holdRow_1 : decode cX9_holdRow 1 = .ok (.iload_n 1, 1) := by decide +kernel
theorem dX9_holdRow_2 : decode cX9_holdRow 2 = .ok (.invokevirtual 32, 3) := by decide +kernel
theorem dX9_holdRow_5 : decode cX9_holdRow 5 = .ok (.ifCond .eq 37, 3) := by decide +kernel
theorem dX9_holdRow_8 : decode cX9_holdRow 8 = .ok (.iload_n 3, 1) := by decide +kernel
theorem dX9_holdRow_9 : decode cX9_holdRow 9 = .ok (.ifCond .lt 33, 3) := by decide +kernel
theorem dX9_holdRow_12 : decode cX9_holdRow 12 = .ok (.iload_n 3, 1) := by decide +kernel
theorem dX9_holdRow_13 : decode cX9_holdRow 13 = .ok (.bipush 60, 2) := by decide +kernel
theorem dX9_holdRow_15 : decode cX9_holdRow 15 = .ok (.if_icmp .gt 27, 3) := by decide +kernel
theorem dX9_holdRow_18 : decode cX9_holdRow 18 = .ok (.aload_n 0, 1) := by decide +kernel
theorem dX9_holdRow_19 : decode cX9_holdRow 19 = .ok (.getfield 11, 3) := by decide +kernel
theorem dX9_holdRow_22 : decode cX9_holdRow 22 = .ok (.iload_n 1, 1) := by decide +kernel
theorem dX9_holdRow_23 : decode cX9_holdRow 23 = .ok (.iload_n 2, 1) := by decide +kernel
theorem dX9_holdRow_24 : decode cX9_holdRow 24 = .ok (.iastore, 1) := by decide +kernel
theorem dX9_holdRow_25 : decode cX9_holdRow 25 = .ok (.aload_n 0, 1) := by decide +kernel
theorem dX9_holdRow_26 : decode cX9_holdRow 26 = .ok (.getfield 21, 3) := by decide +kernel
theorem dX9_holdRow_29 : decode cX9_holdRow 29 = .ok (.iload_n 1, 1) := by decide +kernel
theorem dX9_holdRow_30 : decode cX9_holdRow 30 = .ok (.iload_n 3, 1) := by decide +kernel
theorem dX9_holdRow_31 : decode cX9_holdRow 31 = .ok (.iastore, 1) := by decide +kernel
theorem dX9_holdRow_32 : decode cX9_holdRow 32 = .ok (.aload_n 0, 1) := by decide +kernel
theorem dX9_holdRow_33 : decode cX9_holdRow 33 = .ok (.getfield 29, 3) := by decide +kernel
theorem dX9_holdRow_36 : decode cX9_holdRow 36 = .ok (.iload_n 1, 1) := by decide +kernel
theorem dX9_holdRow_37 : decode cX9_holdRow 37 = .ok (.aaload, 1) := by decide +kernel
theorem dX9_holdRow_38 : decode cX9_holdRow 38 = .ok (.lconst 0, 1) := by decide +kernel
theorem dX9_holdRow_39 : decode cX9_holdRow 39 = .ok (.invokestatic 46, 3) := by decide +kernel
theorem dX9_holdRow_42 : decode cX9_holdRow 42 = .ok (.return_, 1) := by decide +kernel
theorem dX9_isRow_0 : decode cX9_isRow 0 = .ok (.aload_n 0, 1) := by decide +kernel
theorem dX9_isRow_1 : decode cX9_isRow 1 = .ok (.iload_n 1, 1) := by decide +kernel
theorem dX9_isRow_2 : decode cX9_isRow 2 = .ok (.invokevirtual 32, 3) := by decide +kernel
theorem dX9_isRow_5 : decode cX9_isRow 5 = .ok (.ifCond .eq 26, 3) := by decide +kernel
theorem dX9_isRow_8 : decode cX9_isRow 8 = .ok (.aload_n 0, 1) := by decide +kernel
theorem dX9_isRow_9 : decode cX9_isRow 9 = .ok (.getfield 11, 3) := by decide +kernel
theorem dX9_isRow_12 : decode cX9_isRow 12 = .ok (.iload_n 1, 1) := by decide +kernel
theorem dX9_isRow_13 : decode cX9_isRow 13 = .ok (.iaload, 1) := by decide +kernel
theorem dX9_isRow_14 : decode cX9_isRow 14 = .ok (.ifCond .lt 17, 3) := by decide +kernel
theorem dX9_isRow_17 : decode cX9_isRow 17 = .ok (.aload_n 0, 1) := by decide +kernel
theorem dX9_isRow_18 : decode cX9_isRow 18 = .ok (.getfield 11, 3) := by decide +kernel
theorem dX9_isRow_21 : decode cX9_isRow 21 = .ok (.iload_n 1, 1) := by decide +kernel
theorem dX9_isRow_22 : decode cX9_isRow 22 = .ok (.iaload, 1) := by decide +kernel
theorem dX9_isRow_23 : decode cX9_isRow 23 = .ok (.iconst 4, 1) := by decide +kernel
theorem dX9_isRow_24 : decode cX9_isRow 24 = .ok (.if_icmp .gt 7, 3) := by decide +kernel
theorem dX9_isRow_27 : decode cX9_isRow 27 = .ok (.iconst 1, 1) := by decide +kernel
theorem dX9_isRow_28 : decode cX9_isRow 28 = .ok (.goto 4, 3) := by decide +kernel
theorem dX9_isRow_31 : decode cX9_isRow 31 = .ok (.iconst 0, 1) := by decide +kernel
theorem dX9_isRow_32 : decode cX9_isRow 32 = .ok (.ireturn, 1) := by decide +kernel
theorem dX9_cut_0 : decode cX9_cut 0 = .ok (.iload_n 0, 1) := by decide +kernel
theorem dX9_cut_1 : decode cX9_cut 1 = .ok (.tableswitch 61 0 4 #[35, 40, 45, 61, 49], 35) := by decide +kernel
theorem dX9_cut_36 : decode cX9_cut 36 = .ok (.lload_n 1, 1) := by decide +kernel
theorem dX9_cut_37 : decode cX9_cut 37 = .ok (.l2i, 1) := by decide +kernel
theorem dX9_cut_38 : decode cX9_cut 38 = .ok (.i2b, 1) := by decide +kernel
theorem dX9_cut_39 : decode cX9_cut 39 = .ok (.i2l, 1) := by decide +kernel
theorem dX9_cut_40 : decode cX9_cut 40 = .ok (.lreturn, 1) := by decide +kernel
theorem dX9_cut_41 : decode cX9_cut 41 = .ok (.lload_n 1, 1) := by decide +kernel
theorem dX9_cut_42 : decode cX9_cut 42 = .ok (.l2i, 1) := by decide +kernel
theorem dX9_cut_43 : decode cX9_cut 43 = .ok (.i2s, 1) := by decide +kernel
theorem dX9_cut_44 : decode cX9_cut 44 = .ok (.i2l, 1) := by decide +kernel
theorem dX9_cut_45 : decode cX9_cut 45 = .ok (.lreturn, 1) := by decide +kernel
theorem dX9_cut_46 : decode cX9_cut 46 = .ok (.lload_n 1, 1) := by decide +kernel
theorem dX9_cut_47 : decode cX9_cut 47 = .ok (.l2i, 1) := by decide +kernel
theorem dX9_cut_48 : decode cX9_cut 48 = .ok (.i2l, 1) := by decide +kernel
theorem dX9_cut_49 : decode cX9_cut 49 = .ok (.lreturn, 1) := by decide +kernel
theorem dX9_cut_50 : decode cX9_cut 50 = .ok (.lload_n 1, 1) := by decide +kernel
theorem dX9_cut_51 : decode cX9_cut 51 = .ok (.lconst 0, 1) := by decide +kernel
theorem dX9_cut_52 : decode cX9_cut 52 = .ok (.lcmp, 1) := by decide +kernel
theorem dX9_cut_53 : decode cX9_cut 53 = .ok (.ifCond .eq 7, 3) := by decide +kernel
theorem dX9_cut_56 : decode cX9_cut 56 = .ok (.lconst 1, 1) := by decide +kernel
theorem dX9_cut_57 : decode cX9_cut 57 = .ok (.goto 4, 3) := by decide +kernel
theorem dX9_cut_60 : decode cX9_cut 60 = .ok (.lconst 0, 1) := by decide +kernel
theorem dX9_cut_61 : decode cX9_cut 61 = .ok (.lreturn, 1) := by decide +kernel
theorem dX9_cut_62 : decode cX9_cut 62 = .ok (.lload_n 1, 1) := by decide +kernel
theorem dX9_cut_63 : decode cX9_cut 63 = .ok (.lreturn, 1) := by decide +kernel
theorem dX9_change_0 : decode cX9_change 0 = .ok (.iload_n 2, 1) := by decide +kernel
theorem dX9_change_1 : decode cX9_change 1 = .ok (.ifCond .lt 30, 3) := by decide +kernel
theorem dX9_change_4 : decode cX9_change 4 = .ok (.iload_n 2, 1) := by decide +kernel
theorem dX9_change_5 : decode cX9_change 5 = .ok (.aload_n 0, 1) := by decide +kernel
theorem dX9_change_6 : decode cX9_change 6 = .ok (.iload_n 1, 1) := by decide +kernel
theorem dX9_change_7 : decode cX9_change 7 = .ok (.invokevirtual 43, 3) := by decide +kernel
theorem dX9_change_10 : decode cX9_change 10 = .ok (.if_icmp .ge 21, 3) := by decide +kernel
theorem dX9_change_13 : decode cX9_change 13 = .ok (.aload_n 0, 1) := by decide +kernel
theorem dX9_change_14 : decode cX9_change 14 = .ok (.getfield 29, 3) := by decide +kernel
theorem dX9_change_17 : decode cX9_change 17 = .ok (.iload_n 1, 1) := by decide +kernel
theorem dX9_change_18 : decode cX9_change 18 = .ok (.aaload, 1) := by decide +kernel
theorem dX9_change_19 : decode cX9_change 19 = .ok (.iload_n 2, 1) := by decide +kernel
theorem dX9_change_20 : decode cX9_change 20 = .ok (.aload_n 0, 1) := by decide +kernel
theorem dX9_change_21 : decode cX9_change 21 = .ok (.getfield 11, 3) := by decide +kernel
theorem dX9_change_24 : decode cX9_change 24 = .ok (.iload_n 1, 1) := by decide +kernel
theorem dX9_change_25 : decode cX9_change 25 = .ok (.iaload, 1) := by decide +kernel
theorem dX9_change_26 : decode cX9_change 26 = .ok (.lload_n 3, 1) := by decide +kernel
theorem dX9_change_27 : decode cX9_change 27 = .ok (.invokestatic 49, 3) := by decide +kernel
theorem dX9_change_30 : decode cX9_change 30 = .ok (.lastore, 1) := by decide +kernel
theorem dX9_change_31 : decode cX9_change 31 = .ok (.return_, 1) := by decide +kernel
theorem dX9_hasStretch_0 : decode cX9_hasStretch 0 = .ok (.iload_n 2, 1) := by decide +kernel
theorem dX9_hasStretch_1 : decode cX9_hasStretch 1 = .ok (.ifCond .lt 22, 3) := by decide +kernel
theorem dX9_hasStretch_4 : decode cX9_hasStretch 4 = .ok (.iload_n 3, 1) := by decide +kernel
theorem dX9_hasStretch_5 : decode cX9_hasStretch 5 = .ok (.ifCond .lt 18, 3) := by decide +kernel
theorem dX9_hasStretch_8 : decode cX9_hasStretch 8 = .ok (.iload_n 2, 1) := by decide +kernel
theorem dX9_hasStretch_9 : decode cX9_hasStretch 9 = .ok (.aload_n 0, 1) := by decide +kernel
theorem dX9_hasStretch_10 : decode cX9_hasStretch 10 = .ok (.iload_n 1, 1) := by decide +kernel
theorem dX9_hasStretch_11 : decode cX9_hasStretch 11 = .ok (.invokevirtual 43, 3) := by decide +kernel
theorem dX9_hasStretch_14 : decode cX9_hasStretch 14 = .ok (.iload_n 3, 1) := by decide +kernel
theorem dX9_hasStretch_15 : decode cX9_hasStretch 15 = .ok (.isub, 1) := by decide +kernel
theorem dX9_hasStretch_16 : decode cX9_hasStretch 16 = .ok (.if_icmp .gt 7, 3) := by decide +kernel
theorem dX9_hasStretch_19 : decode cX9_hasStretch 19 = .ok (.iconst 1, 1) := by decide +kernel
theorem dX9_hasStretch_20 : decode cX9_hasStretch 20 = .ok (.goto 4, 3) := by decide +kernel
theorem dX9_hasStretch_23 : decode cX9_hasStretch 23 = .ok (.iconst 0, 1) := by decide +kernel
theorem dX9_hasStretch_24 : decode cX9_hasStretch 24 = .ok (.ireturn, 1) := by decide +kernel
theorem dX9_copy_0 : decode cX9_copy 0 = .ok (.aload_n 0, 1) := by decide +kernel
theorem dX9_copy_1 : decode cX9_copy 1 = .ok (.iload_n 1, 1) := by decide +kernel
theorem dX9_copy_2 : decode cX9_copy 2 = .ok (.iload_n 2, 1) := by decide +kernel
theorem dX9_copy_3 : decode cX9_copy 3 = .ok (.iload 5, 2) := by decide +kernel
theorem dX9_copy_5 : decode cX9_copy 5 = .ok (.invokevirtual 53, 3) := by decide +kernel
theorem dX9_copy_8 : decode cX9_copy 8 = .ok (.ifCond .eq 35, 3) := by decide +kernel
theorem dX9_copy_11 : decode cX9_copy 11 = .ok (.aload_n 0, 1) := by decide +kernel
theorem dX9_copy_12 : decode cX9_copy 12 = .ok (.iload_n 3, 1) := by decide +kernel
theorem dX9_copy_13 : decode cX9_copy 13 = .ok (.iload 4, 2) := by decide +kernel
theorem dX9_copy_15 : decode cX9_copy 15 = .ok (.iload 5, 2) := by decide +kernel
theorem dX9_copy_17 : decode cX9_copy 17 = .ok (.invokevirtual 53, 3) := by decide +kernel
theorem dX9_copy_20 : decode cX9_copy 20 = .ok (.ifCond .eq 23, 3) := by decide +kernel
theorem dX9_copy_23 : decode cX9_copy 23 = .ok (.aload_n 0, 1) := by decide +kernel
theorem dX9_copy_24 : decode cX9_copy 24 = .ok (.getfield 29, 3) := by decide +kernel
theorem dX9_copy_27 : decode cX9_copy 27 = .ok (.iload_n 1, 1) := by decide +kernel
theorem dX9_copy_28 : decode cX9_copy 28 = .ok (.aaload, 1) := by decide +kernel
theorem dX9_copy_29 : decode cX9_copy 29 = .ok (.iload_n 2, 1) := by decide +kernel
theorem dX9_copy_30 : decode cX9_copy 30 = .ok (.aload_n 0, 1) := by decide +kernel
theorem dX9_copy_31 : decode cX9_copy 31 = .ok (.getfield 29, 3) := by decide +kernel
theorem dX9_copy_34 : decode cX9_copy 34 = .ok (.iload_n 3, 1) := by decide +kernel
theorem dX9_copy_35 : decode cX9_copy 35 = .ok (.aaload, 1) := by decide +kernel
theorem dX9_copy_36 : decode cX9_copy 36 = .ok (.iload 4, 2) := by decide +kernel
theorem dX9_copy_38 : decode cX9_copy 38 = .ok (.iload 5, 2) := by decide +kernel
theorem dX9_copy_40 : decode cX9_copy 40 = .ok (.invokestatic 57, 3) := by decide +kernel
theorem dX9_copy_43 : decode cX9_copy 43 = .ok (.return_, 1) := by decide +kernel
theorem dX9_headOn_0 : decode cX9_headOn 0 = .ok (.aload_n 0, 1) := by decide +kernel
theorem dX9_headOn_1 : decode cX9_headOn 1 = .ok (.iload_n 1, 1) := by decide +kernel
theorem dX9_headOn_2 : decode cX9_headOn 2 = .ok (.invokevirtual 36, 3) := by decide +kernel
theorem dX9_headOn_5 : decode cX9_headOn 5 = .ok (.iconst 5, 1) := by decide +kernel
theorem dX9_headOn_6 : decode cX9_headOn 6 = .ok (.if_icmp .ne 12, 3) := by decide +kernel
theorem dX9_headOn_9 : decode cX9_headOn 9 = .ok (.aload_n 0, 1) := by decide +kernel
theorem dX9_headOn_10 : decode cX9_headOn 10 = .ok (.getfield 24, 3) := by decide +kernel
theorem dX9_headOn_13 : decode cX9_headOn 13 = .ok (.iload_n 1, 1) := by decide +kernel
theorem dX9_headOn_14 : decode cX9_headOn 14 = .ok (.iaload, 1) := by decide +kernel
theorem dX9_headOn_15 : decode cX9_headOn 15 = .ok (.goto 5, 3) := by decide +kernel
theorem dX9_headOn_18 : decode cX9_headOn 18 = .ok (.bipush (-2), 2) := by decide +kernel
theorem dX9_headOn_20 : decode cX9_headOn 20 = .ok (.ireturn, 1) := by decide +kernel
theorem fl_X9_11 : Cond.fieldLink RX9 11 (TX9 0).1 (TX9 0).2.1 (TX9 0).2.2.1 ∈ wsL_law := (uw5 _ (List.mem_of_getElem? (i := 16) rfl))
theorem fl_X9_21 : Cond.fieldLink RX9 21 (TX9 1).1 (TX9 1).2.1 (TX9 1).2.2.1 ∈ wsL_law := (uw5 _ (List.mem_of_getElem? (i := 17) rfl))
theorem fl_X9_24 : Cond.fieldLink RX9 24 (TX9 2).1 (TX9 2).2.1 (TX9 2).2.2.1 ∈ wsL_law := (uw5 _ (List.mem_of_getElem? (i := 18) rfl))
theorem fl_X9_29 : Cond.fieldLink RX9 29 (TX9 3).1 (TX9 3).2.1 (TX9 3).2.2.1 ∈ wsL_law := (uw5 _ (List.mem_of_getElem? (i := 21) rfl))
theorem hy_J7_fill_d0a16 : Cond.code yJ7_fill_d0a16 cJ7_fill_d0a16 5 none ∈ wsL_law ∧ Cond.initialized yJ7_fill_d0a16.cls ∈ wsL_law ∧ Cond.static yJ7_fill_d0a16 ∈ wsL_law := ⟨(uw55 _ (List.mem_of_getElem? (i := 3) rfl)), (uw6 _ (List.mem_of_getElem? (i := 0) rfl)), (uw55 _ (List.mem_of_getElem? (i := 2) rfl))⟩
theorem hd_J7_fill_d0a16 : yJ7_fill_d0a16.cls ≠ "java/lang/invoke/MethodHandle" ∧ yJ7_fill_d0a16.cls ≠ "java/lang/invoke/VarHandle" ∧ (parseMethodDescriptor yJ7_fill_d0a16.desc).map (fun d => d.parameters.length) = some 2 := ⟨by decide +kernel, by decide +kernel, by decide +kernel⟩
theorem hy_X9_cut : Cond.code yX9_cut cX9_cut 3 (some .long) ∈ wsL_law ∧ Cond.initialized yX9_cut.cls ∈ wsL_law ∧ Cond.static yX9_cut ∈ wsL_law := ⟨(uw56 _ (List.mem_of_getElem? (i := 3) rfl)), (uw2 _ (List.mem_of_getElem? (i := 16) rfl)), (uw56 _ (List.mem_of_getElem? (i := 2) rfl))⟩
theorem hd_X9_cut : yX9_cut.cls ≠ "java/lang/invoke/MethodHandle" ∧ yX9_cut.cls ≠ "java/lang/invoke/VarHandle" ∧ (parseMethodDescriptor yX9_cut.desc).map (fun d => d.parameters.length) = some 2 := ⟨by decide +kernel, by decide +kernel, by decide +kernel⟩
theorem hy_X9_hasStretch : Cond.code yX9_hasStretch cX9_hasStretch 4 (some .boolean) ∈ wsL_law ∧ Cond.initialized yX9_hasStretch.cls ∈ wsL_law ∧ Cond.instanceMethod yX9_hasStretch ∈ wsL_law ∧ Cond.selects yX9_hasStretch.cls yX9_hasStretch yX9_hasStretch ∈ wsL_law := ⟨(uw57 _ (List.mem_of_getElem? (i := 9) rfl)), (uw2 _ (List.mem_of_getElem? (i := 16) rfl)), (uw57 _ (List.mem_of_getElem? (i := 7) rfl)), (uw57 _ (List.mem_of_getElem? (i := 8) rfl))⟩
theorem hd_X9_hasStretch : yX9_hasStretch.cls ≠ "java/lang/invoke/MethodHandle" ∧ yX9_hasStretch.cls ≠ "java/lang/invoke/VarHandle" ∧ (parseMethodDescriptor yX9_hasStretch.desc).map (fun d => d.parameters.length) = some 3 := ⟨by decide +kernel, by decide +kernel, by decide +kernel⟩
theorem hy_X9_isBare : Cond.code yX9_isBare cX9_isBare 2 (some .boolean) ∈ wsL_law ∧ Cond.initialized yX9_isBare.cls ∈ wsL_law ∧ Cond.instanceMethod yX9_isBare ∈ wsL_law ∧ Cond.selects yX9_isBare.cls yX9_isBare yX9_isBare ∈ wsL_law := ⟨(uw11 _ (List.mem_of_getElem? (i := 12) rfl)), (uw2 _ (List.mem_of_getElem? (i := 16) rfl)), (uw11 _ (List.mem_of_getElem? (i := 10) rfl)), (uw11 _ (List.mem_of_getElem? (i := 11) rfl))⟩
theorem hd_X9_isBare : yX9_isBare.cls ≠ "java/lang/invoke/MethodHandle" ∧ yX9_isBare.cls ≠ "java/lang/invoke/VarHandle" ∧ (parseMethodDescriptor yX9_isBare.desc).map (fun d => d.parameters.length) = some 1 := ⟨by decide +kernel, by decide +kernel, by decide +kernel⟩
theorem hy_X9_isShelf : Cond.code yX9_isShelf cX9_isShelf 2 (some .boolean) ∈ wsL_law ∧ Cond.initialized yX9_isShelf.cls ∈ wsL_law ∧ Cond.instanceMethod yX9_isShelf ∈ wsL_law ∧ Cond.selects yX9_isShelf.cls yX9_isShelf yX9_isShelf ∈ wsL_law := ⟨(uw11 _ (List.mem_of_getElem? (i := 4) rfl)), (uw2 _ (List.mem_of_getElem? (i := 16) rfl)), (uw11 _ (List.mem_of_getElem? (i := 2) rfl)), (uw11 _ (List.mem_of_getElem? (i := 3) rfl))⟩
theorem hd_X9_isShelf : yX9_isShelf.cls ≠ "java/lang/invoke/MethodHandle" ∧ yX9_isShelf.cls ≠ "java/lang/invoke/VarHandle" ∧ (parseMethodDescriptor yX9_isShelf.desc).map (fun d => d.parameters.length) = some 1 := ⟨by decide +kernel, by decide +kernel, by decide +kernel⟩
theorem hy_X9_sizeOf : Cond.code yX9_sizeOf cX9_sizeOf 2 (some .int) ∈ wsL_law ∧ Cond.initialized yX9_sizeOf.cls ∈ wsL_law ∧ Cond.instanceMethod yX9_sizeOf ∈ wsL_law ∧ Cond.selects yX9_sizeOf.cls yX9_sizeOf yX9_sizeOf ∈ wsL_law := ⟨(uw11 _ (List.mem_of_getElem? (i := 21) rfl)), (uw2 _ (List.mem_of_getElem? (i := 16) rfl)), (uw11 _ (List.mem_of_getElem? (i := 19) rfl)), (uw11 _ (List.mem_of_getElem? (i := 20) rfl))⟩
theorem hd_X9_sizeOf : yX9_sizeOf.cls ≠ "java/lang/invoke/MethodHandle" ∧ yX9_sizeOf.cls ≠ "java/lang/invoke/VarHandle" ∧ (parseMethodDescriptor yX9_sizeOf.desc).map (fun d => d.parameters.length) = some 1 := ⟨by decide +kernel, by decide +kernel, by decide +kernel⟩
theorem hy_X9_sortOf : Cond.code yX9_sortOf cX9_sortOf 2 (some .int) ∈ wsL_law ∧ Cond.initialized yX9_sortOf.cls ∈ wsL_law ∧ Cond.instanceMethod yX9_sortOf ∈ wsL_law ∧ Cond.selects yX9_sortOf.cls yX9_sortOf yX9_sortOf ∈ wsL_law := ⟨(uw11 _ (List.mem_of_getElem? (i := 17) rfl)), (uw2 _ (List.mem_of_getElem? (i := 16) rfl)), (uw11 _ (List.mem_of_getElem? (i := 15) rfl)), (uw11 _ (List.mem_of_getElem? (i := 16) rfl))⟩
theorem hd_X9_sortOf : yX9_sortOf.cls ≠ "java/lang/invoke/MethodHandle" ∧ yX9_sortOf.cls ≠ "java/lang/invoke/VarHandle" ∧ (parseMethodDescriptor yX9_sortOf.desc).map (fun d => d.parameters.length) = some 1 := ⟨by decide +kernel, by decide +kernel, by decide +kernel⟩
theorem ml_X9_32 : Cond.methodLink RX9 32 yX9_isShelf ∈ wsL_law := (uw11 _ (List.mem_of_getElem? (i := 13) rfl))
theorem ml_X9_36 : Cond.methodLink RX9 36 yX9_sortOf ∈ wsL_law := (uw11 _ (List.mem_of_getElem? (i := 14) rfl))
theorem ml_X9_40 : Cond.methodLink RX9 40 yX9_isBare ∈ wsL_law := (uw11 _ (List.mem_of_getElem? (i := 9) rfl))
theorem ml_X9_43 : Cond.methodLink RX9 43 yX9_sizeOf ∈ wsL_law := (uw12 _ (List.mem_of_getElem? (i := 2) rfl))
theorem ml_X9_46 : Cond.methodLink RX9 46 yJ7_fill_d0a16 ∈ wsL_law := (uw55 _ (List.mem_of_getElem? (i := 1) rfl))
theorem ml_X9_49 : Cond.methodLink RX9 49 yX9_cut ∈ wsL_law := (uw56 _ (List.mem_of_getElem? (i := 1) rfl))
theorem ml_X9_53 : Cond.methodLink RX9 53 yX9_hasStretch ∈ wsL_law := (uw57 _ (List.mem_of_getElem? (i := 15) rfl))
abbrev w_Shelves_isShelf (G : zG) (a_this : Nat) (a_sorts : Nat) (a_sizes : Nat) (a_held : Nat) (a_elements : Nat) : va_W := [(a_this, cO 9 [.ref a_sorts, .ref a_sizes, .ref a_held, .ref a_elements])]
def f_Shelves_isShelf (x1 : Int32) : Int32 := (if x1 < 0 then 0 else (if (6 : Int32) ≤ x1 then 0 else 1))
set_option maxRecDepth 100000 in
set_option maxHeartbeats 4000000 in
theorem c_Shelves_isShelf (l : Launch) (G : zG) (a_this : Nat) (a_sorts : Nat) (a_sizes : Nat) (a_held : Nat) (a_elements : Nat) (x1 : Int32) (r_ : Int32) (hf : f_Shelves_isShelf x1 = r_) : zM l yX9_isShelf cX9_isShelf 2 (some .boolean) 0 0 G [.ref a_this, .int x1] (w_Shelves_isShelf G a_this a_sorts a_sizes a_held a_elements) (some (.int r_)) (w_Shelves_isShelf G a_this a_sorts a_sizes a_held a_elements) := by
  refine zM.of [(0, .ref a_this), (1, .int x1)] (own := RX9) rfl (by decide +kernel) (Nat.le_of_ble_eq_true rfl) rfl rfl fun X hX F => ?_
  subst hX
  replace hf := (f_Shelves_isShelf.eq_1 ..).symm.trans hf
  refine z_iload_n F 1 dX9_isShelf_0 rfl rfl ?_
  refine z_if_lt F 14 dX9_isShelf_1 (by decide) hf (fun hf _ => ?_) (fun hf _ => ?_)
  · refine z_iconst F (0) dX9_isShelf_14 rfl ?_
    subst hf
    exact z_iret F rfl rfl rfl rfl dX9_isShelf_15
  · refine z_iload_n F 1 dX9_isShelf_4 rfl rfl ?_
    refine z_bipush F (6) dX9_isShelf_5 rfl ?_
    refine z_icmp_ge F 14 dX9_isShelf_7 (by decide) hf (fun hf _ => ?_) (fun hf _ => ?_)
    · refine z_iconst F (0) dX9_isShelf_14 rfl ?_
      subst hf
      exact z_iret F rfl rfl rfl rfl dX9_isShelf_15
    · refine z_iconst F (1) dX9_isShelf_10 rfl ?_
      refine z_goto F 15 dX9_isShelf_11 (by decide) ?_
      subst hf
      exact z_iret F rfl rfl rfl rfl dX9_isShelf_15

abbrev w_Shelves_isBare (G : zG) (a_this : Nat) (a_sorts : Nat) (a_sizes : Nat) (a_held : Nat) (a_elements : Nat) (sorts : Nat → Int32) : va_W := [(a_this, cO 9 [.ref a_sorts, .ref a_sizes, .ref a_held, .ref a_elements]), (a_sorts, cI G 6 sorts)]
def f_Shelves_isBare (sorts : Nat → Int32) (x1 : Int32) : Option Int32 := (if (f_Shelves_isShelf x1) = 0 then (some 1) else (zg sorts 6 x1 fun v_2 => (if v_2 = (-1) then (some 1) else (some 0))))
set_option maxRecDepth 100000 in
set_option maxHeartbeats 4000000 in
theorem c_Shelves_isBare (l : Launch) (G : zG) (a_this : Nat) (a_sorts : Nat) (a_sizes : Nat) (a_held : Nat) (a_elements : Nat) (sorts : Nat → Int32) (x1 : Int32) (r_ : Int32) (hf : f_Shelves_isBare sorts x1 = some r_) : zM l yX9_isBare cX9_isBare 2 (some .boolean) 1 21 G [.ref a_this, .int x1] (w_Shelves_isBare G a_this a_sorts a_sizes a_held a_elements sorts) (some (.int r_)) (w_Shelves_isBare G a_this a_sorts a_sizes a_held a_elements sorts) := by
  refine zM.of [(0, .ref a_this), (1, .int x1)] (own := RX9) rfl (by decide +kernel) (Nat.le_of_ble_eq_true rfl) rfl rfl fun X hX F => ?_
  subst hX
  replace hf := (f_Shelves_isBare.eq_1 ..).symm.trans hf
  refine z_aload_n F 0 dX9_isBare_0 rfl rfl ?_
  refine z_iload_n F 1 dX9_isBare_1 rfl rfl ?_
  refine z_callVm (rest := []) F 9 (c_Shelves_isShelf (xL X) G a_this a_sorts a_sizes a_held a_elements x1 _ rfl) hy_X9_isShelf ml_X9_32 hd_X9_isShelf ⟨by omega, by omega⟩ rfl [0] rfl rfl 0 rfl rfl (w_Shelves_isBare G a_this a_sorts a_sizes a_held a_elements sorts) [some 0, none] rfl (by decide +kernel) rfl rfl (Nat.le_of_ble_eq_true rfl) dX9_isBare_2 (fun hz_1 => ?_)
  refine z_if_eq F 18 dX9_isBare_5 (by decide) hf (fun hf _ => ?_) (fun hf _ => ?_)
  · refine z_iconst F (1) dX9_isBare_18 rfl ?_
    refine z_goto F 23 dX9_isBare_19 (by decide) ?_
    have ee1 := Option.some.inj hf
    subst ee1
    exact z_iret F rfl rfl rfl rfl dX9_isBare_23
  · refine z_aload_n F 0 dX9_isBare_8 rfl rfl ?_
    refine z_get F 0 9 0 inlX9 rfl rfl (by decide) fl_X9_11 rfl dX9_isBare_9 ?_
    refine z_iload_n F 1 dX9_isBare_12 rfl rfl ?_
    refine z_iald F 1 rfl hf dX9_isBare_13 (fun v_2 hf => ?_)
    refine z_iconst F (-1) dX9_isBare_14 rfl ?_
    refine z_icmp_ne F 22 dX9_isBare_15 (by decide) hf (fun hf _ => ?_) (fun hf _ => ?_)
    · refine z_iconst F (0) dX9_isBare_22 rfl ?_
      have ee1 := Option.some.inj hf
      subst ee1
      exact z_iret F rfl rfl rfl rfl dX9_isBare_23
    · refine z_iconst F (1) dX9_isBare_18 rfl ?_
      refine z_goto F 23 dX9_isBare_19 (by decide) ?_
      have ee1 := Option.some.inj hf
      subst ee1
      exact z_iret F rfl rfl rfl rfl dX9_isBare_23

abbrev w_Shelves_sortOf (G : zG) (a_this : Nat) (a_sorts : Nat) (a_sizes : Nat) (a_held : Nat) (a_elements : Nat) (sorts : Nat → Int32) : va_W := [(a_this, cO 9 [.ref a_sorts, .ref a_sizes, .ref a_held, .ref a_elements]), (a_sorts, cI G 6 sorts)]
def f_Shelves_sortOf (sorts : Nat → Int32) (x1 : Int32) : Option Int32 := (if (f_Shelves_isShelf x1) = 0 then (some (-1)) else (zg sorts 6 x1 fun v_2 => (some v_2)))
set_option maxRecDepth 100000 in
set_option maxHeartbeats 4000000 in
theorem c_Shelves_sortOf (l : Launch) (G : zG) (a_this : Nat) (a_sorts : Nat) (a_sizes : Nat) (a_held : Nat) (a_elements : Nat) (sorts : Nat → Int32) (x1 : Int32) (r_ : Int32) (hf : f_Shelves_sortOf sorts x1 = some r_) : zM l yX9_sortOf cX9_sortOf 2 (some .int) 1 21 G [.ref a_this, .int x1] (w_Shelves_sortOf G a_this a_sorts a_sizes a_held a_elements sorts) (some (.int r_)) (w_Shelves_sortOf G a_this a_sorts a_sizes a_held a_elements sorts) := by
  refine zM.of [(0, .ref a_this), (1, .int x1)] (own := RX9) rfl (by decide +kernel) (Nat.le_of_ble_eq_true rfl) rfl rfl fun X hX F => ?_
  subst hX
  replace hf := (f_Shelves_sortOf.eq_1 ..).symm.trans hf
  refine z_aload_n F 0 dX9_sortOf_0 rfl rfl ?_
  refine z_iload_n F 1 dX9_sortOf_1 rfl rfl ?_
  refine z_callVm (rest := []) F 9 (c_Shelves_isShelf (xL X) G a_this a_sorts a_sizes a_held a_elements x1 _ rfl) hy_X9_isShelf ml_X9_32 hd_X9_isShelf ⟨by omega, by omega⟩ rfl [0] rfl rfl 0 rfl rfl (w_Shelves_sortOf G a_this a_sorts a_sizes a_held a_elements sorts) [some 0, none] rfl (by decide +kernel) rfl rfl (Nat.le_of_ble_eq_true rfl) dX9_sortOf_2 (fun hz_1 => ?_)
  refine z_if_eq F 17 dX9_sortOf_5 (by decide) hf (fun hf _ => ?_) (fun hf _ => ?_)
  · refine z_iconst F (-1) dX9_sortOf_17 rfl ?_
    have ee1 := Option.some.inj hf
    subst ee1
    exact z_iret F rfl rfl rfl rfl dX9_sortOf_18
  · refine z_aload_n F 0 dX9_sortOf_8 rfl rfl ?_
    refine z_get F 0 9 0 inlX9 rfl rfl (by decide) fl_X9_11 rfl dX9_sortOf_9 ?_
    refine z_iload_n F 1 dX9_sortOf_12 rfl rfl ?_
    refine z_iald F 1 rfl hf dX9_sortOf_13 (fun v_2 hf => ?_)
    refine z_goto F 18 dX9_sortOf_14 (by decide) ?_
    have ee1 := Option.some.inj hf
    subst ee1
    exact z_iret F rfl rfl rfl rfl dX9_sortOf_18

abbrev w_Shelves_refusalOfBytes (G : zG) (a_this : Nat) (a_sorts : Nat) (a_sizes : Nat) (a_held : Nat) (a_elements : Nat) (sorts : Nat → Int32) : va_W := [(a_this, cO 9 [.ref a_sorts, .ref a_sizes, .ref a_held, .ref a_elements]), (a_sorts, cI G 6 sorts)]
def f_Shelves_refusalOfBytes (sorts : Nat → Int32) (x1 : Int32) : Option Int32 := (zb1 (f_Shelves_isBare sorts x1) fun r_1 => (if r_1 = 0 then (zb1 (f_Shelves_sortOf sorts x1) fun r_3 => (if r_3 = 0 then (some 0) else (some (-12)))) else (some (-11))))
set_option maxRecDepth 100000 in
set_option maxHeartbeats 4000000 in
theorem c_Shelves_refusalOfBytes (l : Launch) (G : zG) (a_this : Nat) (a_sorts : Nat) (a_sizes : Nat) (a_held : Nat) (a_elements : Nat) (sorts : Nat → Int32) (x1 : Int32) (r_ : Int32) (hf : f_Shelves_refusalOfBytes sorts x1 = some r_) : zM l yX9_refusalOfBytes cX9_refusalOfBytes 2 (some .int) 2 42 G [.ref a_this, .int x1] (w_Shelves_refusalOfBytes G a_this a_sorts a_sizes a_held a_elements sorts) (some (.int r_)) (w_Shelves_refusalOfBytes G a_this a_sorts a_sizes a_held a_elements sorts) := by
  refine zM.of [(0, .ref a_this), (1, .int x1)] (own := RX9) rfl (by decide +kernel) (Nat.le_of_ble_eq_true rfl) rfl rfl fun X hX F => ?_
  subst hX
  replace hf := (f_Shelves_refusalOfBytes.eq_1 ..).symm.trans hf
  refine z_aload_n F 0 dX9_refusalOfBytes_0 rfl rfl ?_
  refine z_iload_n F 1 dX9_refusalOfBytes_1 rfl rfl ?_
  obtain ⟨r_1, hg, hf⟩ := zb1_some hf
  refine z_callVm (rest := []) F 9 (c_Shelves_isBare (xL X) G a_this a_sorts a_sizes a_held a_elements sorts x1 r_1 hg) hy_X9_isBare ml_X9_40 hd_X9_isBare ⟨by omega, by omega⟩ rfl [0, 1] rfl rfl 0 rfl rfl (w_Shelves_refusalOfBytes G a_this a_sorts a_sizes a_held a_elements sorts) [some 0, some 1] rfl (by decide +kernel) rfl rfl (Nat.le_of_ble_eq_true rfl) dX9_refusalOfBytes_2 (fun hz_2 => ?_)
  refine z_if_eq F 11 dX9_refusalOfBytes_5 (by decide) hf (fun hf _ => ?_) (fun hf _ => ?_)
  · refine z_aload_n F 0 dX9_refusalOfBytes_11 rfl rfl ?_
    refine z_iload_n F 1 dX9_refusalOfBytes_12 rfl rfl ?_
    obtain ⟨r_3, hg, hf⟩ := zb1_some hf
    refine z_callVm (rest := []) F 9 (c_Shelves_sortOf (xL X) G a_this a_sorts a_sizes a_held a_elements sorts x1 r_3 hg) hy_X9_sortOf ml_X9_36 hd_X9_sortOf ⟨by omega, by omega⟩ rfl [0, 1] rfl rfl 0 rfl rfl (w_Shelves_refusalOfBytes G a_this a_sorts a_sizes a_held a_elements sorts) [some 0, some 1] rfl (by decide +kernel) rfl rfl (Nat.le_of_ble_eq_true rfl) dX9_refusalOfBytes_13 (fun hz_4 => ?_)
    refine z_if_ne F 23 dX9_refusalOfBytes_16 (by decide) hf (fun hf _ => ?_) (fun hf _ => ?_)
    · refine z_bipush F (-12) dX9_refusalOfBytes_23 rfl ?_
      have ee1 := Option.some.inj hf
      subst ee1
      exact z_iret F rfl rfl rfl rfl dX9_refusalOfBytes_25
    · refine z_iconst F (0) dX9_refusalOfBytes_19 rfl ?_
      refine z_goto F 25 dX9_refusalOfBytes_20 (by decide) ?_
      have ee1 := Option.some.inj hf
      subst ee1
      exact z_iret F rfl rfl rfl rfl dX9_refusalOfBytes_25
  · refine z_bipush F (-11) dX9_refusalOfBytes_8 rfl ?_
    have ee1 := Option.some.inj hf
    subst ee1
    exact z_iret F rfl rfl rfl rfl dX9_refusalOfBytes_10

abbrev w_Shelves_sizeOf (G : zG) (a_this : Nat) (a_sorts : Nat) (a_sizes : Nat) (a_held : Nat) (a_elements : Nat) (sizes : Nat → Int32) : va_W := [(a_this, cO 9 [.ref a_sorts, .ref a_sizes, .ref a_held, .ref a_elements]), (a_sizes, cI G 6 sizes)]
def f_Shelves_sizeOf (sizes : Nat → Int32) (x1 : Int32) : Option Int32 := (if (f_Shelves_isShelf x1) = 0 then (some 0) else (zg sizes 6 x1 fun v_2 => (some v_2)))
set_option maxRecDepth 100000 in
set_option maxHeartbeats 4000000 in
theorem c_Shelves_sizeOf (l : Launch) (G : zG) (a_this : Nat) (a_sorts : Nat) (a_sizes : Nat) (a_held : Nat) (a_elements : Nat) (sizes : Nat → Int32) (x1 : Int32) (r_ : Int32) (hf : f_Shelves_sizeOf sizes x1 = some r_) : zM l yX9_sizeOf cX9_sizeOf 2 (some .int) 1 21 G [.ref a_this, .int x1] (w_Shelves_sizeOf G a_this a_sorts a_sizes a_held a_elements sizes) (some (.int r_)) (w_Shelves_sizeOf G a_this a_sorts a_sizes a_held a_elements sizes) := by
  refine zM.of [(0, .ref a_this), (1, .int x1)] (own := RX9) rfl (by decide +kernel) (Nat.le_of_ble_eq_true rfl) rfl rfl fun X hX F => ?_
  subst hX
  replace hf := (f_Shelves_sizeOf.eq_1 ..).symm.trans hf
  refine z_aload_n F 0 dX9_sizeOf_0 rfl rfl ?_
  refine z_iload_n F 1 dX9_sizeOf_1 rfl rfl ?_
  refine z_callVm (rest := []) F 9 (c_Shelves_isShelf (xL X) G a_this a_sorts a_sizes a_held a_elements x1 _ rfl) hy_X9_isShelf ml_X9_32 hd_X9_isShelf ⟨by omega, by omega⟩ rfl [0] rfl rfl 0 rfl rfl (w_Shelves_sizeOf G a_this a_sorts a_sizes a_held a_elements sizes) [some 0, none] rfl (by decide +kernel) rfl rfl (Nat.le_of_ble_eq_true rfl) dX9_sizeOf_2 (fun hz_1 => ?_)
  refine z_if_eq F 17 dX9_sizeOf_5 (by decide) hf (fun hf _ => ?_) (fun hf _ => ?_)
  · refine z_iconst F (0) dX9_sizeOf_17 rfl ?_
    have ee1 := Option.some.inj hf
    subst ee1
    exact z_iret F rfl rfl rfl rfl dX9_sizeOf_18
  · refine z_aload_n F 0 dX9_sizeOf_8 rfl rfl ?_
    refine z_get F 0 9 1 inlX9 rfl rfl (by decide) fl_X9_21 rfl dX9_sizeOf_9 ?_
    refine z_iload_n F 1 dX9_sizeOf_12 rfl rfl ?_
    refine z_iald F 1 rfl hf dX9_sizeOf_13 (fun v_2 hf => ?_)
    refine z_goto F 18 dX9_sizeOf_14 (by decide) ?_
    have ee1 := Option.some.inj hf
    subst ee1
    exact z_iret F rfl rfl rfl rfl dX9_sizeOf_18

abbrev w_Shelves_valueAt (G : zG) (a_this : Nat) (a_sorts : Nat) (a_sizes : Nat) (a_held : Nat) (a_elements : Nat) (a_elements_e : Nat → Nat) (sizes : Nat → Int32) (elements_e : Nat → (Nat → Int64)) : va_W := [(a_this, cO 9 [.ref a_sorts, .ref a_sizes, .ref a_held, .ref a_elements]), (a_sizes, cI G 6 sizes), (a_elements, cJJ G 6 (fun j => some (a_elements_e j))), ((a_elements_e 0), cJ G 60 (elements_e 0)), ((a_elements_e 1), cJ G 60 (elements_e 1)), ((a_elements_e 2), cJ G 60 (elements_e 2)), ((a_elements_e 3), cJ G 60 (elements_e 3)), ((a_elements_e 4), cJ G 60 (elements_e 4)), ((a_elements_e 5), cJ G 60 (elements_e 5))]
def f_Shelves_valueAt (sizes : Nat → Int32) (elements_e : Nat → (Nat → Int64)) (x1 : Int32) (x2 : Int32) : Option Int64 := (if x2 < 0 then (some 0) else (zb1 (f_Shelves_sizeOf sizes x1) fun r_1 => (if r_1 ≤ x2 then (some 0) else (zg (fun j => j) 6 x1 fun j_3 => (zg (elements_e j_3) 60 x2 fun v_4 => (some v_4))))))
set_option maxRecDepth 100000 in
set_option maxHeartbeats 4000000 in
theorem c_Shelves_valueAt (l : Launch) (G : zG) (a_this : Nat) (a_sorts : Nat) (a_sizes : Nat) (a_held : Nat) (a_elements : Nat) (a_elements_e : Nat → Nat) (sizes : Nat → Int32) (elements_e : Nat → (Nat → Int64)) (x1 : Int32) (x2 : Int32) (r_ : Int64) (hf : f_Shelves_valueAt sizes elements_e x1 x2 = some r_) : zM l yX9_valueAt cX9_valueAt 3 (some .long) 2 42 G [.ref a_this, .int x1, .int x2] (w_Shelves_valueAt G a_this a_sorts a_sizes a_held a_elements a_elements_e sizes elements_e) (some (.long r_)) (w_Shelves_valueAt G a_this a_sorts a_sizes a_held a_elements a_elements_e sizes elements_e) := by
  refine zM.of [(0, .ref a_this), (1, .int x1), (2, .int x2)] (own := RX9) rfl (by decide +kernel) (Nat.le_of_ble_eq_true rfl) rfl rfl fun X hX F => ?_
  subst hX
  replace hf := (f_Shelves_valueAt.eq_1 ..).symm.trans hf
  refine z_iload_n F 2 dX9_valueAt_0 rfl rfl ?_
  refine z_if_lt F 24 dX9_valueAt_1 (by decide) hf (fun hf _ => ?_) (fun hf _ => ?_)
  · refine z_lconst F (0) dX9_valueAt_24 rfl ?_
    have ee1 := Option.some.inj hf
    subst ee1
    exact z_lret F rfl rfl rfl dX9_valueAt_25
  · refine z_iload_n F 2 dX9_valueAt_4 rfl rfl ?_
    refine z_aload_n F 0 dX9_valueAt_5 rfl rfl ?_
    refine z_iload_n F 1 dX9_valueAt_6 rfl rfl ?_
    obtain ⟨r_1, hg, hf⟩ := zb1_some hf
    refine z_callVm (rest := [.int x2]) F 9 (c_Shelves_sizeOf (xL X) G a_this a_sorts a_sizes a_held a_elements sizes x1 r_1 hg) hy_X9_sizeOf ml_X9_43 hd_X9_sizeOf ⟨by omega, by omega⟩ rfl [0, 1] rfl rfl 0 rfl rfl (w_Shelves_valueAt G a_this a_sorts a_sizes a_held a_elements a_elements_e sizes elements_e) [some 0, some 1, none, none, none, none, none, none, none] rfl (by decide +kernel) rfl rfl (Nat.le_of_ble_eq_true rfl) dX9_valueAt_7 (fun hz_2 => ?_)
    refine z_icmp_ge F 24 dX9_valueAt_10 (by decide) hf (fun hf _ => ?_) (fun hf _ => ?_)
    · refine z_lconst F (0) dX9_valueAt_24 rfl ?_
      have ee1 := Option.some.inj hf
      subst ee1
      exact z_lret F rfl rfl rfl dX9_valueAt_25
    · refine z_aload_n F 0 dX9_valueAt_13 rfl rfl ?_
      refine z_get F 0 9 3 inlX9 rfl rfl (by decide) fl_X9_29 rfl dX9_valueAt_14 ?_
      refine z_iload_n F 1 dX9_valueAt_17 rfl rfl ?_
      refine z_aald F 2 4 rfl rfl rfl hf dX9_valueAt_18 (fun j_3 hj_3 hf => ?_)
      refine z_iload_n F 2 dX9_valueAt_19 rfl rfl ?_
      refine z_lald F (3 + 1 * j_3) (by match j_3, hj_3 with | 0, _ => exact rfl | 1, _ => exact rfl | 2, _ => exact rfl | 3, _ => exact rfl | 4, _ => exact rfl | 5, _ => exact rfl) hf dX9_valueAt_20 (fun v_4 hf => ?_)
      refine z_goto F 25 dX9_valueAt_21 (by decide) ?_
      have ee1 := Option.some.inj hf
      subst ee1
      exact z_lret F rfl rfl rfl dX9_valueAt_25

abbrev w_Shelves_hold (G : zG) (a_this : Nat) (a_sorts : Nat) (a_sizes : Nat) (a_held : Nat) (a_elements : Nat) (sorts : Nat → Int32) (sizes : Nat → Int32) (held : Nat → Int32) : va_W := [(a_this, cO 9 [.ref a_sorts, .ref a_sizes, .ref a_held, .ref a_elements]), (a_sorts, cI G 6 sorts), (a_sizes, cI G 6 sizes), (a_held, cI G 6 held)]
def f_Shelves_hold (sorts : Nat → Int32) (sizes : Nat → Int32) (held : Nat → Int32) (x1 : Int32) (x2 : Int32) : Option ((Nat → Int32) × (Nat → Int32) × (Nat → Int32)) := (if (f_Shelves_isShelf x1) = 0 then (some (sorts, sizes, held)) else (if (0 : Int32) ≤ x2 then (zs sorts 6 x1 5 fun sorts_2 => (zs sizes 6 x1 0 fun sizes_3 => (zs held 6 x1 x2 fun held_4 => (some (sorts_2, sizes_3, held_4))))) else (zs sorts 6 x1 (-1) fun sorts_5 => (zs sizes 6 x1 0 fun sizes_6 => (zs held 6 x1 x2 fun held_7 => (some (sorts_5, sizes_6, held_7)))))))
set_option maxRecDepth 100000 in
set_option maxHeartbeats 4000000 in
theorem c_Shelves_hold (l : Launch) (G : zG) (a_this : Nat) (a_sorts : Nat) (a_sizes : Nat) (a_held : Nat) (a_elements : Nat) (sorts : Nat → Int32) (sizes : Nat → Int32) (held : Nat → Int32) (x1 : Int32) (x2 : Int32) (o_sorts : Nat → Int32) (o_sizes : Nat → Int32) (o_held : Nat → Int32) (hf : f_Shelves_hold sorts sizes held x1 x2 = some (o_sorts, o_sizes, o_held)) : zM l yX9_hold cX9_hold 3 none 1 21 G [.ref a_this, .int x1, .int x2] (w_Shelves_hold G a_this a_sorts a_sizes a_held a_elements sorts sizes held) (none) (w_Shelves_hold G a_this a_sorts a_sizes a_held a_elements o_sorts o_sizes o_held) := by
  refine zM.of [(0, .ref a_this), (1, .int x1), (2, .int x2)] (own := RX9) rfl (by decide +kernel) (Nat.le_of_ble_eq_true rfl) rfl rfl fun X hX F => ?_
  subst hX
  replace hf := (f_Shelves_hold.eq_1 ..).symm.trans hf
  refine z_aload_n F 0 dX9_hold_0 rfl rfl ?_
  refine z_iload_n F 1 dX9_hold_1 rfl rfl ?_
  refine z_callVm (rest := []) F 9 (c_Shelves_isShelf (xL X) G a_this a_sorts a_sizes a_held a_elements x1 _ rfl) hy_X9_isShelf ml_X9_32 hd_X9_isShelf ⟨by omega, by omega⟩ rfl [0] rfl rfl 0 rfl rfl (w_Shelves_hold G a_this a_sorts a_sizes a_held a_elements sorts sizes held) [some 0, none, none, none] rfl (by decide +kernel) rfl rfl (Nat.le_of_ble_eq_true rfl) dX9_hold_2 (fun hz_1 => ?_)
  refine z_if_eq F 37 dX9_hold_5 (by decide) hf (fun hf _ => ?_) (fun hf _ => ?_)
  · have eq1 := Option.some.inj hf
    obtain ⟨ee1, eq2⟩ := Prod.mk.inj eq1
    obtain ⟨ee2, ee3⟩ := Prod.mk.inj eq2
    subst ee1
    subst ee2
    subst ee3
    exact z_vret F rfl rfl rfl dX9_hold_37
  · refine z_aload_n F 0 dX9_hold_8 rfl rfl ?_
    refine z_get F 0 9 0 inlX9 rfl rfl (by decide) fl_X9_11 rfl dX9_hold_9 ?_
    refine z_iload_n F 1 dX9_hold_12 rfl rfl ?_
    refine z_iload_n F 2 dX9_hold_13 rfl rfl ?_
    refine z_if_ge F 21 dX9_hold_14 (by decide) hf (fun hf _ => ?_) (fun hf _ => ?_)
    · refine z_iconst F (5) dX9_hold_21 rfl ?_
      refine z_iast F 1 (fun sorts_2 => (w_Shelves_hold G a_this a_sorts a_sizes a_held a_elements sorts_2 sizes held)) rfl hf (fun _ => rfl) dX9_hold_22 (fun sorts_2 hf => ?_)
      refine z_aload_n F 0 dX9_hold_23 rfl rfl ?_
      refine z_get F 0 9 1 inlX9 rfl rfl (by decide) fl_X9_21 rfl dX9_hold_24 ?_
      refine z_iload_n F 1 dX9_hold_27 rfl rfl ?_
      refine z_iconst F (0) dX9_hold_28 rfl ?_
      refine z_iast F 2 (fun sizes_3 => (w_Shelves_hold G a_this a_sorts a_sizes a_held a_elements sorts_2 sizes_3 held)) rfl hf (fun _ => rfl) dX9_hold_29 (fun sizes_3 hf => ?_)
      refine z_aload_n F 0 dX9_hold_30 rfl rfl ?_
      refine z_get F 0 9 2 inlX9 rfl rfl (by decide) fl_X9_24 rfl dX9_hold_31 ?_
      refine z_iload_n F 1 dX9_hold_34 rfl rfl ?_
      refine z_iload_n F 2 dX9_hold_35 rfl rfl ?_
      refine z_iast F 3 (fun held_4 => (w_Shelves_hold G a_this a_sorts a_sizes a_held a_elements sorts_2 sizes_3 held_4)) rfl hf (fun _ => rfl) dX9_hold_36 (fun held_4 hf => ?_)
      have eq1 := Option.some.inj hf
      obtain ⟨ee1, eq2⟩ := Prod.mk.inj eq1
      obtain ⟨ee2, ee3⟩ := Prod.mk.inj eq2
      subst ee1
      subst ee2
      subst ee3
      exact z_vret F rfl rfl rfl dX9_hold_37
    · refine z_iconst F (-1) dX9_hold_17 rfl ?_
      refine z_goto F 22 dX9_hold_18 (by decide) ?_
      refine z_iast F 1 (fun sorts_5 => (w_Shelves_hold G a_this a_sorts a_sizes a_held a_elements sorts_5 sizes held)) rfl hf (fun _ => rfl) dX9_hold_22 (fun sorts_5 hf => ?_)
      refine z_aload_n F 0 dX9_hold_23 rfl rfl ?_
      refine z_get F 0 9 1 inlX9 rfl rfl (by decide) fl_X9_21 rfl dX9_hold_24 ?_
      refine z_iload_n F 1 dX9_hold_27 rfl rfl ?_
      refine z_iconst F (0) dX9_hold_28 rfl ?_
      refine z_iast F 2 (fun sizes_6 => (w_Shelves_hold G a_this a_sorts a_sizes a_held a_elements sorts_5 sizes_6 held)) rfl hf (fun _ => rfl) dX9_hold_29 (fun sizes_6 hf => ?_)
      refine z_aload_n F 0 dX9_hold_30 rfl rfl ?_
      refine z_get F 0 9 2 inlX9 rfl rfl (by decide) fl_X9_24 rfl dX9_hold_31 ?_
      refine z_iload_n F 1 dX9_hold_34 rfl rfl ?_
      refine z_iload_n F 2 dX9_hold_35 rfl rfl ?_
      refine z_iast F 3 (fun held_7 => (w_Shelves_hold G a_this a_sorts a_sizes a_held a_elements sorts_5 sizes_6 held_7)) rfl hf (fun _ => rfl) dX9_hold_36 (fun held_7 hf => ?_)
      have eq1 := Option.some.inj hf
      obtain ⟨ee1, eq2⟩ := Prod.mk.inj eq1
      obtain ⟨ee2, ee3⟩ := Prod.mk.inj eq2
      subst ee1
      subst ee2
      subst ee3
      exact z_vret F rfl rfl rfl dX9_hold_37

abbrev w_Shelves_holdRow (G : zG) (a_this : Nat) (a_sorts : Nat) (a_sizes : Nat) (a_held : Nat) (a_elements : Nat) (a_elements_e : Nat → Nat) (sorts : Nat → Int32) (sizes : Nat → Int32) (elements_e : Nat → (Nat → Int64)) : va_W := [(a_this, cO 9 [.ref a_sorts, .ref a_sizes, .ref a_held, .ref a_elements]), (a_sorts, cI G 6 sorts), (a_sizes, cI G 6 sizes), (a_elements, cJJ G 6 (fun j => some (a_elements_e j))), ((a_elements_e 0), cJ G 60 (elements_e 0)), ((a_elements_e 1), cJ G 60 (elements_e 1)), ((a_elements_e 2), cJ G 60 (elements_e 2)), ((a_elements_e 3), cJ G 60 (elements_e 3)), ((a_elements_e 4), cJ G 60 (elements_e 4)), ((a_elements_e 5), cJ G 60 (elements_e 5))]
def f_Shelves_holdRow (sorts : Nat → Int32) (sizes : Nat → Int32) (elements_e : Nat → (Nat → Int64)) (x1 : Int32) (x2 : Int32) (x3 : Int32) : Option ((Nat → Int32) × (Nat → Int32) × (Nat → (Nat → Int64))) := (if (f_Shelves_isShelf x1) = 0 then (some (sorts, sizes, elements_e)) else (if x3 < 0 then (some (sorts, sizes, elements_e)) else (if (60 : Int32) < x3 then (some (sorts, sizes, elements_e)) else (zs sorts 6 x1 x2 fun sorts_2 => (zs sizes 6 x1 x3 fun sizes_3 => (zg (fun j => j) 6 x1 fun j_4 => (zb1 (f_Arr_fillJ 60 (elements_e j_4) 0) fun elements_e_5 => (some (sorts_2, sizes_3, (va_up elements_e j_4 elements_e_5))))))))))
set_option maxRecDepth 100000 in
set_option maxHeartbeats 4000000 in
theorem c_Shelves_holdRow (l : Launch) (G : zG) (a_this : Nat) (a_sorts : Nat) (a_sizes : Nat) (a_held : Nat) (a_elements : Nat) (a_elements_e : Nat → Nat) (sorts : Nat → Int32) (sizes : Nat → Int32) (elements_e : Nat → (Nat → Int64)) (x1 : Int32) (x2 : Int32) (x3 : Int32) (o_sorts : Nat → Int32) (o_sizes : Nat → Int32) (o_elements_e : Nat → (Nat → Int64)) (hf : f_Shelves_holdRow sorts sizes elements_e x1 x2 x3 = some (o_sorts, o_sizes, o_elements_e)) : zM l yX9_holdRow cX9_holdRow 4 none 1 24 G [.ref a_this, .int x1, .int x2, .int x3] (w_Shelves_holdRow G a_this a_sorts a_sizes a_held a_elements a_elements_e sorts sizes elements_e) (none) (w_Shelves_holdRow G a_this a_sorts a_sizes a_held a_elements a_elements_e o_sorts o_sizes o_elements_e) := by
  refine zM.of [(0, .ref a_this), (1, .int x1), (2, .int x2), (3, .int x3)] (own := RX9) rfl (by decide +kernel) (Nat.le_of_ble_eq_true rfl) rfl rfl fun X hX F => ?_
  subst hX
  replace hf := (f_Shelves_holdRow.eq_1 ..).symm.trans hf
  refine z_aload_n F 0 dX9_holdRow_0 rfl rfl ?_
  refine z_iload_n F 1 dX9_holdRow_1 rfl rfl ?_
  refine z_callVm (rest := []) F 9 (c_Shelves_isShelf (xL X) G a_this a_sorts a_sizes a_held a_elements x1 _ rfl) hy_X9_isShelf ml_X9_32 hd_X9_isShelf ⟨by omega, by omega⟩ rfl [0] rfl rfl 0 rfl rfl (w_Shelves_holdRow G a_this a_sorts a_sizes a_held a_elements a_elements_e sorts sizes elements_e) [some 0, none, none, none, none, none, none, none, none, none] rfl (by decide +kernel) rfl rfl (Nat.le_of_ble_eq_true rfl) dX9_holdRow_2 (fun hz_1 => ?_)
  refine z_if_eq F 42 dX9_holdRow_5 (by decide) hf (fun hf _ => ?_) (fun hf _ => ?_)
  · have eq1 := Option.some.inj hf
    obtain ⟨ee1, eq2⟩ := Prod.mk.inj eq1
    obtain ⟨ee2, ee3⟩ := Prod.mk.inj eq2
    subst ee1
    subst ee2
    subst ee3
    exact z_vret F rfl rfl rfl dX9_holdRow_42
  · refine z_iload_n F 3 dX9_holdRow_8 rfl rfl ?_
    refine z_if_lt F 42 dX9_holdRow_9 (by decide) hf (fun hf _ => ?_) (fun hf _ => ?_)
    · have eq1 := Option.some.inj hf
      obtain ⟨ee1, eq2⟩ := Prod.mk.inj eq1
      obtain ⟨ee2, ee3⟩ := Prod.mk.inj eq2
      subst ee1
      subst ee2
      subst ee3
      exact z_vret F rfl rfl rfl dX9_holdRow_42
    · refine z_iload_n F 3 dX9_holdRow_12 rfl rfl ?_
      refine z_bipush F (60) dX9_holdRow_13 rfl ?_
      refine z_icmp_gt F 42 dX9_holdRow_15 (by decide) hf (fun hf _ => ?_) (fun hf _ => ?_)
      · have eq1 := Option.some.inj hf
        obtain ⟨ee1, eq2⟩ := Prod.mk.inj eq1
        obtain ⟨ee2, ee3⟩ := Prod.mk.inj eq2
        subst ee1
        subst ee2
        subst ee3
        exact z_vret F rfl rfl rfl dX9_holdRow_42
      · refine z_aload_n F 0 dX9_holdRow_18 rfl rfl ?_
        refine z_get F 0 9 0 inlX9 rfl rfl (by decide) fl_X9_11 rfl dX9_holdRow_19 ?_
        refine z_iload_n F 1 dX9_holdRow_22 rfl rfl ?_
        refine z_iload_n F 2 dX9_holdRow_23 rfl rfl ?_
        refine z_iast F 1 (fun sorts_2 => (w_Shelves_holdRow G a_this a_sorts a_sizes a_held a_elements a_elements_e sorts_2 sizes elements_e)) rfl hf (fun _ => rfl) dX9_holdRow_24 (fun sorts_2 hf => ?_)
        refine z_aload_n F 0 dX9_holdRow_25 rfl rfl ?_
        refine z_get F 0 9 1 inlX9 rfl rfl (by decide) fl_X9_21 rfl dX9_holdRow_26 ?_
        refine z_iload_n F 1 dX9_holdRow_29 rfl rfl ?_
        refine z_iload_n F 3 dX9_holdRow_30 rfl rfl ?_
        refine z_iast F 2 (fun sizes_3 => (w_Shelves_holdRow G a_this a_sorts a_sizes a_held a_elements a_elements_e sorts_2 sizes_3 elements_e)) rfl hf (fun _ => rfl) dX9_holdRow_31 (fun sizes_3 hf => ?_)
        refine z_aload_n F 0 dX9_holdRow_32 rfl rfl ?_
        refine z_get F 0 9 3 inlX9 rfl rfl (by decide) fl_X9_29 rfl dX9_holdRow_33 ?_
        refine z_iload_n F 1 dX9_holdRow_36 rfl rfl ?_
        refine z_aald F 3 4 rfl rfl rfl hf dX9_holdRow_37 (fun j_4 hj_4 hf => ?_)
        refine z_lconst F (0) dX9_holdRow_38 rfl ?_
        obtain ⟨elements_e_5, hg, hf⟩ := zb1_some hf
        refine z_callS (rest := []) F (c_Arr_fillJ (xL X) G 60 (a_elements_e j_4) (elements_e j_4) 0 elements_e_5 hg) hy_J7_fill_d0a16 ml_X9_46 hd_J7_fill_d0a16 ⟨by omega, by omega⟩ rfl [4 + 1 * j_4] (by match j_4, hj_4 with | 0, _ => exact rfl | 1, _ => exact rfl | 2, _ => exact rfl | 3, _ => exact rfl | 4, _ => exact rfl | 5, _ => exact rfl) (by match j_4, hj_4 with | 0, _ => exact rfl | 1, _ => exact rfl | 2, _ => exact rfl | 3, _ => exact rfl | 4, _ => exact rfl | 5, _ => exact rfl) (w_Shelves_holdRow G a_this a_sorts a_sizes a_held a_elements a_elements_e sorts_2 sizes_3 (va_up elements_e j_4 elements_e_5)) (by match j_4, hj_4 with | 0, _ => exact rfl | 1, _ => exact rfl | 2, _ => exact rfl | 3, _ => exact rfl | 4, _ => exact rfl | 5, _ => exact rfl) rfl (Nat.le_of_ble_eq_true rfl) dX9_holdRow_39 (fun hz_6 => ?_)
        have eq1 := Option.some.inj hf
        obtain ⟨ee1, eq2⟩ := Prod.mk.inj eq1
        obtain ⟨ee2, ee3⟩ := Prod.mk.inj eq2
        subst ee1
        subst ee2
        subst ee3
        exact z_vret F rfl rfl rfl dX9_holdRow_42

abbrev w_Shelves_isRow (G : zG) (a_this : Nat) (a_sorts : Nat) (a_sizes : Nat) (a_held : Nat) (a_elements : Nat) (sorts : Nat → Int32) : va_W := [(a_this, cO 9 [.ref a_sorts, .ref a_sizes, .ref a_held, .ref a_elements]), (a_sorts, cI G 6 sorts)]
def f_Shelves_isRow (sorts : Nat → Int32) (x1 : Int32) : Option Int32 := (if (f_Shelves_isShelf x1) = 0 then (some 0) else (zg sorts 6 x1 fun v_2 => (if v_2 < 0 then (some 0) else (zg sorts 6 x1 fun v_3 => (if (4 : Int32) < v_3 then (some 0) else (some 1))))))
set_option maxRecDepth 100000 in
set_option maxHeartbeats 4000000 in
theorem c_Shelves_isRow (l : Launch) (G : zG) (a_this : Nat) (a_sorts : Nat) (a_sizes : Nat) (a_held : Nat) (a_elements : Nat) (sorts : Nat → Int32) (x1 : Int32) (r_ : Int32) (hf : f_Shelves_isRow sorts x1 = some r_) : zM l yX9_isRow cX9_isRow 2 (some .boolean) 1 21 G [.ref a_this, .int x1] (w_Shelves_isRow G a_this a_sorts a_sizes a_held a_elements sorts) (some (.int r_)) (w_Shelves_isRow G a_this a_sorts a_sizes a_held a_elements sorts) := by
  refine zM.of [(0, .ref a_this), (1, .int x1)] (own := RX9) rfl (by decide +kernel) (Nat.le_of_ble_eq_true rfl) rfl rfl fun X hX F => ?_
  subst hX
  replace hf := (f_Shelves_isRow.eq_1 ..).symm.trans hf
  refine z_aload_n F 0 dX9_isRow_0 rfl rfl ?_
  refine z_iload_n F 1 dX9_isRow_1 rfl rfl ?_
  refine z_callVm (rest := []) F 9 (c_Shelves_isShelf (xL X) G a_this a_sorts a_sizes a_held a_elements x1 _ rfl) hy_X9_isShelf ml_X9_32 hd_X9_isShelf ⟨by omega, by omega⟩ rfl [0] rfl rfl 0 rfl rfl (w_Shelves_isRow G a_this a_sorts a_sizes a_held a_elements sorts) [some 0, none] rfl (by decide +kernel) rfl rfl (Nat.le_of_ble_eq_true rfl) dX9_isRow_2 (fun hz_1 => ?_)
  refine z_if_eq F 31 dX9_isRow_5 (by decide) hf (fun hf _ => ?_) (fun hf _ => ?_)
  · refine z_iconst F (0) dX9_isRow_31 rfl ?_
    have ee1 := Option.some.inj hf
    subst ee1
    exact z_iret F rfl rfl rfl rfl dX9_isRow_32
  · refine z_aload_n F 0 dX9_isRow_8 rfl rfl ?_
    refine z_get F 0 9 0 inlX9 rfl rfl (by decide) fl_X9_11 rfl dX9_isRow_9 ?_
    refine z_iload_n F 1 dX9_isRow_12 rfl rfl ?_
    refine z_iald F 1 rfl hf dX9_isRow_13 (fun v_2 hf => ?_)
    refine z_if_lt F 31 dX9_isRow_14 (by decide) hf (fun hf _ => ?_) (fun hf _ => ?_)
    · refine z_iconst F (0) dX9_isRow_31 rfl ?_
      have ee1 := Option.some.inj hf
      subst ee1
      exact z_iret F rfl rfl rfl rfl dX9_isRow_32
    · refine z_aload_n F 0 dX9_isRow_17 rfl rfl ?_
      refine z_get F 0 9 0 inlX9 rfl rfl (by decide) fl_X9_11 rfl dX9_isRow_18 ?_
      refine z_iload_n F 1 dX9_isRow_21 rfl rfl ?_
      refine z_iald F 1 rfl hf dX9_isRow_22 (fun v_3 hf => ?_)
      refine z_iconst F (4) dX9_isRow_23 rfl ?_
      refine z_icmp_gt F 31 dX9_isRow_24 (by decide) hf (fun hf _ => ?_) (fun hf _ => ?_)
      · refine z_iconst F (0) dX9_isRow_31 rfl ?_
        have ee1 := Option.some.inj hf
        subst ee1
        exact z_iret F rfl rfl rfl rfl dX9_isRow_32
      · refine z_iconst F (1) dX9_isRow_27 rfl ?_
        refine z_goto F 32 dX9_isRow_28 (by decide) ?_
        have ee1 := Option.some.inj hf
        subst ee1
        exact z_iret F rfl rfl rfl rfl dX9_isRow_32

abbrev w_Shelves_cut (G : zG) : va_W := []
def f_Shelves_cut (x0 : Int32) (x1 : Int64) : Int64 := (if x0 = 0 then (Int32.toInt64 (Int32.toInt8 (Int64.toInt32 x1)).toInt32) else (if x0 = 1 then (Int32.toInt64 (Int32.toInt16 (Int64.toInt32 x1)).toInt32) else (if x0 = 2 then (Int32.toInt64 (Int64.toInt32 x1)) else (if x0 = 3 then x1 else (if x0 = 4 then (if (lg_cmp x1 0) = 0 then 0 else 1) else x1)))))
set_option maxRecDepth 100000 in
set_option maxHeartbeats 4000000 in
theorem c_Shelves_cut (l : Launch) (G : zG) (x0 : Int32) (x1 : Int64) (r_ : Int64) (hf : f_Shelves_cut x0 x1 = r_) : zM l yX9_cut cX9_cut 3 (some .long) 0 0 G [.int x0, .long x1] (w_Shelves_cut G) (some (.long r_)) (w_Shelves_cut G) := by
  refine zM.of [(0, .int x0), (1, .long x1)] (own := RX9) rfl (by decide +kernel) (Nat.le_of_ble_eq_true rfl) rfl rfl fun X hX F => ?_
  subst hX
  replace hf := (f_Shelves_cut.eq_1 ..).symm.trans hf
  refine z_iload_n F 0 dX9_cut_0 rfl rfl ?_
  by_cases hc_1 : x0 = 0
  · replace hf := zif_t hf hc_1
    refine z_tabIn (off := 35) F 36 dX9_cut_1 (by rw [hc_1]; decide +kernel) (by rw [hc_1]; decide +kernel) (by rw [hc_1]; decide +kernel) (by decide) ?_
    refine z_lload_n F 1 dX9_cut_36 rfl rfl ?_
    refine z_l2i F dX9_cut_37 ?_
    refine z_i2b F dX9_cut_38 ?_
    refine z_i2l F dX9_cut_39 ?_
    subst hf
    exact z_lret F rfl rfl rfl dX9_cut_40
  · replace hf := zif_f hf hc_1
    by_cases hc_2 : x0 = 1
    · replace hf := zif_t hf hc_2
      refine z_tabIn (off := 40) F 41 dX9_cut_1 (by rw [hc_2]; decide +kernel) (by rw [hc_2]; decide +kernel) (by rw [hc_2]; decide +kernel) (by decide) ?_
      refine z_lload_n F 1 dX9_cut_41 rfl rfl ?_
      refine z_l2i F dX9_cut_42 ?_
      refine z_i2s F dX9_cut_43 ?_
      refine z_i2l F dX9_cut_44 ?_
      subst hf
      exact z_lret F rfl rfl rfl dX9_cut_45
    · replace hf := zif_f hf hc_2
      by_cases hc_3 : x0 = 2
      · replace hf := zif_t hf hc_3
        refine z_tabIn (off := 45) F 46 dX9_cut_1 (by rw [hc_3]; decide +kernel) (by rw [hc_3]; decide +kernel) (by rw [hc_3]; decide +kernel) (by decide) ?_
        refine z_lload_n F 1 dX9_cut_46 rfl rfl ?_
        refine z_l2i F dX9_cut_47 ?_
        refine z_i2l F dX9_cut_48 ?_
        subst hf
        exact z_lret F rfl rfl rfl dX9_cut_49
      · replace hf := zif_f hf hc_3
        by_cases hc_4 : x0 = 3
        · replace hf := zif_t hf hc_4
          refine z_tabIn (off := 61) F 62 dX9_cut_1 (by rw [hc_4]; decide +kernel) (by rw [hc_4]; decide +kernel) (by rw [hc_4]; decide +kernel) (by decide) ?_
          refine z_lload_n F 1 dX9_cut_62 rfl rfl ?_
          subst hf
          exact z_lret F rfl rfl rfl dX9_cut_63
        · replace hf := zif_f hf hc_4
          by_cases hc_5 : x0 = 4
          · replace hf := zif_t hf hc_5
            refine z_tabIn (off := 49) F 50 dX9_cut_1 (by rw [hc_5]; decide +kernel) (by rw [hc_5]; decide +kernel) (by rw [hc_5]; decide +kernel) (by decide) ?_
            refine z_lload_n F 1 dX9_cut_50 rfl rfl ?_
            refine z_lconst F (0) dX9_cut_51 rfl ?_
            refine z_lcmp F dX9_cut_52 ?_
            refine z_if_eq F 60 dX9_cut_53 (by decide) hf (fun hf _ => ?_) (fun hf _ => ?_)
            · refine z_lconst F (0) dX9_cut_60 rfl ?_
              subst hf
              exact z_lret F rfl rfl rfl dX9_cut_61
            · refine z_lconst F (1) dX9_cut_56 rfl ?_
              refine z_goto F 61 dX9_cut_57 (by decide) ?_
              subst hf
              exact z_lret F rfl rfl rfl dX9_cut_61
          · replace hf := zif_f hf hc_5
            refine z_tabOut F 62 dX9_cut_1 (by have := zne hc_1 (c := 0) (k := 0) rfl; have := zne hc_2 (c := 1) (k := 1) rfl; have := zne hc_3 (c := 2) (k := 2) rfl; have := zne hc_4 (c := 3) (k := 3) rfl; have := zne hc_5 (c := 4) (k := 4) rfl; omega) (by decide) ?_
            refine z_lload_n F 1 dX9_cut_62 rfl rfl ?_
            subst hf
            exact z_lret F rfl rfl rfl dX9_cut_63

abbrev w_Shelves_change (G : zG) (a_this : Nat) (a_sorts : Nat) (a_sizes : Nat) (a_held : Nat) (a_elements : Nat) (a_elements_e : Nat → Nat) (sorts : Nat → Int32) (sizes : Nat → Int32) (elements_e : Nat → (Nat → Int64)) : va_W := [(a_this, cO 9 [.ref a_sorts, .ref a_sizes, .ref a_held, .ref a_elements]), (a_sorts, cI G 6 sorts), (a_sizes, cI G 6 sizes), (a_elements, cJJ G 6 (fun j => some (a_elements_e j))), ((a_elements_e 0), cJ G 60 (elements_e 0)), ((a_elements_e 1), cJ G 60 (elements_e 1)), ((a_elements_e 2), cJ G 60 (elements_e 2)), ((a_elements_e 3), cJ G 60 (elements_e 3)), ((a_elements_e 4), cJ G 60 (elements_e 4)), ((a_elements_e 5), cJ G 60 (elements_e 5))]
def f_Shelves_change (sorts : Nat → Int32) (sizes : Nat → Int32) (elements_e : Nat → (Nat → Int64)) (x1 : Int32) (x2 : Int32) (x3 : Int64) : Option ((Nat → (Nat → Int64))) := (if x2 < 0 then (some elements_e) else (zb1 (f_Shelves_sizeOf sizes x1) fun r_1 => (if r_1 ≤ x2 then (some elements_e) else (zg (fun j => j) 6 x1 fun j_3 => (zg sorts 6 x1 fun v_4 => (zsJ (elements_e j_3) 60 x2 (f_Shelves_cut v_4 x3) fun elements_e_6 => (some (va_up elements_e j_3 elements_e_6))))))))
set_option maxRecDepth 100000 in
set_option maxHeartbeats 4000000 in
theorem c_Shelves_change (l : Launch) (G : zG) (a_this : Nat) (a_sorts : Nat) (a_sizes : Nat) (a_held : Nat) (a_elements : Nat) (a_elements_e : Nat → Nat) (sorts : Nat → Int32) (sizes : Nat → Int32) (elements_e : Nat → (Nat → Int64)) (x1 : Int32) (x2 : Int32) (x3 : Int64) (o_elements_e : Nat → (Nat → Int64)) (hf : f_Shelves_change sorts sizes elements_e x1 x2 x3 = some o_elements_e) : zM l yX9_change cX9_change 5 none 2 42 G [.ref a_this, .int x1, .int x2, .long x3] (w_Shelves_change G a_this a_sorts a_sizes a_held a_elements a_elements_e sorts sizes elements_e) (none) (w_Shelves_change G a_this a_sorts a_sizes a_held a_elements a_elements_e sorts sizes o_elements_e) := by
  refine zM.of [(0, .ref a_this), (1, .int x1), (2, .int x2), (3, .long x3)] (own := RX9) rfl (by decide +kernel) (Nat.le_of_ble_eq_true rfl) rfl rfl fun X hX F => ?_
  subst hX
  replace hf := (f_Shelves_change.eq_1 ..).symm.trans hf
  refine z_iload_n F 2 dX9_change_0 rfl rfl ?_
  refine z_if_lt F 31 dX9_change_1 (by decide) hf (fun hf _ => ?_) (fun hf _ => ?_)
  · have ee1 := Option.some.inj hf
    subst ee1
    exact z_vret F rfl rfl rfl dX9_change_31
  · refine z_iload_n F 2 dX9_change_4 rfl rfl ?_
    refine z_aload_n F 0 dX9_change_5 rfl rfl ?_
    refine z_iload_n F 1 dX9_change_6 rfl rfl ?_
    obtain ⟨r_1, hg, hf⟩ := zb1_some hf
    refine z_callVm (rest := [.int x2]) F 9 (c_Shelves_sizeOf (xL X) G a_this a_sorts a_sizes a_held a_elements sizes x1 r_1 hg) hy_X9_sizeOf ml_X9_43 hd_X9_sizeOf ⟨by omega, by omega⟩ rfl [0, 2] rfl rfl 0 rfl rfl (w_Shelves_change G a_this a_sorts a_sizes a_held a_elements a_elements_e sorts sizes elements_e) [some 0, none, some 1, none, none, none, none, none, none, none] rfl (by decide +kernel) rfl rfl (Nat.le_of_ble_eq_true rfl) dX9_change_7 (fun hz_2 => ?_)
    refine z_icmp_ge F 31 dX9_change_10 (by decide) hf (fun hf _ => ?_) (fun hf _ => ?_)
    · have ee1 := Option.some.inj hf
      subst ee1
      exact z_vret F rfl rfl rfl dX9_change_31
    · refine z_aload_n F 0 dX9_change_13 rfl rfl ?_
      refine z_get F 0 9 3 inlX9 rfl rfl (by decide) fl_X9_29 rfl dX9_change_14 ?_
      refine z_iload_n F 1 dX9_change_17 rfl rfl ?_
      refine z_aald F 3 4 rfl rfl rfl hf dX9_change_18 (fun j_3 hj_3 hf => ?_)
      refine z_iload_n F 2 dX9_change_19 rfl rfl ?_
      refine z_aload_n F 0 dX9_change_20 rfl rfl ?_
      refine z_get F 0 9 0 inlX9 rfl rfl (by decide) fl_X9_11 rfl dX9_change_21 ?_
      refine z_iload_n F 1 dX9_change_24 rfl rfl ?_
      refine z_iald F 1 rfl hf dX9_change_25 (fun v_4 hf => ?_)
      refine z_lload_n F 3 dX9_change_26 rfl rfl ?_
      refine z_callSm (rest := [.int x2, .ref (a_elements_e j_3)]) F (c_Shelves_cut (xL X) G v_4 x3 _ rfl) hy_X9_cut ml_X9_49 hd_X9_cut ⟨by omega, by omega⟩ rfl [] rfl rfl (w_Shelves_change G a_this a_sorts a_sizes a_held a_elements a_elements_e sorts sizes elements_e) [none, none, none, none, none, none, none, none, none, none] rfl (by decide +kernel) rfl rfl (Nat.le_of_ble_eq_true rfl) dX9_change_27 (fun hz_5 => ?_)
      refine z_last F (4 + 1 * j_3) (fun elements_e_6 => (w_Shelves_change G a_this a_sorts a_sizes a_held a_elements a_elements_e sorts sizes (va_up elements_e j_3 elements_e_6))) (by match j_3, hj_3 with | 0, _ => exact rfl | 1, _ => exact rfl | 2, _ => exact rfl | 3, _ => exact rfl | 4, _ => exact rfl | 5, _ => exact rfl) hf (fun _ => (by match j_3, hj_3 with | 0, _ => exact rfl | 1, _ => exact rfl | 2, _ => exact rfl | 3, _ => exact rfl | 4, _ => exact rfl | 5, _ => exact rfl)) dX9_change_30 (fun elements_e_6 hf => ?_)
      have ee1 := Option.some.inj hf
      subst ee1
      exact z_vret F rfl rfl rfl dX9_change_31

abbrev w_Shelves_hasStretch (G : zG) (a_this : Nat) (a_sorts : Nat) (a_sizes : Nat) (a_held : Nat) (a_elements : Nat) (sizes : Nat → Int32) : va_W := [(a_this, cO 9 [.ref a_sorts, .ref a_sizes, .ref a_held, .ref a_elements]), (a_sizes, cI G 6 sizes)]
def f_Shelves_hasStretch (sizes : Nat → Int32) (x1 : Int32) (x2 : Int32) (x3 : Int32) : Option Int32 := (if x2 < 0 then (some 0) else (if x3 < 0 then (some 0) else (zb1 (f_Shelves_sizeOf sizes x1) fun r_1 => (if (r_1 - x3) < x2 then (some 0) else (some 1)))))
set_option maxRecDepth 100000 in
set_option maxHeartbeats 4000000 in
theorem c_Shelves_hasStretch (l : Launch) (G : zG) (a_this : Nat) (a_sorts : Nat) (a_sizes : Nat) (a_held : Nat) (a_elements : Nat) (sizes : Nat → Int32) (x1 : Int32) (x2 : Int32) (x3 : Int32) (r_ : Int32) (hf : f_Shelves_hasStretch sizes x1 x2 x3 = some r_) : zM l yX9_hasStretch cX9_hasStretch 4 (some .boolean) 2 42 G [.ref a_this, .int x1, .int x2, .int x3] (w_Shelves_hasStretch G a_this a_sorts a_sizes a_held a_elements sizes) (some (.int r_)) (w_Shelves_hasStretch G a_this a_sorts a_sizes a_held a_elements sizes) := by
  refine zM.of [(0, .ref a_this), (1, .int x1), (2, .int x2), (3, .int x3)] (own := RX9) rfl (by decide +kernel) (Nat.le_of_ble_eq_true rfl) rfl rfl fun X hX F => ?_
  subst hX
  replace hf := (f_Shelves_hasStretch.eq_1 ..).symm.trans hf
  refine z_iload_n F 2 dX9_hasStretch_0 rfl rfl ?_
  refine z_if_lt F 23 dX9_hasStretch_1 (by decide) hf (fun hf _ => ?_) (fun hf _ => ?_)
  · refine z_iconst F (0) dX9_hasStretch_23 rfl ?_
    have ee1 := Option.some.inj hf
    subst ee1
    exact z_iret F rfl rfl rfl rfl dX9_hasStretch_24
  · refine z_iload_n F 3 dX9_hasStretch_4 rfl rfl ?_
    refine z_if_lt F 23 dX9_hasStretch_5 (by decide) hf (fun hf _ => ?_) (fun hf _ => ?_)
    · refine z_iconst F (0) dX9_hasStretch_23 rfl ?_
      have ee1 := Option.some.inj hf
      subst ee1
      exact z_iret F rfl rfl rfl rfl dX9_hasStretch_24
    · refine z_iload_n F 2 dX9_hasStretch_8 rfl rfl ?_
      refine z_aload_n F 0 dX9_hasStretch_9 rfl rfl ?_
      refine z_iload_n F 1 dX9_hasStretch_10 rfl rfl ?_
      obtain ⟨r_1, hg, hf⟩ := zb1_some hf
      refine z_callVm (rest := [.int x2]) F 9 (c_Shelves_sizeOf (xL X) G a_this a_sorts a_sizes a_held a_elements sizes x1 r_1 hg) hy_X9_sizeOf ml_X9_43 hd_X9_sizeOf ⟨by omega, by omega⟩ rfl [0, 1] rfl rfl 0 rfl rfl (w_Shelves_hasStretch G a_this a_sorts a_sizes a_held a_elements sizes) [some 0, some 1] rfl (by decide +kernel) rfl rfl (Nat.le_of_ble_eq_true rfl) dX9_hasStretch_11 (fun hz_2 => ?_)
      refine z_iload_n F 3 dX9_hasStretch_14 rfl rfl ?_
      refine z_isub F dX9_hasStretch_15 ?_
      refine z_icmp_gt F 23 dX9_hasStretch_16 (by decide) hf (fun hf _ => ?_) (fun hf _ => ?_)
      · refine z_iconst F (0) dX9_hasStretch_23 rfl ?_
        have ee1 := Option.some.inj hf
        subst ee1
        exact z_iret F rfl rfl rfl rfl dX9_hasStretch_24
      · refine z_iconst F (1) dX9_hasStretch_19 rfl ?_
        refine z_goto F 24 dX9_hasStretch_20 (by decide) ?_
        have ee1 := Option.some.inj hf
        subst ee1
        exact z_iret F rfl rfl rfl rfl dX9_hasStretch_24

abbrev w_Shelves_copy (G : zG) (a_this : Nat) (a_sorts : Nat) (a_sizes : Nat) (a_held : Nat) (a_elements : Nat) (a_elements_e : Nat → Nat) (sizes : Nat → Int32) (elements_e : Nat → (Nat → Int64)) : va_W := [(a_this, cO 9 [.ref a_sorts, .ref a_sizes, .ref a_held, .ref a_elements]), (a_sizes, cI G 6 sizes), (a_elements, cJJ G 6 (fun j => some (a_elements_e j))), ((a_elements_e 0), cJ G 60 (elements_e 0)), ((a_elements_e 1), cJ G 60 (elements_e 1)), ((a_elements_e 2), cJ G 60 (elements_e 2)), ((a_elements_e 3), cJ G 60 (elements_e 3)), ((a_elements_e 4), cJ G 60 (elements_e 4)), ((a_elements_e 5), cJ G 60 (elements_e 5))]
def f_Shelves_copy (sizes : Nat → Int32) (elements_e : Nat → (Nat → Int64)) (x1 : Int32) (x2 : Int32) (x3 : Int32) (x4 : Int32) (x5 : Int32) : Option ((Nat → (Nat → Int64))) := (zb1 (f_Shelves_hasStretch sizes x1 x2 x5) fun r_1 => (if r_1 = 0 then (some elements_e) else (zb1 (f_Shelves_hasStretch sizes x3 x4 x5) fun r_3 => (if r_3 = 0 then (some elements_e) else (zg (fun j => j) 6 x1 fun j_5 => (zg (fun j => j) 6 x3 fun j_6 => (zcp (elements_e j_5) (elements_e j_6) 60 60 x2 x4 x5 fun elements_e_7 => (some (va_up elements_e j_6 elements_e_7)))))))))
set_option maxRecDepth 100000 in
set_option maxHeartbeats 4000000 in
theorem c_Shelves_copy (l : Launch) (G : zG) (a_this : Nat) (a_sorts : Nat) (a_sizes : Nat) (a_held : Nat) (a_elements : Nat) (a_elements_e : Nat → Nat) (sizes : Nat → Int32) (elements_e : Nat → (Nat → Int64)) (x1 : Int32) (x2 : Int32) (x3 : Int32) (x4 : Int32) (x5 : Int32) (o_elements_e : Nat → (Nat → Int64)) (hf : f_Shelves_copy sizes elements_e x1 x2 x3 x4 x5 = some o_elements_e) : zM l yX9_copy cX9_copy 6 none 3 120 G [.ref a_this, .int x1, .int x2, .int x3, .int x4, .int x5] (w_Shelves_copy G a_this a_sorts a_sizes a_held a_elements a_elements_e sizes elements_e) (none) (w_Shelves_copy G a_this a_sorts a_sizes a_held a_elements a_elements_e sizes o_elements_e) := by
  refine zM.of [(0, .ref a_this), (1, .int x1), (2, .int x2), (3, .int x3), (4, .int x4), (5, .int x5)] (own := RX9) rfl (by decide +kernel) (Nat.le_of_ble_eq_true rfl) rfl rfl fun X hX F => ?_
  subst hX
  replace hf := (f_Shelves_copy.eq_1 ..).symm.trans hf
  refine z_aload_n F 0 dX9_copy_0 rfl rfl ?_
  refine z_iload_n F 1 dX9_copy_1 rfl rfl ?_
  refine z_iload_n F 2 dX9_copy_2 rfl rfl ?_
  refine z_iload F 5 dX9_copy_3 rfl ?_
  obtain ⟨r_1, hg, hf⟩ := zb1_some hf
  refine z_callVm (rest := []) F 9 (c_Shelves_hasStretch (xL X) G a_this a_sorts a_sizes a_held a_elements sizes x1 x2 x5 r_1 hg) hy_X9_hasStretch ml_X9_53 hd_X9_hasStretch ⟨by omega, by omega⟩ rfl [0, 1] rfl rfl 0 rfl rfl (w_Shelves_copy G a_this a_sorts a_sizes a_held a_elements a_elements_e sizes elements_e) [some 0, some 1, none, none, none, none, none, none, none] rfl (by decide +kernel) rfl rfl (Nat.le_of_ble_eq_true rfl) dX9_copy_5 (fun hz_2 => ?_)
  refine z_if_eq F 43 dX9_copy_8 (by decide) hf (fun hf _ => ?_) (fun hf _ => ?_)
  · have ee1 := Option.some.inj hf
    subst ee1
    exact z_vret F rfl rfl rfl dX9_copy_43
  · refine z_aload_n F 0 dX9_copy_11 rfl rfl ?_
    refine z_iload_n F 3 dX9_copy_12 rfl rfl ?_
    refine z_iload F 4 dX9_copy_13 rfl ?_
    refine z_iload F 5 dX9_copy_15 rfl ?_
    obtain ⟨r_3, hg, hf⟩ := zb1_some hf
    refine z_callVm (rest := []) F 9 (c_Shelves_hasStretch (xL X) G a_this a_sorts a_sizes a_held a_elements sizes x3 x4 x5 r_3 hg) hy_X9_hasStretch ml_X9_53 hd_X9_hasStretch ⟨by omega, by omega⟩ rfl [0, 1] rfl rfl 0 rfl rfl (w_Shelves_copy G a_this a_sorts a_sizes a_held a_elements a_elements_e sizes elements_e) [some 0, some 1, none, none, none, none, none, none, none] rfl (by decide +kernel) rfl rfl (Nat.le_of_ble_eq_true rfl) dX9_copy_17 (fun hz_4 => ?_)
    refine z_if_eq F 43 dX9_copy_20 (by decide) hf (fun hf _ => ?_) (fun hf _ => ?_)
    · have ee1 := Option.some.inj hf
      subst ee1
      exact z_vret F rfl rfl rfl dX9_copy_43
    · refine z_aload_n F 0 dX9_copy_23 rfl rfl ?_
      refine z_get F 0 9 3 inlX9 rfl rfl (by decide) fl_X9_29 rfl dX9_copy_24 ?_
      refine z_iload_n F 1 dX9_copy_27 rfl rfl ?_
      refine z_aald F 2 4 rfl rfl rfl hf dX9_copy_28 (fun j_5 hj_5 hf => ?_)
      refine z_iload_n F 2 dX9_copy_29 rfl rfl ?_
      refine z_aload_n F 0 dX9_copy_30 rfl rfl ?_
      refine z_get F 0 9 3 inlX9 rfl rfl (by decide) fl_X9_29 rfl dX9_copy_31 ?_
      refine z_iload_n F 3 dX9_copy_34 rfl rfl ?_
      refine z_aald F 2 4 rfl rfl rfl hf dX9_copy_35 (fun j_6 hj_6 hf => ?_)
      refine z_iload F 4 dX9_copy_36 rfl ?_
      refine z_iload F 5 dX9_copy_38 rfl ?_
      refine z_cpl F (3 + 1 * j_5) (3 + 1 * j_6) (fun elements_e_7 => (w_Shelves_copy G a_this a_sorts a_sizes a_held a_elements a_elements_e sizes (va_up elements_e j_6 elements_e_7))) ⟨(uw57 _ (List.mem_of_getElem? (i := 14) rfl)), (uw13 _ (List.mem_of_getElem? (i := 14) rfl)), (uw13 _ (List.mem_of_getElem? (i := 15) rfl)), (uw13 _ (List.mem_of_getElem? (i := 16) rfl))⟩ (by match j_5, hj_5 with | 0, _ => exact rfl | 1, _ => exact rfl | 2, _ => exact rfl | 3, _ => exact rfl | 4, _ => exact rfl | 5, _ => exact rfl) (by match j_6, hj_6 with | 0, _ => exact rfl | 1, _ => exact rfl | 2, _ => exact rfl | 3, _ => exact rfl | 4, _ => exact rfl | 5, _ => exact rfl) hf (fun _ => (by match j_6, hj_6 with | 0, _ => exact rfl | 1, _ => exact rfl | 2, _ => exact rfl | 3, _ => exact rfl | 4, _ => exact rfl | 5, _ => exact rfl)) (by omega) (Nat.le_of_ble_eq_true rfl) dX9_copy_40 (fun elements_e_7 hf => ?_)
      have ee1 := Option.some.inj hf
      subst ee1
      exact z_vret F rfl rfl rfl dX9_copy_43

abbrev w_Shelves_headOn (G : zG) (a_this : Nat) (a_sorts : Nat) (a_sizes : Nat) (a_held : Nat) (a_elements : Nat) (sorts : Nat → Int32) (held : Nat → Int32) : va_W := [(a_this, cO 9 [.ref a_sorts, .ref a_sizes, .ref a_held, .ref a_elements]), (a_sorts, cI G 6 sorts), (a_held, cI G 6 held)]
def f_Shelves_headOn (sorts : Nat → Int32) (held : Nat → Int32) (x1 : Int32) : Option Int32 := (zb1 (f_Shelves_sortOf sorts x1) fun r_1 => (if r_1 = 5 then (zg held 6 x1 fun v_3 => (some v_3)) else (some (-2))))
set_option maxRecDepth 100000 in
set_option maxHeartbeats 4000000 in
theorem c_Shelves_headOn (l : Launch) (G : zG) (a_this : Nat) (a_sorts : Nat) (a_sizes : Nat) (a_held : Nat) (a_elements : Nat) (sorts : Nat → Int32) (held : Nat → Int32) (x1 : Int32) (r_ : Int32) (hf : f_Shelves_headOn sorts held x1 = some r_) : zM l yX9_headOn cX9_headOn 2 (some .int) 2 42 G [.ref a_this, .int x1] (w_Shelves_headOn G a_this a_sorts a_sizes a_held a_elements sorts held) (some (.int r_)) (w_Shelves_headOn G a_this a_sorts a_sizes a_held a_elements sorts held) := by
  refine zM.of [(0, .ref a_this), (1, .int x1)] (own := RX9) rfl (by decide +kernel) (Nat.le_of_ble_eq_true rfl) rfl rfl fun X hX F => ?_
  subst hX
  replace hf := (f_Shelves_headOn.eq_1 ..).symm.trans hf
  refine z_aload_n F 0 dX9_headOn_0 rfl rfl ?_
  refine z_iload_n F 1 dX9_headOn_1 rfl rfl ?_
  obtain ⟨r_1, hg, hf⟩ := zb1_some hf
  refine z_callVm (rest := []) F 9 (c_Shelves_sortOf (xL X) G a_this a_sorts a_sizes a_held a_elements sorts x1 r_1 hg) hy_X9_sortOf ml_X9_36 hd_X9_sortOf ⟨by omega, by omega⟩ rfl [0, 1] rfl rfl 0 rfl rfl (w_Shelves_headOn G a_this a_sorts a_sizes a_held a_elements sorts held) [some 0, some 1, none] rfl (by decide +kernel) rfl rfl (Nat.le_of_ble_eq_true rfl) dX9_headOn_2 (fun hz_2 => ?_)
  refine z_iconst F (5) dX9_headOn_5 rfl ?_
  refine z_icmp_ne F 18 dX9_headOn_6 (by decide) hf (fun hf _ => ?_) (fun hf _ => ?_)
  · refine z_bipush F (-2) dX9_headOn_18 rfl ?_
    have ee1 := Option.some.inj hf
    subst ee1
    exact z_iret F rfl rfl rfl rfl dX9_headOn_20
  · refine z_aload_n F 0 dX9_headOn_9 rfl rfl ?_
    refine z_get F 0 9 2 inlX9 rfl rfl (by decide) fl_X9_24 rfl dX9_headOn_10 ?_
    refine z_iload_n F 1 dX9_headOn_13 rfl rfl ?_
    refine z_iald F 2 rfl hf dX9_headOn_14 (fun v_3 hf => ?_)
    refine z_goto F 20 dX9_headOn_15 (by decide) ?_
    have ee1 := Option.some.inj hf
    subst ee1
    exact z_iret F rfl rfl rfl rfl dX9_headOn_20

