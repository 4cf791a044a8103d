/-! by program (wip/whole/gen.py): pure functions and contracts -/
theorem dX0_open_0 : decode cX0_open 0 = .ok (.aload_n 0, 1) := by decide +kernel
theorem dX0_open_1 : decode cX0_open 1 = .ok (.aload_n 0, 1) := by decide +kernel
theorem dX0_open_2 : decode cX0_open 2 = .ok (.getfield 15, 3) := by decide +kernel
theorem dX0_open_5 : decode cX0_open 5 = .ok (.iload_n 1, 1) := by decide +kernel
theorem dX0_open_6 : decode cX0_open 6 = .ok (.invokevirtual 47, 3) := by decide +kernel
theorem dX0_open_9 : decode cX0_open 9 = .ok (.aload_n 2, 1) := by decide +kernel
theorem dX0_open_10 : decode cX0_open 10 = .ok (.invokevirtual 53, 3) := by decide +kernel
theorem dX0_open_13 : decode cX0_open 13 = .ok (.bipush 9, 2) := by decide +kernel
theorem dX0_open_15 : decode cX0_open 15 = .ok (.invokestatic 57, 3) := by decide +kernel
theorem dX0_open_18 : decode cX0_open 18 = .ok (.invokestatic 57, 3) := by decide +kernel
theorem dX0_open_21 : decode cX0_open 21 = .ok (.putfield 63, 3) := by decide +kernel
theorem dX0_open_24 : decode cX0_open 24 = .ok (.iconst 0, 1) := by decide +kernel
theorem dX0_open_25 : decode cX0_open 25 = .ok (.istore_n 3, 1) := by decide +kernel
theorem dX0_open_26 : decode cX0_open 26 = .ok (.iload_n 3, 1) := by decide +kernel
theorem dX0_open_27 : decode cX0_open 27 = .ok (.aload_n 0, 1) := by decide +kernel
theorem dX0_open_28 : decode cX0_open 28 = .ok (.getfield 63, 3) := by decide +kernel
theorem dX0_open_31 : decode cX0_open 31 = .ok (.if_icmp .ge 25, 3) := by decide +kernel
theorem dX0_open_34 : decode cX0_open 34 = .ok (.aload_n 0, 1) := by decide +kernel
theorem dX0_open_35 : decode cX0_open 35 = .ok (.getfield 19, 3) := by decide +kernel
theorem dX0_open_38 : decode cX0_open 38 = .ok (.iload_n 3, 1) := by decide +kernel
theorem dX0_open_39 : decode cX0_open 39 = .ok (.aload_n 0, 1) := by decide +kernel
theorem dX0_open_40 : decode cX0_open 40 = .ok (.getfield 15, 3) := by decide +kernel
theorem dX0_open_43 : decode cX0_open 43 = .ok (.iload_n 1, 1) := by decide +kernel
theorem dX0_open_44 : decode cX0_open 44 = .ok (.iload_n 3, 1) := by decide +kernel
theorem dX0_open_45 : decode cX0_open 45 = .ok (.invokevirtual 66, 3) := by decide +kernel
theorem dX0_open_48 : decode cX0_open 48 = .ok (.l2i, 1) := by decide +kernel
theorem dX0_open_49 : decode cX0_open 49 = .ok (.iastore, 1) := by decide +kernel
theorem dX0_open_50 : decode cX0_open 50 = .ok (.iinc 3 1, 3) := by decide +kernel
theorem dX0_open_53 : decode cX0_open 53 = .ok (.goto (-27), 3) := by decide +kernel
theorem dX0_open_56 : decode cX0_open 56 = .ok (.return_, 1) := by decide +kernel
theorem dX0_firstFalse_0 : decode cX0_firstFalse 0 = .ok (.iconst 0, 1) := by decide +kernel
theorem dX0_firstFalse_1 : decode cX0_firstFalse 1 = .ok (.istore_n 1, 1) := by decide +kernel
theorem dX0_firstFalse_2 : decode cX0_firstFalse 2 = .ok (.iload_n 1, 1) := by decide +kernel
theorem dX0_firstFalse_3 : decode cX0_firstFalse 3 = .ok (.aload_n 0, 1) := by decide +kernel
theorem dX0_firstFalse_4 : decode cX0_firstFalse 4 = .ok (.getfield 63, 3) := by decide +kernel
theorem dX0_firstFalse_7 : decode cX0_firstFalse 7 = .ok (.if_icmp .ge 31, 3) := by decide +kernel
theorem dX0_firstFalse_10 : decode cX0_firstFalse 10 = .ok (.aload_n 0, 1) := by decide +kernel
theorem dX0_firstFalse_11 : decode cX0_firstFalse 11 = .ok (.getfield 19, 3) := by decide +kernel
theorem dX0_firstFalse_14 : decode cX0_firstFalse 14 = .ok (.iload_n 1, 1) := by decide +kernel
theorem dX0_firstFalse_15 : decode cX0_firstFalse 15 = .ok (.iaload, 1) := by decide +kernel
theorem dX0_firstFalse_16 : decode cX0_firstFalse 16 = .ok (.iconst (-1), 1) := by decide +kernel
theorem dX0_firstFalse_17 : decode cX0_firstFalse 17 = .ok (.if_icmp .lt 13, 3) := by decide +kernel
theorem dX0_firstFalse_20 : decode cX0_firstFalse 20 = .ok (.aload_n 0, 1) := by decide +kernel
theorem dX0_firstFalse_21 : decode cX0_firstFalse 21 = .ok (.getfield 19, 3) := by decide +kernel
theorem dX0_firstFalse_24 : decode cX0_firstFalse 24 = .ok (.iload_n 1, 1) := by decide +kernel
theorem dX0_firstFalse_25 : decode cX0_firstFalse 25 = .ok (.iaload, 1) := by decide +kernel
theorem dX0_firstFalse_26 : decode cX0_firstFalse 26 = .ok (.iload_n 1, 1) := by decide +kernel
theorem dX0_firstFalse_27 : decode cX0_firstFalse 27 = .ok (.if_icmp .le 5, 3) := by decide +kernel
theorem dX0_firstFalse_30 : decode cX0_firstFalse 30 = .ok (.iload_n 1, 1) := by decide +kernel
theorem dX0_firstFalse_31 : decode cX0_firstFalse 31 = .ok (.ireturn, 1) := by decide +kernel
theorem dX0_firstFalse_32 : decode cX0_firstFalse 32 = .ok (.iinc 1 1, 3) := by decide +kernel
theorem dX0_firstFalse_35 : decode cX0_firstFalse 35 = .ok (.goto (-33), 3) := by decide +kernel
theorem dX0_firstFalse_38 : decode cX0_firstFalse 38 = .ok (.bipush (-2), 2) := by decide +kernel
theorem dX0_firstFalse_40 : decode cX0_firstFalse 40 = .ok (.ireturn, 1) := by decide +kernel
theorem dX0_refusalToFill_0 : decode cX0_refusalToFill 0 = .ok (.aload_n 0, 1) := by decide +kernel
theorem dX0_refusalToFill_1 : decode cX0_refusalToFill 1 = .ok (.getfield 15, 3) := by decide +kernel
theorem dX0_refusalToFill_4 : decode cX0_refusalToFill 4 = .ok (.iload_n 1, 1) := by decide +kernel
theorem dX0_refusalToFill_5 : decode cX0_refusalToFill 5 = .ok (.invokevirtual 76, 3) := by decide +kernel
theorem dX0_refusalToFill_8 : decode cX0_refusalToFill 8 = .ok (.istore_n 3, 1) := by decide +kernel
theorem dX0_refusalToFill_9 : decode cX0_refusalToFill 9 = .ok (.iload_n 3, 1) := by decide +kernel
theorem dX0_refusalToFill_10 : decode cX0_refusalToFill 10 = .ok (.ifCond .eq 5, 3) := by decide +kernel
theorem dX0_refusalToFill_13 : decode cX0_refusalToFill 13 = .ok (.iload_n 3, 1) := by decide +kernel
theorem dX0_refusalToFill_14 : decode cX0_refusalToFill 14 = .ok (.ireturn, 1) := by decide +kernel
theorem dX0_refusalToFill_15 : decode cX0_refusalToFill 15 = .ok (.aload_n 0, 1) := by decide +kernel
theorem dX0_refusalToFill_16 : decode cX0_refusalToFill 16 = .ok (.iload_n 1, 1) := by decide +kernel
theorem dX0_refusalToFill_17 : decode cX0_refusalToFill 17 = .ok (.aload_n 2, 1) := by decide +kernel
theorem dX0_refusalToFill_18 : decode cX0_refusalToFill 18 = .ok (.invokevirtual 79, 3) := by decide +kernel
theorem dX0_refusalToFill_21 : decode cX0_refusalToFill 21 = .ok (.aload_n 0, 1) := by decide +kernel
theorem dX0_refusalToFill_22 : decode cX0_refusalToFill 22 = .ok (.getfield 63, 3) := by decide +kernel
theorem dX0_refusalToFill_25 : decode cX0_refusalToFill 25 = .ok (.aload_n 2, 1) := by decide +kernel
theorem dX0_refusalToFill_26 : decode cX0_refusalToFill 26 = .ok (.invokevirtual 53, 3) := by decide +kernel
theorem dX0_refusalToFill_29 : decode cX0_refusalToFill 29 = .ok (.if_icmp .lt 10, 3) := by decide +kernel
theorem dX0_refusalToFill_32 : decode cX0_refusalToFill 32 = .ok (.aload_n 0, 1) := by decide +kernel
theorem dX0_refusalToFill_33 : decode cX0_refusalToFill 33 = .ok (.invokevirtual 83, 3) := by decide +kernel
theorem dX0_refusalToFill_36 : decode cX0_refusalToFill 36 = .ok (.ifCond .lt 8, 3) := by decide +kernel
theorem dX0_refusalToFill_39 : decode cX0_refusalToFill 39 = .ok (.bipush (-5), 2) := by decide +kernel
theorem dX0_refusalToFill_41 : decode cX0_refusalToFill 41 = .ok (.goto 4, 3) := by decide +kernel
theorem dX0_refusalToFill_44 : decode cX0_refusalToFill 44 = .ok (.iconst 0, 1) := by decide +kernel
theorem dX0_refusalToFill_45 : decode cX0_refusalToFill 45 = .ok (.ireturn, 1) := by decide +kernel
theorem dX0_smearedOnes_0 : decode cX0_smearedOnes 0 = .ok (.iconst 0, 1) := by decide +kernel
theorem dX0_smearedOnes_1 : decode cX0_smearedOnes 1 = .ok (.istore_n 1, 1) := by decide +kernel
theorem dX0_smearedOnes_2 : decode cX0_smearedOnes 2 = .ok (.iconst 0, 1) := by decide +kernel
theorem dX0_smearedOnes_3 : decode cX0_smearedOnes 3 = .ok (.istore_n 2, 1) := by decide +kernel
theorem dX0_smearedOnes_4 : decode cX0_smearedOnes 4 = .ok (.iload_n 2, 1) := by decide +kernel
theorem dX0_smearedOnes_5 : decode cX0_smearedOnes 5 = .ok (.aload_n 0, 1) := by decide +kernel
theorem dX0_smearedOnes_6 : decode cX0_smearedOnes 6 = .ok (.getfield 63, 3) := by decide +kernel
theorem dX0_smearedOnes_9 : decode cX0_smearedOnes 9 = .ok (.if_icmp .ge 22, 3) := by decide +kernel
theorem dX0_smearedOnes_12 : decode cX0_smearedOnes 12 = .ok (.aload_n 0, 1) := by decide +kernel
theorem dX0_smearedOnes_13 : decode cX0_smearedOnes 13 = .ok (.getfield 19, 3) := by decide +kernel
theorem dX0_smearedOnes_16 : decode cX0_smearedOnes 16 = .ok (.iload_n 2, 1) := by decide +kernel
theorem dX0_smearedOnes_17 : decode cX0_smearedOnes 17 = .ok (.iaload, 1) := by decide +kernel
theorem dX0_smearedOnes_18 : decode cX0_smearedOnes 18 = .ok (.iconst (-1), 1) := by decide +kernel
theorem dX0_smearedOnes_19 : decode cX0_smearedOnes 19 = .ok (.if_icmp .ne 6, 3) := by decide +kernel
theorem dX0_smearedOnes_22 : decode cX0_smearedOnes 22 = .ok (.iinc 1 1, 3) := by decide +kernel
theorem dX0_smearedOnes_25 : decode cX0_smearedOnes 25 = .ok (.iinc 2 1, 3) := by decide +kernel
theorem dX0_smearedOnes_28 : decode cX0_smearedOnes 28 = .ok (.goto (-24), 3) := by decide +kernel
theorem dX0_smearedOnes_31 : decode cX0_smearedOnes 31 = .ok (.iload_n 1, 1) := by decide +kernel
theorem dX0_smearedOnes_32 : decode cX0_smearedOnes 32 = .ok (.ireturn, 1) := by decide +kernel
theorem dX0_refusalToRestore_0 : decode cX0_refusalToRestore 0 = .ok (.aload_n 0, 1) := by decide +kernel
theorem dX0_refusalToRestore_1 : decode cX0_refusalToRestore 1 = .ok (.iload_n 1, 1) := by decide +kernel
theorem dX0_refusalToRestore_2 : decode cX0_refusalToRestore 2 = .ok (.aload_n 2, 1) := by decide +kernel
theorem dX0_refusalToRestore_3 : decode cX0_refusalToRestore 3 = .ok (.invokevirtual 86, 3) := by decide +kernel
theorem dX0_refusalToRestore_6 : decode cX0_refusalToRestore 6 = .ok (.istore_n 3, 1) := by decide +kernel
theorem dX0_refusalToRestore_7 : decode cX0_refusalToRestore 7 = .ok (.iload_n 3, 1) := by decide +kernel
theorem dX0_refusalToRestore_8 : decode cX0_refusalToRestore 8 = .ok (.ifCond .eq 5, 3) := by decide +kernel
theorem dX0_refusalToRestore_11 : decode cX0_refusalToRestore 11 = .ok (.iload_n 3, 1) := by decide +kernel
theorem dX0_refusalToRestore_12 : decode cX0_refusalToRestore 12 = .ok (.ireturn, 1) := by decide +kernel
theorem dX0_refusalToRestore_13 : decode cX0_refusalToRestore 13 = .ok (.aload_n 0, 1) := by decide +kernel
theorem dX0_refusalToRestore_14 : decode cX0_refusalToRestore 14 = .ok (.getfield 15, 3) := by decide +kernel
theorem dX0_refusalToRestore_17 : decode cX0_refusalToRestore 17 = .ok (.iload_n 1, 1) := by decide +kernel
theorem dX0_refusalToRestore_18 : decode cX0_refusalToRestore 18 = .ok (.invokevirtual 47, 3) := by decide +kernel
theorem dX0_refusalToRestore_21 : decode cX0_refusalToRestore 21 = .ok (.aload_n 2, 1) := by decide +kernel
theorem dX0_refusalToRestore_22 : decode cX0_refusalToRestore 22 = .ok (.invokevirtual 53, 3) := by decide +kernel
theorem dX0_refusalToRestore_25 : decode cX0_refusalToRestore 25 = .ok (.if_icmp .ne 10, 3) := by decide +kernel
theorem dX0_refusalToRestore_28 : decode cX0_refusalToRestore 28 = .ok (.aload_n 0, 1) := by decide +kernel
theorem dX0_refusalToRestore_29 : decode cX0_refusalToRestore 29 = .ok (.invokevirtual 90, 3) := by decide +kernel
theorem dX0_refusalToRestore_32 : decode cX0_refusalToRestore 32 = .ok (.ifCond .le 8, 3) := by decide +kernel
theorem dX0_refusalToRestore_35 : decode cX0_refusalToRestore 35 = .ok (.bipush (-5), 2) := by decide +kernel
theorem dX0_refusalToRestore_37 : decode cX0_refusalToRestore 37 = .ok (.goto 4, 3) := by decide +kernel
theorem dX0_refusalToRestore_40 : decode cX0_refusalToRestore 40 = .ok (.iconst 0, 1) := by decide +kernel
theorem dX0_refusalToRestore_41 : decode cX0_refusalToRestore 41 = .ok (.ireturn, 1) := by decide +kernel
theorem dX0_placeInLeft_0 : decode cX0_placeInLeft 0 = .ok (.iconst 0, 1) := by decide +kernel
theorem dX0_placeInLeft_1 : decode cX0_placeInLeft 1 = .ok (.istore_n 2, 1) := by decide +kernel
theorem dX0_placeInLeft_2 : decode cX0_placeInLeft 2 = .ok (.iload_n 2, 1) := by decide +kernel
theorem dX0_placeInLeft_3 : decode cX0_placeInLeft 3 = .ok (.aload_n 0, 1) := by decide +kernel
theorem dX0_placeInLeft_4 : decode cX0_placeInLeft 4 = .ok (.getfield 26, 3) := by decide +kernel
theorem dX0_placeInLeft_7 : decode cX0_placeInLeft 7 = .ok (.invokevirtual 53, 3) := by decide +kernel
theorem dX0_placeInLeft_10 : decode cX0_placeInLeft 10 = .ok (.if_icmp .ge 69, 3) := by decide +kernel
theorem dX0_placeInLeft_13 : decode cX0_placeInLeft 13 = .ok (.iconst 0, 1) := by decide +kernel
theorem dX0_placeInLeft_14 : decode cX0_placeInLeft 14 = .ok (.istore_n 3, 1) := by decide +kernel
theorem dX0_placeInLeft_15 : decode cX0_placeInLeft 15 = .ok (.iconst 0, 1) := by decide +kernel
theorem dX0_placeInLeft_16 : decode cX0_placeInLeft 16 = .ok (.istore 4, 2) := by decide +kernel
theorem dX0_placeInLeft_18 : decode cX0_placeInLeft 18 = .ok (.iload 4, 2) := by decide +kernel
theorem dX0_placeInLeft_20 : decode cX0_placeInLeft 20 = .ok (.aload_n 0, 1) := by decide +kernel
theorem dX0_placeInLeft_21 : decode cX0_placeInLeft 21 = .ok (.getfield 26, 3) := by decide +kernel
theorem dX0_placeInLeft_24 : decode cX0_placeInLeft 24 = .ok (.invokevirtual 53, 3) := by decide +kernel
theorem dX0_placeInLeft_27 : decode cX0_placeInLeft 27 = .ok (.if_icmp .ge 39, 3) := by decide +kernel
theorem dX0_placeInLeft_30 : decode cX0_placeInLeft 30 = .ok (.aload_n 0, 1) := by decide +kernel
theorem dX0_placeInLeft_31 : decode cX0_placeInLeft 31 = .ok (.getfield 9, 3) := by decide +kernel
theorem dX0_placeInLeft_34 : decode cX0_placeInLeft 34 = .ok (.aload_n 0, 1) := by decide +kernel
theorem dX0_placeInLeft_35 : decode cX0_placeInLeft 35 = .ok (.getfield 26, 3) := by decide +kernel
theorem dX0_placeInLeft_38 : decode cX0_placeInLeft 38 = .ok (.iload 4, 2) := by decide +kernel
theorem dX0_placeInLeft_40 : decode cX0_placeInLeft 40 = .ok (.invokevirtual 145, 3) := by decide +kernel
theorem dX0_placeInLeft_43 : decode cX0_placeInLeft 43 = .ok (.aload_n 0, 1) := by decide +kernel
theorem dX0_placeInLeft_44 : decode cX0_placeInLeft 44 = .ok (.getfield 26, 3) := by decide +kernel
theorem dX0_placeInLeft_47 : decode cX0_placeInLeft 47 = .ok (.iload_n 2, 1) := by decide +kernel
theorem dX0_placeInLeft_48 : decode cX0_placeInLeft 48 = .ok (.invokevirtual 145, 3) := by decide +kernel
theorem dX0_placeInLeft_51 : decode cX0_placeInLeft 51 = .ok (.invokevirtual 148, 3) := by decide +kernel
theorem dX0_placeInLeft_54 : decode cX0_placeInLeft 54 = .ok (.ifCond .eq 6, 3) := by decide +kernel
theorem dX0_placeInLeft_57 : decode cX0_placeInLeft 57 = .ok (.iinc 3 1, 3) := by decide +kernel
theorem dX0_placeInLeft_60 : decode cX0_placeInLeft 60 = .ok (.iinc 4 1, 3) := by decide +kernel
theorem dX0_placeInLeft_63 : decode cX0_placeInLeft 63 = .ok (.goto (-45), 3) := by decide +kernel
theorem dX0_placeInLeft_66 : decode cX0_placeInLeft 66 = .ok (.iload_n 3, 1) := by decide +kernel
theorem dX0_placeInLeft_67 : decode cX0_placeInLeft 67 = .ok (.iload_n 1, 1) := by decide +kernel
theorem dX0_placeInLeft_68 : decode cX0_placeInLeft 68 = .ok (.if_icmp .ne 5, 3) := by decide +kernel
theorem dX0_placeInLeft_71 : decode cX0_placeInLeft 71 = .ok (.iload_n 2, 1) := by decide +kernel
theorem dX0_placeInLeft_72 : decode cX0_placeInLeft 72 = .ok (.ireturn, 1) := by decide +kernel
theorem dX0_placeInLeft_73 : decode cX0_placeInLeft 73 = .ok (.iinc 2 1, 3) := by decide +kernel
theorem dX0_placeInLeft_76 : decode cX0_placeInLeft 76 = .ok (.goto (-74), 3) := by decide +kernel
theorem dX0_placeInLeft_79 : decode cX0_placeInLeft 79 = .ok (.bipush (-2), 2) := by decide +kernel
theorem dX0_placeInLeft_81 : decode cX0_placeInLeft 81 = .ok (.ireturn, 1) := by decide +kernel
theorem dX0_lineRestored_0 : decode cX0_lineRestored 0 = .ok (.aload_n 0, 1) := by decide +kernel
theorem dX0_lineRestored_1 : decode cX0_lineRestored 1 = .ok (.getfield 26, 3) := by decide +kernel
theorem dX0_lineRestored_4 : decode cX0_lineRestored 4 = .ok (.aload_n 1, 1) := by decide +kernel
theorem dX0_lineRestored_5 : decode cX0_lineRestored 5 = .ok (.invokevirtual 96, 3) := by decide +kernel
theorem dX0_lineRestored_8 : decode cX0_lineRestored 8 = .ok (.aload_n 0, 1) := by decide +kernel
theorem dX0_lineRestored_9 : decode cX0_lineRestored 9 = .ok (.getfield 30, 3) := by decide +kernel
theorem dX0_lineRestored_12 : decode cX0_lineRestored 12 = .ok (.aload_n 1, 1) := by decide +kernel
theorem dX0_lineRestored_13 : decode cX0_lineRestored 13 = .ok (.invokevirtual 96, 3) := by decide +kernel
theorem dX0_lineRestored_16 : decode cX0_lineRestored 16 = .ok (.aload_n 0, 1) := by decide +kernel
theorem dX0_lineRestored_17 : decode cX0_lineRestored 17 = .ok (.getfield 63, 3) := by decide +kernel
theorem dX0_lineRestored_20 : decode cX0_lineRestored 20 = .ok (.iconst 1, 1) := by decide +kernel
theorem dX0_lineRestored_21 : decode cX0_lineRestored 21 = .ok (.isub, 1) := by decide +kernel
theorem dX0_lineRestored_22 : decode cX0_lineRestored 22 = .ok (.istore_n 2, 1) := by decide +kernel
theorem dX0_lineRestored_23 : decode cX0_lineRestored 23 = .ok (.iload_n 2, 1) := by decide +kernel
theorem dX0_lineRestored_24 : decode cX0_lineRestored 24 = .ok (.ifCond .lt 34, 3) := by decide +kernel
theorem dX0_lineRestored_27 : decode cX0_lineRestored 27 = .ok (.aload_n 0, 1) := by decide +kernel
theorem dX0_lineRestored_28 : decode cX0_lineRestored 28 = .ok (.getfield 30, 3) := by decide +kernel
theorem dX0_lineRestored_31 : decode cX0_lineRestored 31 = .ok (.iload_n 2, 1) := by decide +kernel
theorem dX0_lineRestored_32 : decode cX0_lineRestored 32 = .ok (.aload_n 0, 1) := by decide +kernel
theorem dX0_lineRestored_33 : decode cX0_lineRestored 33 = .ok (.getfield 26, 3) := by decide +kernel
theorem dX0_lineRestored_36 : decode cX0_lineRestored 36 = .ok (.aload_n 0, 1) := by decide +kernel
theorem dX0_lineRestored_37 : decode cX0_lineRestored 37 = .ok (.aload_n 0, 1) := by decide +kernel
theorem dX0_lineRestored_38 : decode cX0_lineRestored 38 = .ok (.getfield 19, 3) := by decide +kernel
theorem dX0_lineRestored_41 : decode cX0_lineRestored 41 = .ok (.iload_n 2, 1) := by decide +kernel
theorem dX0_lineRestored_42 : decode cX0_lineRestored 42 = .ok (.iaload, 1) := by decide +kernel
theorem dX0_lineRestored_43 : decode cX0_lineRestored 43 = .ok (.invokevirtual 100, 3) := by decide +kernel
theorem dX0_lineRestored_46 : decode cX0_lineRestored 46 = .ok (.invokevirtual 103, 3) := by decide +kernel
theorem dX0_lineRestored_49 : decode cX0_lineRestored 49 = .ok (.invokevirtual 106, 3) := by decide +kernel
theorem dX0_lineRestored_52 : decode cX0_lineRestored 52 = .ok (.iinc 2 (-1), 3) := by decide +kernel
theorem dX0_lineRestored_55 : decode cX0_lineRestored 55 = .ok (.goto (-32), 3) := by decide +kernel
theorem dX0_lineRestored_58 : decode cX0_lineRestored 58 = .ok (.aload_n 0, 1) := by decide +kernel
theorem dX0_lineRestored_59 : decode cX0_lineRestored 59 = .ok (.getfield 30, 3) := by decide +kernel
theorem dX0_lineRestored_62 : decode cX0_lineRestored 62 = .ok (.areturn, 1) := by decide +kernel
theorem dX0_firstUnlike_0 : decode cX0_firstUnlike 0 = .ok (.iconst 0, 1) := by decide +kernel
theorem dX0_firstUnlike_1 : decode cX0_firstUnlike 1 = .ok (.istore_n 3, 1) := by decide +kernel
theorem dX0_firstUnlike_2 : decode cX0_firstUnlike 2 = .ok (.iload_n 3, 1) := by decide +kernel
theorem dX0_firstUnlike_3 : decode cX0_firstUnlike 3 = .ok (.aload_n 0, 1) := by decide +kernel
theorem dX0_firstUnlike_4 : decode cX0_firstUnlike 4 = .ok (.getfield 63, 3) := by decide +kernel
theorem dX0_firstUnlike_7 : decode cX0_firstUnlike 7 = .ok (.if_icmp .ge 36, 3) := by decide +kernel
theorem dX0_firstUnlike_10 : decode cX0_firstUnlike 10 = .ok (.aload_n 0, 1) := by decide +kernel
theorem dX0_firstUnlike_11 : decode cX0_firstUnlike 11 = .ok (.getfield 19, 3) := by decide +kernel
theorem dX0_firstUnlike_14 : decode cX0_firstUnlike 14 = .ok (.iload_n 3, 1) := by decide +kernel
theorem dX0_firstUnlike_15 : decode cX0_firstUnlike 15 = .ok (.iaload, 1) := by decide +kernel
theorem dX0_firstUnlike_16 : decode cX0_firstUnlike 16 = .ok (.iconst (-1), 1) := by decide +kernel
theorem dX0_firstUnlike_17 : decode cX0_firstUnlike 17 = .ok (.if_icmp .eq 20, 3) := by decide +kernel
theorem dX0_firstUnlike_20 : decode cX0_firstUnlike 20 = .ok (.aload_n 0, 1) := by decide +kernel
theorem dX0_firstUnlike_21 : decode cX0_firstUnlike 21 = .ok (.getfield 19, 3) := by decide +kernel
theorem dX0_firstUnlike_24 : decode cX0_firstUnlike 24 = .ok (.iload_n 3, 1) := by decide +kernel
theorem dX0_firstUnlike_25 : decode cX0_firstUnlike 25 = .ok (.iaload, 1) := by decide +kernel
theorem dX0_firstUnlike_26 : decode cX0_firstUnlike 26 = .ok (.aload_n 1, 1) := by decide +kernel
theorem dX0_firstUnlike_27 : decode cX0_firstUnlike 27 = .ok (.aload_n 2, 1) := by decide +kernel
theorem dX0_firstUnlike_28 : decode cX0_firstUnlike 28 = .ok (.iload_n 3, 1) := by decide +kernel
theorem dX0_firstUnlike_29 : decode cX0_firstUnlike 29 = .ok (.invokevirtual 70, 3) := by decide +kernel
theorem dX0_firstUnlike_32 : decode cX0_firstUnlike 32 = .ok (.if_icmp .eq 5, 3) := by decide +kernel
theorem dX0_firstUnlike_35 : decode cX0_firstUnlike 35 = .ok (.iload_n 3, 1) := by decide +kernel
theorem dX0_firstUnlike_36 : decode cX0_firstUnlike 36 = .ok (.ireturn, 1) := by decide +kernel
theorem dX0_firstUnlike_37 : decode cX0_firstUnlike 37 = .ok (.iinc 3 1, 3) := by decide +kernel
theorem dX0_firstUnlike_40 : decode cX0_firstUnlike 40 = .ok (.goto (-38), 3) := by decide +kernel
theorem dX0_firstUnlike_43 : decode cX0_firstUnlike 43 = .ok (.bipush (-2), 2) := by decide +kernel
theorem dX0_firstUnlike_45 : decode cX0_firstUnlike 45 = .ok (.ireturn, 1) := by decide +kernel
theorem dX0_isDisquiet_0 : decode cX0_isDisquiet 0 = .ok (.iload_n 0, 1) := by decide +kernel
theorem dX0_isDisquiet_1 : decode cX0_isDisquiet 1 = .ok (.ifCond .lt 13, 3) := by decide +kernel
theorem dX0_isDisquiet_4 : decode cX0_isDisquiet 4 = .ok (.iload_n 0, 1) := by decide +kernel
theorem dX0_isDisquiet_5 : decode cX0_isDisquiet 5 = .ok (.bipush 36, 2) := by decide +kernel
theorem dX0_isDisquiet_7 : decode cX0_isDisquiet 7 = .ok (.if_icmp .gt 7, 3) := by decide +kernel
theorem dX0_isDisquiet_10 : decode cX0_isDisquiet 10 = .ok (.iconst 1, 1) := by decide +kernel
theorem dX0_isDisquiet_11 : decode cX0_isDisquiet 11 = .ok (.goto 4, 3) := by decide +kernel
theorem dX0_isDisquiet_14 : decode cX0_isDisquiet 14 = .ok (.iconst 0, 1) := by decide +kernel
theorem dX0_isDisquiet_15 : decode cX0_isDisquiet 15 = .ok (.ireturn, 1) := by decide +kernel
theorem dX0_allFillings_0 : decode cX0_allFillings 0 = .ok (.iconst 1, 1) := by decide +kernel
theorem dX0_allFillings_1 : decode cX0_allFillings 1 = .ok (.istore_n 1, 1) := by decide +kernel
theorem dX0_allFillings_2 : decode cX0_allFillings 2 = .ok (.iconst 0, 1) := by decide +kernel
theorem dX0_allFillings_3 : decode cX0_allFillings 3 = .ok (.istore_n 2, 1) := by decide +kernel
theorem dX0_allFillings_4 : decode cX0_allFillings 4 = .ok (.iload_n 2, 1) := by decide +kernel
theorem dX0_allFillings_5 : decode cX0_allFillings 5 = .ok (.aload_n 0, 1) := by decide +kernel
theorem dX0_allFillings_6 : decode cX0_allFillings 6 = .ok (.getfield 63, 3) := by decide +kernel
theorem dX0_allFillings_9 : decode cX0_allFillings 9 = .ok (.if_icmp .ge 25, 3) := by decide +kernel
theorem dX0_allFillings_12 : decode cX0_allFillings 12 = .ok (.aload_n 0, 1) := by decide +kernel
theorem dX0_allFillings_13 : decode cX0_allFillings 13 = .ok (.getfield 19, 3) := by decide +kernel
theorem dX0_allFillings_16 : decode cX0_allFillings 16 = .ok (.iload_n 2, 1) := by decide +kernel
theorem dX0_allFillings_17 : decode cX0_allFillings 17 = .ok (.iaload, 1) := by decide +kernel
theorem dX0_allFillings_18 : decode cX0_allFillings 18 = .ok (.iconst (-1), 1) := by decide +kernel
theorem dX0_allFillings_19 : decode cX0_allFillings 19 = .ok (.if_icmp .ne 9, 3) := by decide +kernel
theorem dX0_allFillings_22 : decode cX0_allFillings 22 = .ok (.iload_n 1, 1) := by decide +kernel
theorem dX0_allFillings_23 : decode cX0_allFillings 23 = .ok (.iload_n 2, 1) := by decide +kernel
theorem dX0_allFillings_24 : decode cX0_allFillings 24 = .ok (.iconst 1, 1) := by decide +kernel
theorem dX0_allFillings_25 : decode cX0_allFillings 25 = .ok (.iadd, 1) := by decide +kernel
theorem dX0_allFillings_26 : decode cX0_allFillings 26 = .ok (.imul, 1) := by decide +kernel
theorem dX0_allFillings_27 : decode cX0_allFillings 27 = .ok (.istore_n 1, 1) := by decide +kernel
theorem dX0_allFillings_28 : decode cX0_allFillings 28 = .ok (.iinc 2 1, 3) := by decide +kernel
theorem dX0_allFillings_31 : decode cX0_allFillings 31 = .ok (.goto (-27), 3) := by decide +kernel
theorem dX0_allFillings_34 : decode cX0_allFillings 34 = .ok (.iload_n 1, 1) := by decide +kernel
theorem dX0_allFillings_35 : decode cX0_allFillings 35 = .ok (.ireturn, 1) := by decide +kernel
theorem dX0_sumOfNumbers_0 : decode cX0_sumOfNumbers 0 = .ok (.iconst 0, 1) := by decide +kernel
theorem dX0_sumOfNumbers_1 : decode cX0_sumOfNumbers 1 = .ok (.istore_n 1, 1) := by decide +kernel
theorem dX0_sumOfNumbers_2 : decode cX0_sumOfNumbers 2 = .ok (.iconst 0, 1) := by decide +kernel
theorem dX0_sumOfNumbers_3 : decode cX0_sumOfNumbers 3 = .ok (.istore_n 2, 1) := by decide +kernel
theorem dX0_sumOfNumbers_4 : decode cX0_sumOfNumbers 4 = .ok (.iload_n 2, 1) := by decide +kernel
theorem dX0_sumOfNumbers_5 : decode cX0_sumOfNumbers 5 = .ok (.aload_n 0, 1) := by decide +kernel
theorem dX0_sumOfNumbers_6 : decode cX0_sumOfNumbers 6 = .ok (.getfield 63, 3) := by decide +kernel
theorem dX0_sumOfNumbers_9 : decode cX0_sumOfNumbers 9 = .ok (.if_icmp .ge 22, 3) := by decide +kernel
theorem dX0_sumOfNumbers_12 : decode cX0_sumOfNumbers 12 = .ok (.iload_n 1, 1) := by decide +kernel
theorem dX0_sumOfNumbers_13 : decode cX0_sumOfNumbers 13 = .ok (.aload_n 0, 1) := by decide +kernel
theorem dX0_sumOfNumbers_14 : decode cX0_sumOfNumbers 14 = .ok (.getfield 19, 3) := by decide +kernel
theorem dX0_sumOfNumbers_17 : decode cX0_sumOfNumbers 17 = .ok (.iload_n 2, 1) := by decide +kernel
theorem dX0_sumOfNumbers_18 : decode cX0_sumOfNumbers 18 = .ok (.iaload, 1) := by decide +kernel
theorem dX0_sumOfNumbers_19 : decode cX0_sumOfNumbers 19 = .ok (.iconst 0, 1) := by decide +kernel
theorem dX0_sumOfNumbers_20 : decode cX0_sumOfNumbers 20 = .ok (.invokestatic 93, 3) := by decide +kernel
theorem dX0_sumOfNumbers_23 : decode cX0_sumOfNumbers 23 = .ok (.iadd, 1) := by decide +kernel
theorem dX0_sumOfNumbers_24 : decode cX0_sumOfNumbers 24 = .ok (.istore_n 1, 1) := by decide +kernel
theorem dX0_sumOfNumbers_25 : decode cX0_sumOfNumbers 25 = .ok (.iinc 2 1, 3) := by decide +kernel
theorem dX0_sumOfNumbers_28 : decode cX0_sumOfNumbers 28 = .ok (.goto (-24), 3) := by decide +kernel
theorem dX0_sumOfNumbers_31 : decode cX0_sumOfNumbers 31 = .ok (.iload_n 1, 1) := by decide +kernel
theorem dX0_sumOfNumbers_32 : decode cX0_sumOfNumbers 32 = .ok (.ireturn, 1) := by decide +kernel
theorem dX0_spread_0 : decode cX0_spread 0 = .ok (.iconst 0, 1) := by decide +kernel
theorem dX0_spread_1 : decode cX0_spread 1 = .ok (.istore_n 3, 1) := by decide +kernel
theorem dX0_spread_2 : decode cX0_spread 2 = .ok (.iconst 0, 1) := by decide +kernel
theorem dX0_spread_3 : decode cX0_spread 3 = .ok (.istore 4, 2) := by decide +kernel
theorem dX0_spread_5 : decode cX0_spread 5 = .ok (.iload 4, 2) := by decide +kernel
theorem dX0_spread_7 : decode cX0_spread 7 = .ok (.aload_n 1, 1) := by decide +kernel
theorem dX0_spread_8 : decode cX0_spread 8 = .ok (.arraylength, 1) := by decide +kernel
theorem dX0_spread_9 : decode cX0_spread 9 = .ok (.if_icmp .ge 45, 3) := by decide +kernel
theorem dX0_spread_12 : decode cX0_spread 12 = .ok (.iload 4, 2) := by decide +kernel
theorem dX0_spread_14 : decode cX0_spread 14 = .ok (.aload_n 0, 1) := by decide +kernel
theorem dX0_spread_15 : decode cX0_spread 15 = .ok (.arraylength, 1) := by decide +kernel
theorem dX0_spread_16 : decode cX0_spread 16 = .ok (.if_icmp .ge 38, 3) := by decide +kernel
theorem dX0_spread_19 : decode cX0_spread 19 = .ok (.iload_n 3, 1) := by decide +kernel
theorem dX0_spread_20 : decode cX0_spread 20 = .ok (.aload_n 0, 1) := by decide +kernel
theorem dX0_spread_21 : decode cX0_spread 21 = .ok (.iload 4, 2) := by decide +kernel
theorem dX0_spread_23 : decode cX0_spread 23 = .ok (.iaload, 1) := by decide +kernel
theorem dX0_spread_24 : decode cX0_spread 24 = .ok (.iadd, 1) := by decide +kernel
theorem dX0_spread_25 : decode cX0_spread 25 = .ok (.istore_n 3, 1) := by decide +kernel
theorem dX0_spread_26 : decode cX0_spread 26 = .ok (.iload 4, 2) := by decide +kernel
theorem dX0_spread_28 : decode cX0_spread 28 = .ok (.iload_n 2, 1) := by decide +kernel
theorem dX0_spread_29 : decode cX0_spread 29 = .ok (.if_icmp .le 14, 3) := by decide +kernel
theorem dX0_spread_32 : decode cX0_spread 32 = .ok (.iload_n 3, 1) := by decide +kernel
theorem dX0_spread_33 : decode cX0_spread 33 = .ok (.aload_n 0, 1) := by decide +kernel
theorem dX0_spread_34 : decode cX0_spread 34 = .ok (.iload 4, 2) := by decide +kernel
theorem dX0_spread_36 : decode cX0_spread 36 = .ok (.iload_n 2, 1) := by decide +kernel
theorem dX0_spread_37 : decode cX0_spread 37 = .ok (.isub, 1) := by decide +kernel
theorem dX0_spread_38 : decode cX0_spread 38 = .ok (.iconst 1, 1) := by decide +kernel
theorem dX0_spread_39 : decode cX0_spread 39 = .ok (.isub, 1) := by decide +kernel
theorem dX0_spread_40 : decode cX0_spread 40 = .ok (.iaload, 1) := by decide +kernel
theorem dX0_spread_41 : decode cX0_spread 41 = .ok (.isub, 1) := by decide +kernel
theorem dX0_spread_42 : decode cX0_spread 42 = .ok (.istore_n 3, 1) := by decide +kernel
theorem dX0_spread_43 : decode cX0_spread 43 = .ok (.aload_n 1, 1) := by decide +kernel
theorem dX0_spread_44 : decode cX0_spread 44 = .ok (.iload 4, 2) := by decide +kernel
theorem dX0_spread_46 : decode cX0_spread 46 = .ok (.iload_n 3, 1) := by decide +kernel
theorem dX0_spread_47 : decode cX0_spread 47 = .ok (.iastore, 1) := by decide +kernel
theorem dX0_spread_48 : decode cX0_spread 48 = .ok (.iinc 4 1, 3) := by decide +kernel
theorem dX0_spread_51 : decode cX0_spread 51 = .ok (.goto (-46), 3) := by decide +kernel
theorem dX0_spread_54 : decode cX0_spread 54 = .ok (.return_, 1) := by decide +kernel
theorem dX0_fillingsOf_0 : decode cX0_fillingsOf 0 = .ok (.iload_n 1, 1) := by decide +kernel
theorem dX0_fillingsOf_1 : decode cX0_fillingsOf 1 = .ok (.aload_n 0, 1) := by decide +kernel
theorem dX0_fillingsOf_2 : decode cX0_fillingsOf 2 = .ok (.invokevirtual 110, 3) := by decide +kernel
theorem dX0_fillingsOf_5 : decode cX0_fillingsOf 5 = .ok (.isub, 1) := by decide +kernel
theorem dX0_fillingsOf_6 : decode cX0_fillingsOf 6 = .ok (.istore_n 2, 1) := by decide +kernel
theorem dX0_fillingsOf_7 : decode cX0_fillingsOf 7 = .ok (.iload_n 2, 1) := by decide +kernel
theorem dX0_fillingsOf_8 : decode cX0_fillingsOf 8 = .ok (.ifCond .lt 12, 3) := by decide +kernel
theorem dX0_fillingsOf_11 : decode cX0_fillingsOf 11 = .ok (.iload_n 2, 1) := by decide +kernel
theorem dX0_fillingsOf_12 : decode cX0_fillingsOf 12 = .ok (.aload_n 0, 1) := by decide +kernel
theorem dX0_fillingsOf_13 : decode cX0_fillingsOf 13 = .ok (.getfield 33, 3) := by decide +kernel
theorem dX0_fillingsOf_16 : decode cX0_fillingsOf 16 = .ok (.arraylength, 1) := by decide +kernel
theorem dX0_fillingsOf_17 : decode cX0_fillingsOf 17 = .ok (.if_icmp .lt 5, 3) := by decide +kernel
theorem dX0_fillingsOf_20 : decode cX0_fillingsOf 20 = .ok (.iconst 0, 1) := by decide +kernel
theorem dX0_fillingsOf_21 : decode cX0_fillingsOf 21 = .ok (.ireturn, 1) := by decide +kernel
theorem dX0_fillingsOf_22 : decode cX0_fillingsOf 22 = .ok (.aload_n 0, 1) := by decide +kernel
theorem dX0_fillingsOf_23 : decode cX0_fillingsOf 23 = .ok (.getfield 33, 3) := by decide +kernel
theorem dX0_fillingsOf_26 : decode cX0_fillingsOf 26 = .ok (.iconst 0, 1) := by decide +kernel
theorem dX0_fillingsOf_27 : decode cX0_fillingsOf 27 = .ok (.invokestatic 113, 3) := by decide +kernel
theorem dX0_fillingsOf_30 : decode cX0_fillingsOf 30 = .ok (.aload_n 0, 1) := by decide +kernel
theorem dX0_fillingsOf_31 : decode cX0_fillingsOf 31 = .ok (.getfield 33, 3) := by decide +kernel
theorem dX0_fillingsOf_34 : decode cX0_fillingsOf 34 = .ok (.iconst 0, 1) := by decide +kernel
theorem dX0_fillingsOf_35 : decode cX0_fillingsOf 35 = .ok (.iconst 1, 1) := by decide +kernel
theorem dX0_fillingsOf_36 : decode cX0_fillingsOf 36 = .ok (.iastore, 1) := by decide +kernel
theorem dX0_fillingsOf_37 : decode cX0_fillingsOf 37 = .ok (.iconst 0, 1) := by decide +kernel
theorem dX0_fillingsOf_38 : decode cX0_fillingsOf 38 = .ok (.istore_n 3, 1) := by decide +kernel
theorem dX0_fillingsOf_39 : decode cX0_fillingsOf 39 = .ok (.iload_n 3, 1) := by decide +kernel
theorem dX0_fillingsOf_40 : decode cX0_fillingsOf 40 = .ok (.aload_n 0, 1) := by decide +kernel
theorem dX0_fillingsOf_41 : decode cX0_fillingsOf 41 = .ok (.getfield 63, 3) := by decide +kernel
theorem dX0_fillingsOf_44 : decode cX0_fillingsOf 44 = .ok (.if_icmp .ge 49, 3) := by decide +kernel
theorem dX0_fillingsOf_47 : decode cX0_fillingsOf 47 = .ok (.aload_n 0, 1) := by decide +kernel
theorem dX0_fillingsOf_48 : decode cX0_fillingsOf 48 = .ok (.getfield 19, 3) := by decide +kernel
theorem dX0_fillingsOf_51 : decode cX0_fillingsOf 51 = .ok (.iload_n 3, 1) := by decide +kernel
theorem dX0_fillingsOf_52 : decode cX0_fillingsOf 52 = .ok (.iaload, 1) := by decide +kernel
theorem dX0_fillingsOf_53 : decode cX0_fillingsOf 53 = .ok (.iconst (-1), 1) := by decide +kernel
theorem dX0_fillingsOf_54 : decode cX0_fillingsOf 54 = .ok (.if_icmp .ne 33, 3) := by decide +kernel
theorem dX0_fillingsOf_57 : decode cX0_fillingsOf 57 = .ok (.aload_n 0, 1) := by decide +kernel
theorem dX0_fillingsOf_58 : decode cX0_fillingsOf 58 = .ok (.getfield 33, 3) := by decide +kernel
theorem dX0_fillingsOf_61 : decode cX0_fillingsOf 61 = .ok (.iconst 0, 1) := by decide +kernel
theorem dX0_fillingsOf_62 : decode cX0_fillingsOf 62 = .ok (.aload_n 0, 1) := by decide +kernel
theorem dX0_fillingsOf_63 : decode cX0_fillingsOf 63 = .ok (.getfield 36, 3) := by decide +kernel
theorem dX0_fillingsOf_66 : decode cX0_fillingsOf 66 = .ok (.iconst 0, 1) := by decide +kernel
theorem dX0_fillingsOf_67 : decode cX0_fillingsOf 67 = .ok (.aload_n 0, 1) := by decide +kernel
theorem dX0_fillingsOf_68 : decode cX0_fillingsOf 68 = .ok (.getfield 33, 3) := by decide +kernel
theorem dX0_fillingsOf_71 : decode cX0_fillingsOf 71 = .ok (.arraylength, 1) := by decide +kernel
theorem dX0_fillingsOf_72 : decode cX0_fillingsOf 72 = .ok (.invokestatic 119, 3) := by decide +kernel
theorem dX0_fillingsOf_75 : decode cX0_fillingsOf 75 = .ok (.aload_n 0, 1) := by decide +kernel
theorem dX0_fillingsOf_76 : decode cX0_fillingsOf 76 = .ok (.getfield 36, 3) := by decide +kernel
theorem dX0_fillingsOf_79 : decode cX0_fillingsOf 79 = .ok (.aload_n 0, 1) := by decide +kernel
theorem dX0_fillingsOf_80 : decode cX0_fillingsOf 80 = .ok (.getfield 33, 3) := by decide +kernel
theorem dX0_fillingsOf_83 : decode cX0_fillingsOf 83 = .ok (.iload_n 3, 1) := by decide +kernel
theorem dX0_fillingsOf_84 : decode cX0_fillingsOf 84 = .ok (.invokestatic 125, 3) := by decide +kernel
theorem dX0_fillingsOf_87 : decode cX0_fillingsOf 87 = .ok (.iinc 3 1, 3) := by decide +kernel
theorem dX0_fillingsOf_90 : decode cX0_fillingsOf 90 = .ok (.goto (-51), 3) := by decide +kernel
theorem dX0_fillingsOf_93 : decode cX0_fillingsOf 93 = .ok (.aload_n 0, 1) := by decide +kernel
theorem dX0_fillingsOf_94 : decode cX0_fillingsOf 94 = .ok (.getfield 33, 3) := by decide +kernel
theorem dX0_fillingsOf_97 : decode cX0_fillingsOf 97 = .ok (.iload_n 2, 1) := by decide +kernel
theorem dX0_fillingsOf_98 : decode cX0_fillingsOf 98 = .ok (.iaload, 1) := by decide +kernel
theorem dX0_fillingsOf_99 : decode cX0_fillingsOf 99 = .ok (.ireturn, 1) := by decide +kernel
theorem dX0_firstSmeared_0 : decode cX0_firstSmeared 0 = .ok (.iconst 0, 1) := by decide +kernel
theorem dX0_firstSmeared_1 : decode cX0_firstSmeared 1 = .ok (.istore_n 1, 1) := by decide +kernel
theorem dX0_firstSmeared_2 : decode cX0_firstSmeared 2 = .ok (.iload_n 1, 1) := by decide +kernel
theorem dX0_firstSmeared_3 : decode cX0_firstSmeared 3 = .ok (.aload_n 0, 1) := by decide +kernel
theorem dX0_firstSmeared_4 : decode cX0_firstSmeared 4 = .ok (.getfield 63, 3) := by decide +kernel
theorem dX0_firstSmeared_7 : decode cX0_firstSmeared 7 = .ok (.if_icmp .ge 21, 3) := by decide +kernel
theorem dX0_firstSmeared_10 : decode cX0_firstSmeared 10 = .ok (.aload_n 0, 1) := by decide +kernel
theorem dX0_firstSmeared_11 : decode cX0_firstSmeared 11 = .ok (.getfield 19, 3) := by decide +kernel
theorem dX0_firstSmeared_14 : decode cX0_firstSmeared 14 = .ok (.iload_n 1, 1) := by decide +kernel
theorem dX0_firstSmeared_15 : decode cX0_firstSmeared 15 = .ok (.iaload, 1) := by decide +kernel
theorem dX0_firstSmeared_16 : decode cX0_firstSmeared 16 = .ok (.iconst (-1), 1) := by decide +kernel
theorem dX0_firstSmeared_17 : decode cX0_firstSmeared 17 = .ok (.if_icmp .ne 5, 3) := by decide +kernel
theorem dX0_firstSmeared_20 : decode cX0_firstSmeared 20 = .ok (.iload_n 1, 1) := by decide +kernel
theorem dX0_firstSmeared_21 : decode cX0_firstSmeared 21 = .ok (.ireturn, 1) := by decide +kernel
theorem dX0_firstSmeared_22 : decode cX0_firstSmeared 22 = .ok (.iinc 1 1, 3) := by decide +kernel
theorem dX0_firstSmeared_25 : decode cX0_firstSmeared 25 = .ok (.goto (-23), 3) := by decide +kernel
theorem dX0_firstSmeared_28 : decode cX0_firstSmeared 28 = .ok (.bipush (-2), 2) := by decide +kernel
theorem dX0_firstSmeared_30 : decode cX0_firstSmeared 30 = .ok (.ireturn, 1) := by decide +kernel
theorem dX0_fill_0 : decode cX0_fill 0 = .ok (.iload_n 1, 1) := by decide +kernel
theorem dX0_fill_1 : decode cX0_fill 1 = .ok (.ifCond .lt 18, 3) := by decide +kernel
theorem dX0_fill_4 : decode cX0_fill 4 = .ok (.iload_n 1, 1) := by decide +kernel
theorem dX0_fill_5 : decode cX0_fill 5 = .ok (.aload_n 0, 1) := by decide +kernel
theorem dX0_fill_6 : decode cX0_fill 6 = .ok (.getfield 63, 3) := by decide +kernel
theorem dX0_fill_9 : decode cX0_fill 9 = .ok (.if_icmp .ge 10, 3) := by decide +kernel
theorem dX0_fill_12 : decode cX0_fill 12 = .ok (.aload_n 0, 1) := by decide +kernel
theorem dX0_fill_13 : decode cX0_fill 13 = .ok (.getfield 19, 3) := by decide +kernel
theorem dX0_fill_16 : decode cX0_fill 16 = .ok (.iload_n 1, 1) := by decide +kernel
theorem dX0_fill_17 : decode cX0_fill 17 = .ok (.iload_n 2, 1) := by decide +kernel
theorem dX0_fill_18 : decode cX0_fill 18 = .ok (.iastore, 1) := by decide +kernel
theorem dX0_fill_19 : decode cX0_fill 19 = .ok (.return_, 1) := by decide +kernel
theorem dX0_rowsOf_0 : decode cX0_rowsOf 0 = .ok (.iload_n 1, 1) := by decide +kernel
theorem dX0_rowsOf_1 : decode cX0_rowsOf 1 = .ok (.ifCond .lt 27, 3) := by decide +kernel
theorem dX0_rowsOf_4 : decode cX0_rowsOf 4 = .ok (.iload_n 1, 1) := by decide +kernel
theorem dX0_rowsOf_5 : decode cX0_rowsOf 5 = .ok (.bipush 9, 2) := by decide +kernel
theorem dX0_rowsOf_7 : decode cX0_rowsOf 7 = .ok (.if_icmp .gt 21, 3) := by decide +kernel
theorem dX0_rowsOf_10 : decode cX0_rowsOf 10 = .ok (.iload_n 2, 1) := by decide +kernel
theorem dX0_rowsOf_11 : decode cX0_rowsOf 11 = .ok (.invokestatic 129, 3) := by decide +kernel
theorem dX0_rowsOf_14 : decode cX0_rowsOf 14 = .ok (.ifCond .eq 14, 3) := by decide +kernel
theorem dX0_rowsOf_17 : decode cX0_rowsOf 17 = .ok (.aload_n 0, 1) := by decide +kernel
theorem dX0_rowsOf_18 : decode cX0_rowsOf 18 = .ok (.getfield 41, 3) := by decide +kernel
theorem dX0_rowsOf_21 : decode cX0_rowsOf 21 = .ok (.iload_n 1, 1) := by decide +kernel
theorem dX0_rowsOf_22 : decode cX0_rowsOf 22 = .ok (.aaload, 1) := by decide +kernel
theorem dX0_rowsOf_23 : decode cX0_rowsOf 23 = .ok (.iload_n 2, 1) := by decide +kernel
theorem dX0_rowsOf_24 : decode cX0_rowsOf 24 = .ok (.iaload, 1) := by decide +kernel
theorem dX0_rowsOf_25 : decode cX0_rowsOf 25 = .ok (.goto 4, 3) := by decide +kernel
theorem dX0_rowsOf_28 : decode cX0_rowsOf 28 = .ok (.iconst 0, 1) := by decide +kernel
theorem dX0_rowsOf_29 : decode cX0_rowsOf 29 = .ok (.ireturn, 1) := by decide +kernel
theorem dX0_inRow_0 : decode cX0_inRow 0 = .ok (.aload_n 0, 1) := by decide +kernel
theorem dX0_inRow_1 : decode cX0_inRow 1 = .ok (.getfield 26, 3) := by decide +kernel
theorem dX0_inRow_4 : decode cX0_inRow 4 = .ok (.aload_n 1, 1) := by decide +kernel
theorem dX0_inRow_5 : decode cX0_inRow 5 = .ok (.invokevirtual 96, 3) := by decide +kernel
theorem dX0_inRow_8 : decode cX0_inRow 8 = .ok (.iload_n 2, 1) := by decide +kernel
theorem dX0_inRow_9 : decode cX0_inRow 9 = .ok (.istore 5, 2) := by decide +kernel
theorem dX0_inRow_11 : decode cX0_inRow 11 = .ok (.iload_n 3, 1) := by decide +kernel
theorem dX0_inRow_12 : decode cX0_inRow 12 = .ok (.istore 6, 2) := by decide +kernel
theorem dX0_inRow_14 : decode cX0_inRow 14 = .ok (.bipush (-2), 2) := by decide +kernel
theorem dX0_inRow_16 : decode cX0_inRow 16 = .ok (.istore 7, 2) := by decide +kernel
theorem dX0_inRow_18 : decode cX0_inRow 18 = .ok (.iconst 0, 1) := by decide +kernel
theorem dX0_inRow_19 : decode cX0_inRow 19 = .ok (.istore 8, 2) := by decide +kernel
theorem dX0_inRow_21 : decode cX0_inRow 21 = .ok (.iload 8, 2) := by decide +kernel
theorem dX0_inRow_23 : decode cX0_inRow 23 = .ok (.iload 4, 2) := by decide +kernel
theorem dX0_inRow_25 : decode cX0_inRow 25 = .ok (.if_icmp .gt 103, 3) := by decide +kernel
theorem dX0_inRow_28 : decode cX0_inRow 28 = .ok (.aload_n 0, 1) := by decide +kernel
theorem dX0_inRow_29 : decode cX0_inRow 29 = .ok (.getfield 26, 3) := by decide +kernel
theorem dX0_inRow_32 : decode cX0_inRow 32 = .ok (.invokevirtual 53, 3) := by decide +kernel
theorem dX0_inRow_35 : decode cX0_inRow 35 = .ok (.ifCond .le 93, 3) := by decide +kernel
theorem dX0_inRow_38 : decode cX0_inRow 38 = .ok (.aload_n 0, 1) := by decide +kernel
theorem dX0_inRow_39 : decode cX0_inRow 39 = .ok (.getfield 26, 3) := by decide +kernel
theorem dX0_inRow_42 : decode cX0_inRow 42 = .ok (.invokevirtual 53, 3) := by decide +kernel
theorem dX0_inRow_45 : decode cX0_inRow 45 = .ok (.iconst 1, 1) := by decide +kernel
theorem dX0_inRow_46 : decode cX0_inRow 46 = .ok (.isub, 1) := by decide +kernel
theorem dX0_inRow_47 : decode cX0_inRow 47 = .ok (.istore 9, 2) := by decide +kernel
theorem dX0_inRow_49 : decode cX0_inRow 49 = .ok (.iconst 0, 1) := by decide +kernel
theorem dX0_inRow_50 : decode cX0_inRow 50 = .ok (.istore 10, 2) := by decide +kernel
theorem dX0_inRow_52 : decode cX0_inRow 52 = .ok (.iload 10, 2) := by decide +kernel
theorem dX0_inRow_54 : decode cX0_inRow 54 = .ok (.iload 9, 2) := by decide +kernel
theorem dX0_inRow_56 : decode cX0_inRow 56 = .ok (.if_icmp .ge 41, 3) := by decide +kernel
theorem dX0_inRow_59 : decode cX0_inRow 59 = .ok (.iload 6, 2) := by decide +kernel
theorem dX0_inRow_61 : decode cX0_inRow 61 = .ok (.aload_n 0, 1) := by decide +kernel
theorem dX0_inRow_62 : decode cX0_inRow 62 = .ok (.iload 9, 2) := by decide +kernel
theorem dX0_inRow_64 : decode cX0_inRow 64 = .ok (.iload 5, 2) := by decide +kernel
theorem dX0_inRow_66 : decode cX0_inRow 66 = .ok (.iload 10, 2) := by decide +kernel
theorem dX0_inRow_68 : decode cX0_inRow 68 = .ok (.isub, 1) := by decide +kernel
theorem dX0_inRow_69 : decode cX0_inRow 69 = .ok (.invokevirtual 133, 3) := by decide +kernel
theorem dX0_inRow_72 : decode cX0_inRow 72 = .ok (.if_icmp .lt 25, 3) := by decide +kernel
theorem dX0_inRow_75 : decode cX0_inRow 75 = .ok (.iload 6, 2) := by decide +kernel
theorem dX0_inRow_77 : decode cX0_inRow 77 = .ok (.aload_n 0, 1) := by decide +kernel
theorem dX0_inRow_78 : decode cX0_inRow 78 = .ok (.iload 9, 2) := by decide +kernel
theorem dX0_inRow_80 : decode cX0_inRow 80 = .ok (.iload 5, 2) := by decide +kernel
theorem dX0_inRow_82 : decode cX0_inRow 82 = .ok (.iload 10, 2) := by decide +kernel
theorem dX0_inRow_84 : decode cX0_inRow 84 = .ok (.isub, 1) := by decide +kernel
theorem dX0_inRow_85 : decode cX0_inRow 85 = .ok (.invokevirtual 133, 3) := by decide +kernel
theorem dX0_inRow_88 : decode cX0_inRow 88 = .ok (.isub, 1) := by decide +kernel
theorem dX0_inRow_89 : decode cX0_inRow 89 = .ok (.istore 6, 2) := by decide +kernel
theorem dX0_inRow_91 : decode cX0_inRow 91 = .ok (.iinc 10 1, 3) := by decide +kernel
theorem dX0_inRow_94 : decode cX0_inRow 94 = .ok (.goto (-42), 3) := by decide +kernel
theorem dX0_inRow_97 : decode cX0_inRow 97 = .ok (.iload 5, 2) := by decide +kernel
theorem dX0_inRow_99 : decode cX0_inRow 99 = .ok (.iload 10, 2) := by decide +kernel
theorem dX0_inRow_101 : decode cX0_inRow 101 = .ok (.isub, 1) := by decide +kernel
theorem dX0_inRow_102 : decode cX0_inRow 102 = .ok (.istore 5, 2) := by decide +kernel
theorem dX0_inRow_104 : decode cX0_inRow 104 = .ok (.aload_n 0, 1) := by decide +kernel
theorem dX0_inRow_105 : decode cX0_inRow 105 = .ok (.getfield 26, 3) := by decide +kernel
theorem dX0_inRow_108 : decode cX0_inRow 108 = .ok (.aload_n 0, 1) := by decide +kernel
theorem dX0_inRow_109 : decode cX0_inRow 109 = .ok (.iload 9, 2) := by decide +kernel
theorem dX0_inRow_111 : decode cX0_inRow 111 = .ok (.iload 10, 2) := by decide +kernel
theorem dX0_inRow_113 : decode cX0_inRow 113 = .ok (.isub, 1) := by decide +kernel
theorem dX0_inRow_114 : decode cX0_inRow 114 = .ok (.invokevirtual 100, 3) := by decide +kernel
theorem dX0_inRow_117 : decode cX0_inRow 117 = .ok (.invokevirtual 103, 3) := by decide +kernel
theorem dX0_inRow_120 : decode cX0_inRow 120 = .ok (.istore 7, 2) := by decide +kernel
theorem dX0_inRow_122 : decode cX0_inRow 122 = .ok (.iinc 8 1, 3) := by decide +kernel
theorem dX0_inRow_125 : decode cX0_inRow 125 = .ok (.goto (-104), 3) := by decide +kernel
theorem dX0_inRow_128 : decode cX0_inRow 128 = .ok (.iload 7, 2) := by decide +kernel
theorem dX0_inRow_130 : decode cX0_inRow 130 = .ok (.ireturn, 1) := by decide +kernel
theorem dX0_changesTo_0 : decode cX0_changesTo 0 = .ok (.aload_n 0, 1) := by decide +kernel
theorem dX0_changesTo_1 : decode cX0_changesTo 1 = .ok (.getfield 15, 3) := by decide +kernel
theorem dX0_changesTo_4 : decode cX0_changesTo 4 = .ok (.iload_n 1, 1) := by decide +kernel
theorem dX0_changesTo_5 : decode cX0_changesTo 5 = .ok (.invokevirtual 47, 3) := by decide +kernel
theorem dX0_changesTo_8 : decode cX0_changesTo 8 = .ok (.aload_n 2, 1) := by decide +kernel
theorem dX0_changesTo_9 : decode cX0_changesTo 9 = .ok (.invokevirtual 53, 3) := by decide +kernel
theorem dX0_changesTo_12 : decode cX0_changesTo 12 = .ok (.if_icmp .eq 6, 3) := by decide +kernel
theorem dX0_changesTo_15 : decode cX0_changesTo 15 = .ok (.bipush (-5), 2) := by decide +kernel
theorem dX0_changesTo_17 : decode cX0_changesTo 17 = .ok (.ireturn, 1) := by decide +kernel
theorem dX0_changesTo_18 : decode cX0_changesTo 18 = .ok (.aload_n 0, 1) := by decide +kernel
theorem dX0_changesTo_19 : decode cX0_changesTo 19 = .ok (.getfield 30, 3) := by decide +kernel
theorem dX0_changesTo_22 : decode cX0_changesTo 22 = .ok (.invokevirtual 136, 3) := by decide +kernel
theorem dX0_changesTo_25 : decode cX0_changesTo 25 = .ok (.iconst 0, 1) := by decide +kernel
theorem dX0_changesTo_26 : decode cX0_changesTo 26 = .ok (.istore_n 3, 1) := by decide +kernel
theorem dX0_changesTo_27 : decode cX0_changesTo 27 = .ok (.iload_n 3, 1) := by decide +kernel
theorem dX0_changesTo_28 : decode cX0_changesTo 28 = .ok (.aload_n 2, 1) := by decide +kernel
theorem dX0_changesTo_29 : decode cX0_changesTo 29 = .ok (.invokevirtual 53, 3) := by decide +kernel
theorem dX0_changesTo_32 : decode cX0_changesTo 32 = .ok (.if_icmp .ge 55, 3) := by decide +kernel
theorem dX0_changesTo_35 : decode cX0_changesTo 35 = .ok (.aload_n 0, 1) := by decide +kernel
theorem dX0_changesTo_36 : decode cX0_changesTo 36 = .ok (.getfield 15, 3) := by decide +kernel
theorem dX0_changesTo_39 : decode cX0_changesTo 39 = .ok (.iload_n 1, 1) := by decide +kernel
theorem dX0_changesTo_40 : decode cX0_changesTo 40 = .ok (.iload_n 3, 1) := by decide +kernel
theorem dX0_changesTo_41 : decode cX0_changesTo 41 = .ok (.invokevirtual 66, 3) := by decide +kernel
theorem dX0_changesTo_44 : decode cX0_changesTo 44 = .ok (.l2i, 1) := by decide +kernel
theorem dX0_changesTo_45 : decode cX0_changesTo 45 = .ok (.istore 4, 2) := by decide +kernel
theorem dX0_changesTo_47 : decode cX0_changesTo 47 = .ok (.aload_n 2, 1) := by decide +kernel
theorem dX0_changesTo_48 : decode cX0_changesTo 48 = .ok (.iload 4, 2) := by decide +kernel
theorem dX0_changesTo_50 : decode cX0_changesTo 50 = .ok (.invokevirtual 139, 3) := by decide +kernel
theorem dX0_changesTo_53 : decode cX0_changesTo 53 = .ok (.ifCond .lt 15, 3) := by decide +kernel
theorem dX0_changesTo_56 : decode cX0_changesTo 56 = .ok (.aload_n 0, 1) := by decide +kernel
theorem dX0_changesTo_57 : decode cX0_changesTo 57 = .ok (.getfield 30, 3) := by decide +kernel
theorem dX0_changesTo_60 : decode cX0_changesTo 60 = .ok (.iload 4, 2) := by decide +kernel
theorem dX0_changesTo_62 : decode cX0_changesTo 62 = .ok (.invokevirtual 139, 3) := by decide +kernel
theorem dX0_changesTo_65 : decode cX0_changesTo 65 = .ok (.ifCond .lt 6, 3) := by decide +kernel
theorem dX0_changesTo_68 : decode cX0_changesTo 68 = .ok (.bipush (-5), 2) := by decide +kernel
theorem dX0_changesTo_70 : decode cX0_changesTo 70 = .ok (.ireturn, 1) := by decide +kernel
theorem dX0_changesTo_71 : decode cX0_changesTo 71 = .ok (.aload_n 0, 1) := by decide +kernel
theorem dX0_changesTo_72 : decode cX0_changesTo 72 = .ok (.getfield 30, 3) := by decide +kernel
theorem dX0_changesTo_75 : decode cX0_changesTo 75 = .ok (.iload 4, 2) := by decide +kernel
theorem dX0_changesTo_77 : decode cX0_changesTo 77 = .ok (.iload_n 3, 1) := by decide +kernel
theorem dX0_changesTo_78 : decode cX0_changesTo 78 = .ok (.invokevirtual 142, 3) := by decide +kernel
theorem dX0_changesTo_81 : decode cX0_changesTo 81 = .ok (.iinc 3 1, 3) := by decide +kernel
theorem dX0_changesTo_84 : decode cX0_changesTo 84 = .ok (.goto (-57), 3) := by decide +kernel
theorem dX0_changesTo_87 : decode cX0_changesTo 87 = .ok (.iconst 0, 1) := by decide +kernel
theorem dX0_changesTo_88 : decode cX0_changesTo 88 = .ok (.istore_n 3, 1) := by decide +kernel
theorem dX0_changesTo_89 : decode cX0_changesTo 89 = .ok (.iconst 1, 1) := by decide +kernel
theorem dX0_changesTo_90 : decode cX0_changesTo 90 = .ok (.istore 4, 2) := by decide +kernel
theorem dX0_changesTo_92 : decode cX0_changesTo 92 = .ok (.iload 4, 2) := by decide +kernel
theorem dX0_changesTo_94 : decode cX0_changesTo 94 = .ok (.aload_n 0, 1) := by decide +kernel
theorem dX0_changesTo_95 : decode cX0_changesTo 95 = .ok (.getfield 30, 3) := by decide +kernel
theorem dX0_changesTo_98 : decode cX0_changesTo 98 = .ok (.invokevirtual 53, 3) := by decide +kernel
theorem dX0_changesTo_101 : decode cX0_changesTo 101 = .ok (.if_icmp .ge 57, 3) := by decide +kernel
theorem dX0_changesTo_104 : decode cX0_changesTo 104 = .ok (.iconst 0, 1) := by decide +kernel
theorem dX0_changesTo_105 : decode cX0_changesTo 105 = .ok (.istore 5, 2) := by decide +kernel
theorem dX0_changesTo_107 : decode cX0_changesTo 107 = .ok (.iload 5, 2) := by decide +kernel
theorem dX0_changesTo_109 : decode cX0_changesTo 109 = .ok (.iload 4, 2) := by decide +kernel
theorem dX0_changesTo_111 : decode cX0_changesTo 111 = .ok (.if_icmp .ge 41, 3) := by decide +kernel
theorem dX0_changesTo_114 : decode cX0_changesTo 114 = .ok (.aload_n 2, 1) := by decide +kernel
theorem dX0_changesTo_115 : decode cX0_changesTo 115 = .ok (.aload_n 0, 1) := by decide +kernel
theorem dX0_changesTo_116 : decode cX0_changesTo 116 = .ok (.getfield 30, 3) := by decide +kernel
theorem dX0_changesTo_119 : decode cX0_changesTo 119 = .ok (.iload 5, 2) := by decide +kernel
theorem dX0_changesTo_121 : decode cX0_changesTo 121 = .ok (.invokevirtual 145, 3) := by decide +kernel
theorem dX0_changesTo_124 : decode cX0_changesTo 124 = .ok (.invokevirtual 139, 3) := by decide +kernel
theorem dX0_changesTo_127 : decode cX0_changesTo 127 = .ok (.aload_n 2, 1) := by decide +kernel
theorem dX0_changesTo_128 : decode cX0_changesTo 128 = .ok (.aload_n 0, 1) := by decide +kernel
theorem dX0_changesTo_129 : decode cX0_changesTo 129 = .ok (.getfield 30, 3) := by decide +kernel
theorem dX0_changesTo_132 : decode cX0_changesTo 132 = .ok (.iload 4, 2) := by decide +kernel
theorem dX0_changesTo_134 : decode cX0_changesTo 134 = .ok (.invokevirtual 145, 3) := by decide +kernel
theorem dX0_changesTo_137 : decode cX0_changesTo 137 = .ok (.invokevirtual 139, 3) := by decide +kernel
theorem dX0_changesTo_140 : decode cX0_changesTo 140 = .ok (.if_icmp .le 6, 3) := by decide +kernel
theorem dX0_changesTo_143 : decode cX0_changesTo 143 = .ok (.iinc 3 1, 3) := by decide +kernel
theorem dX0_changesTo_146 : decode cX0_changesTo 146 = .ok (.iinc 5 1, 3) := by decide +kernel
theorem dX0_changesTo_149 : decode cX0_changesTo 149 = .ok (.goto (-42), 3) := by decide +kernel
theorem dX0_changesTo_152 : decode cX0_changesTo 152 = .ok (.iinc 4 1, 3) := by decide +kernel
theorem dX0_changesTo_155 : decode cX0_changesTo 155 = .ok (.goto (-63), 3) := by decide +kernel
theorem dX0_changesTo_158 : decode cX0_changesTo 158 = .ok (.iload_n 3, 1) := by decide +kernel
theorem dX0_changesTo_159 : decode cX0_changesTo 159 = .ok (.ireturn, 1) := by decide +kernel
theorem dX0_countRows_0 : decode cX0_countRows 0 = .ok (.aload_n 0, 1) := by decide +kernel
theorem dX0_countRows_1 : decode cX0_countRows 1 = .ok (.getfield 41, 3) := by decide +kernel
theorem dX0_countRows_4 : decode cX0_countRows 4 = .ok (.iconst 0, 1) := by decide +kernel
theorem dX0_countRows_5 : decode cX0_countRows 5 = .ok (.aaload, 1) := by decide +kernel
theorem dX0_countRows_6 : decode cX0_countRows 6 = .ok (.iconst 0, 1) := by decide +kernel
theorem dX0_countRows_7 : decode cX0_countRows 7 = .ok (.iconst 1, 1) := by decide +kernel
theorem dX0_countRows_8 : decode cX0_countRows 8 = .ok (.iastore, 1) := by decide +kernel
theorem dX0_countRows_9 : decode cX0_countRows 9 = .ok (.iconst 1, 1) := by decide +kernel
theorem dX0_countRows_10 : decode cX0_countRows 10 = .ok (.istore_n 1, 1) := by decide +kernel
theorem dX0_countRows_11 : decode cX0_countRows 11 = .ok (.iload_n 1, 1) := by decide +kernel
theorem dX0_countRows_12 : decode cX0_countRows 12 = .ok (.bipush 9, 2) := by decide +kernel
theorem dX0_countRows_14 : decode cX0_countRows 14 = .ok (.if_icmp .gt 29, 3) := by decide +kernel
theorem dX0_countRows_17 : decode cX0_countRows 17 = .ok (.aload_n 0, 1) := by decide +kernel
theorem dX0_countRows_18 : decode cX0_countRows 18 = .ok (.getfield 41, 3) := by decide +kernel
theorem dX0_countRows_21 : decode cX0_countRows 21 = .ok (.iload_n 1, 1) := by decide +kernel
theorem dX0_countRows_22 : decode cX0_countRows 22 = .ok (.iconst 1, 1) := by decide +kernel
theorem dX0_countRows_23 : decode cX0_countRows 23 = .ok (.isub, 1) := by decide +kernel
theorem dX0_countRows_24 : decode cX0_countRows 24 = .ok (.aaload, 1) := by decide +kernel
theorem dX0_countRows_25 : decode cX0_countRows 25 = .ok (.aload_n 0, 1) := by decide +kernel
theorem dX0_countRows_26 : decode cX0_countRows 26 = .ok (.getfield 41, 3) := by decide +kernel
theorem dX0_countRows_29 : decode cX0_countRows 29 = .ok (.iload_n 1, 1) := by decide +kernel
theorem dX0_countRows_30 : decode cX0_countRows 30 = .ok (.aaload, 1) := by decide +kernel
theorem dX0_countRows_31 : decode cX0_countRows 31 = .ok (.iload_n 1, 1) := by decide +kernel
theorem dX0_countRows_32 : decode cX0_countRows 32 = .ok (.iconst 1, 1) := by decide +kernel
theorem dX0_countRows_33 : decode cX0_countRows 33 = .ok (.isub, 1) := by decide +kernel
theorem dX0_countRows_34 : decode cX0_countRows 34 = .ok (.invokestatic 125, 3) := by decide +kernel
theorem dX0_countRows_37 : decode cX0_countRows 37 = .ok (.iinc 1 1, 3) := by decide +kernel
theorem dX0_countRows_40 : decode cX0_countRows 40 = .ok (.goto (-29), 3) := by decide +kernel
theorem dX0_countRows_43 : decode cX0_countRows 43 = .ok (.return_, 1) := by decide +kernel
theorem fl_X0_15 : Cond.fieldLink RX0 15 (TX0 1).1 (TX0 1).2.1 (TX0 1).2.2.1 ∈ wsL_law := (uw6 _ (List.mem_of_getElem? (i := 7) rfl))
theorem fl_X0_19 : Cond.fieldLink RX0 19 (TX0 2).1 (TX0 2).2.1 (TX0 2).2.2.1 ∈ wsL_law := (uw6 _ (List.mem_of_getElem? (i := 8) rfl))
theorem fl_X0_26 : Cond.fieldLink RX0 26 (TX0 4).1 (TX0 4).2.1 (TX0 4).2.2.1 ∈ wsL_law := (uw6 _ (List.mem_of_getElem? (i := 10) rfl))
theorem fl_X0_30 : Cond.fieldLink RX0 30 (TX0 5).1 (TX0 5).2.1 (TX0 5).2.2.1 ∈ wsL_law := (uw6 _ (List.mem_of_getElem? (i := 11) rfl))
theorem fl_X0_33 : Cond.fieldLink RX0 33 (TX0 6).1 (TX0 6).2.1 (TX0 6).2.2.1 ∈ wsL_law := (uw6 _ (List.mem_of_getElem? (i := 12) rfl))
theorem fl_X0_36 : Cond.fieldLink RX0 36 (TX0 7).1 (TX0 7).2.1 (TX0 7).2.2.1 ∈ wsL_law := (uw6 _ (List.mem_of_getElem? (i := 13) rfl))
theorem fl_X0_41 : Cond.fieldLink RX0 41 (TX0 8).1 (TX0 8).2.1 (TX0 8).2.2.1 ∈ wsL_law := (uw6 _ (List.mem_of_getElem? (i := 15) rfl))
theorem fl_X0_63 : Cond.fieldLink RX0 63 (TX0 3).1 (TX0 3).2.1 (TX0 3).2.2.1 ∈ wsL_law := (uw32 _ (List.mem_of_getElem? (i := 11) rfl))
theorem fl_X0_9 : Cond.fieldLink RX0 9 (TX0 0).1 (TX0 0).2.1 (TX0 0).2.2.1 ∈ wsL_law := (uw6 _ (List.mem_of_getElem? (i := 6) rfl))
theorem hy_X0_firstFalse : Cond.code yX0_firstFalse cX0_firstFalse 2 (some .int) ∈ wsL_law ∧ Cond.initialized yX0_firstFalse.cls ∈ wsL_law ∧ Cond.instanceMethod yX0_firstFalse ∈ wsL_law ∧ Cond.selects yX0_firstFalse.cls yX0_firstFalse yX0_firstFalse ∈ wsL_law := ⟨(uw33 _ (List.mem_of_getElem? (i := 0) rfl)), (uw2 _ (List.mem_of_getElem? (i := 20) rfl)), (uw32 _ (List.mem_of_getElem? (i := 22) rfl)), (uw32 _ (List.mem_of_getElem? (i := 23) rfl))⟩
theorem hd_X0_firstFalse : yX0_firstFalse.cls ≠ "java/lang/invoke/MethodHandle" ∧ yX0_firstFalse.cls ≠ "java/lang/invoke/VarHandle" ∧ (parseMethodDescriptor yX0_firstFalse.desc).map (fun d => d.parameters.length) = some 0 := ⟨by decide +kernel, by decide +kernel, by decide +kernel⟩
theorem hy_X0_isDisquiet : Cond.code yX0_isDisquiet cX0_isDisquiet 1 (some .boolean) ∈ wsL_law ∧ Cond.initialized yX0_isDisquiet.cls ∈ wsL_law ∧ Cond.static yX0_isDisquiet ∈ wsL_law := ⟨(uw37 _ (List.mem_of_getElem? (i := 17) rfl)), (uw2 _ (List.mem_of_getElem? (i := 20) rfl)), (uw37 _ (List.mem_of_getElem? (i := 16) rfl))⟩
theorem hd_X0_isDisquiet : yX0_isDisquiet.cls ≠ "java/lang/invoke/MethodHandle" ∧ yX0_isDisquiet.cls ≠ "java/lang/invoke/VarHandle" ∧ (parseMethodDescriptor yX0_isDisquiet.desc).map (fun d => d.parameters.length) = some 1 := ⟨by decide +kernel, by decide +kernel, by decide +kernel⟩
theorem hy_X0_open : Cond.code yX0_open cX0_open 4 none ∈ wsL_law ∧ Cond.initialized yX0_open.cls ∈ wsL_law ∧ Cond.instanceMethod yX0_open ∈ wsL_law ∧ Cond.selects yX0_open.cls yX0_open yX0_open ∈ wsL_law := ⟨(uw32 _ (List.mem_of_getElem? (i := 16) rfl)), (uw2 _ (List.mem_of_getElem? (i := 20) rfl)), (uw32 _ (List.mem_of_getElem? (i := 14) rfl)), (uw32 _ (List.mem_of_getElem? (i := 15) rfl))⟩
theorem hd_X0_open : yX0_open.cls ≠ "java/lang/invoke/MethodHandle" ∧ yX0_open.cls ≠ "java/lang/invoke/VarHandle" ∧ (parseMethodDescriptor yX0_open.desc).map (fun d => d.parameters.length) = some 2 := ⟨by decide +kernel, by decide +kernel, by decide +kernel⟩
theorem hy_X0_placeInLeft : Cond.code yX0_placeInLeft cX0_placeInLeft 5 (some .int) ∈ wsL_law ∧ Cond.initialized yX0_placeInLeft.cls ∈ wsL_law ∧ Cond.instanceMethod yX0_placeInLeft ∈ wsL_law ∧ Cond.selects yX0_placeInLeft.cls yX0_placeInLeft yX0_placeInLeft ∈ wsL_law := ⟨(uw33 _ (List.mem_of_getElem? (i := 13) rfl)), (uw2 _ (List.mem_of_getElem? (i := 20) rfl)), (uw33 _ (List.mem_of_getElem? (i := 11) rfl)), (uw33 _ (List.mem_of_getElem? (i := 12) rfl))⟩
theorem hd_X0_placeInLeft : yX0_placeInLeft.cls ≠ "java/lang/invoke/MethodHandle" ∧ yX0_placeInLeft.cls ≠ "java/lang/invoke/VarHandle" ∧ (parseMethodDescriptor yX0_placeInLeft.desc).map (fun d => d.parameters.length) = some 1 := ⟨by decide +kernel, by decide +kernel, by decide +kernel⟩
theorem hy_X0_refusalToFill : Cond.code yX0_refusalToFill cX0_refusalToFill 4 (some .int) ∈ wsL_law ∧ Cond.initialized yX0_refusalToFill.cls ∈ wsL_law ∧ Cond.instanceMethod yX0_refusalToFill ∈ wsL_law ∧ Cond.selects yX0_refusalToFill.cls yX0_refusalToFill yX0_refusalToFill ∈ wsL_law := ⟨(uw32 _ (List.mem_of_getElem? (i := 10) rfl)), (uw2 _ (List.mem_of_getElem? (i := 20) rfl)), (uw32 _ (List.mem_of_getElem? (i := 8) rfl)), (uw32 _ (List.mem_of_getElem? (i := 9) rfl))⟩
theorem hd_X0_refusalToFill : yX0_refusalToFill.cls ≠ "java/lang/invoke/MethodHandle" ∧ yX0_refusalToFill.cls ≠ "java/lang/invoke/VarHandle" ∧ (parseMethodDescriptor yX0_refusalToFill.desc).map (fun d => d.parameters.length) = some 2 := ⟨by decide +kernel, by decide +kernel, by decide +kernel⟩
theorem hy_X0_rowsOf : Cond.code yX0_rowsOf cX0_rowsOf 3 (some .int) ∈ wsL_law ∧ Cond.initialized yX0_rowsOf.cls ∈ wsL_law ∧ Cond.instanceMethod yX0_rowsOf ∈ wsL_law ∧ Cond.selects yX0_rowsOf.cls yX0_rowsOf yX0_rowsOf ∈ wsL_law := ⟨(uw40 _ (List.mem_of_getElem? (i := 0) rfl)), (uw2 _ (List.mem_of_getElem? (i := 20) rfl)), (uw39 _ (List.mem_of_getElem? (i := 22) rfl)), (uw39 _ (List.mem_of_getElem? (i := 23) rfl))⟩
theorem hd_X0_rowsOf : yX0_rowsOf.cls ≠ "java/lang/invoke/MethodHandle" ∧ yX0_rowsOf.cls ≠ "java/lang/invoke/VarHandle" ∧ (parseMethodDescriptor yX0_rowsOf.desc).map (fun d => d.parameters.length) = some 2 := ⟨by decide +kernel, by decide +kernel, by decide +kernel⟩
theorem hy_X0_smearedOnes : Cond.code yX0_smearedOnes cX0_smearedOnes 3 (some .int) ∈ wsL_law ∧ Cond.initialized yX0_smearedOnes.cls ∈ wsL_law ∧ Cond.instanceMethod yX0_smearedOnes ∈ wsL_law ∧ Cond.selects yX0_smearedOnes.cls yX0_smearedOnes yX0_smearedOnes ∈ wsL_law := ⟨(uw33 _ (List.mem_of_getElem? (i := 4) rfl)), (uw2 _ (List.mem_of_getElem? (i := 20) rfl)), (uw33 _ (List.mem_of_getElem? (i := 2) rfl)), (uw33 _ (List.mem_of_getElem? (i := 3) rfl))⟩
theorem hd_X0_smearedOnes : yX0_smearedOnes.cls ≠ "java/lang/invoke/MethodHandle" ∧ yX0_smearedOnes.cls ≠ "java/lang/invoke/VarHandle" ∧ (parseMethodDescriptor yX0_smearedOnes.desc).map (fun d => d.parameters.length) = some 0 := ⟨by decide +kernel, by decide +kernel, by decide +kernel⟩
theorem hy_X0_spread : Cond.code yX0_spread cX0_spread 5 none ∈ wsL_law ∧ Cond.initialized yX0_spread.cls ∈ wsL_law ∧ Cond.static yX0_spread ∈ wsL_law := ⟨(uw6 _ (List.mem_of_getElem? (i := 23) rfl)), (uw2 _ (List.mem_of_getElem? (i := 20) rfl)), (uw6 _ (List.mem_of_getElem? (i := 22) rfl))⟩
theorem hd_X0_spread : yX0_spread.cls ≠ "java/lang/invoke/MethodHandle" ∧ yX0_spread.cls ≠ "java/lang/invoke/VarHandle" ∧ (parseMethodDescriptor yX0_spread.desc).map (fun d => d.parameters.length) = some 3 := ⟨by decide +kernel, by decide +kernel, by decide +kernel⟩
theorem hy_X0_sumOfNumbers : Cond.code yX0_sumOfNumbers cX0_sumOfNumbers 3 (some .int) ∈ wsL_law ∧ Cond.initialized yX0_sumOfNumbers.cls ∈ wsL_law ∧ Cond.instanceMethod yX0_sumOfNumbers ∈ wsL_law ∧ Cond.selects yX0_sumOfNumbers.cls yX0_sumOfNumbers yX0_sumOfNumbers ∈ wsL_law := ⟨(uw38 _ (List.mem_of_getElem? (i := 7) rfl)), (uw2 _ (List.mem_of_getElem? (i := 20) rfl)), (uw38 _ (List.mem_of_getElem? (i := 5) rfl)), (uw38 _ (List.mem_of_getElem? (i := 6) rfl))⟩
theorem hd_X0_sumOfNumbers : yX0_sumOfNumbers.cls ≠ "java/lang/invoke/MethodHandle" ∧ yX0_sumOfNumbers.cls ≠ "java/lang/invoke/VarHandle" ∧ (parseMethodDescriptor yX0_sumOfNumbers.desc).map (fun d => d.parameters.length) = some 0 := ⟨by decide +kernel, by decide +kernel, by decide +kernel⟩
theorem hy_X7_clear : Cond.code yX7_clear cX7_clear 1 none ∈ wsL_law ∧ Cond.initialized yX7_clear.cls ∈ wsL_law ∧ Cond.instanceMethod yX7_clear ∈ wsL_law ∧ Cond.selects yX7_clear.cls yX7_clear yX7_clear ∈ wsL_law := ⟨(uw43 _ (List.mem_of_getElem? (i := 14) rfl)), (uw1 _ (List.mem_of_getElem? (i := 19) rfl)), (uw43 _ (List.mem_of_getElem? (i := 12) rfl)), (uw43 _ (List.mem_of_getElem? (i := 13) rfl))⟩
theorem hd_X7_clear : yX7_clear.cls ≠ "java/lang/invoke/MethodHandle" ∧ yX7_clear.cls ≠ "java/lang/invoke/VarHandle" ∧ (parseMethodDescriptor yX7_clear.desc).map (fun d => d.parameters.length) = some 0 := ⟨by decide +kernel, by decide +kernel, by decide +kernel⟩
theorem hy_X7_insert : Cond.code yX7_insert cX7_insert 4 none ∈ wsL_law ∧ Cond.initialized yX7_insert.cls ∈ wsL_law ∧ Cond.instanceMethod yX7_insert ∈ wsL_law ∧ Cond.selects yX7_insert.cls yX7_insert yX7_insert ∈ wsL_law := ⟨(uw10 _ (List.mem_of_getElem? (i := 2) rfl)), (uw1 _ (List.mem_of_getElem? (i := 19) rfl)), (uw10 _ (List.mem_of_getElem? (i := 0) rfl)), (uw10 _ (List.mem_of_getElem? (i := 1) rfl))⟩
theorem hd_X7_insert : yX7_insert.cls ≠ "java/lang/invoke/MethodHandle" ∧ yX7_insert.cls ≠ "java/lang/invoke/VarHandle" ∧ (parseMethodDescriptor yX7_insert.desc).map (fun d => d.parameters.length) = some 2 := ⟨by decide +kernel, by decide +kernel, by decide +kernel⟩
theorem hy_X7_placeOf : Cond.code yX7_placeOf cX7_placeOf 3 (some .int) ∈ wsL_law ∧ Cond.initialized yX7_placeOf.cls ∈ wsL_law ∧ Cond.instanceMethod yX7_placeOf ∈ wsL_law ∧ Cond.selects yX7_placeOf.cls yX7_placeOf yX7_placeOf ∈ wsL_law := ⟨(uw15 _ (List.mem_of_getElem? (i := 5) rfl)), (uw1 _ (List.mem_of_getElem? (i := 19) rfl)), (uw15 _ (List.mem_of_getElem? (i := 3) rfl)), (uw15 _ (List.mem_of_getElem? (i := 4) rfl))⟩
theorem hd_X7_placeOf : yX7_placeOf.cls ≠ "java/lang/invoke/MethodHandle" ∧ yX7_placeOf.cls ≠ "java/lang/invoke/VarHandle" ∧ (parseMethodDescriptor yX7_placeOf.desc).map (fun d => d.parameters.length) = some 1 := ⟨by decide +kernel, by decide +kernel, by decide +kernel⟩
theorem hy_X7_removeAt : Cond.code yX7_removeAt cX7_removeAt 4 (some .int) ∈ wsL_law ∧ Cond.initialized yX7_removeAt.cls ∈ wsL_law ∧ Cond.instanceMethod yX7_removeAt ∈ wsL_law ∧ Cond.selects yX7_removeAt.cls yX7_removeAt yX7_removeAt ∈ wsL_law := ⟨(uw30 _ (List.mem_of_getElem? (i := 19) rfl)), (uw1 _ (List.mem_of_getElem? (i := 19) rfl)), (uw30 _ (List.mem_of_getElem? (i := 17) rfl)), (uw30 _ (List.mem_of_getElem? (i := 18) rfl))⟩
theorem hd_X7_removeAt : yX7_removeAt.cls ≠ "java/lang/invoke/MethodHandle" ∧ yX7_removeAt.cls ≠ "java/lang/invoke/VarHandle" ∧ (parseMethodDescriptor yX7_removeAt.desc).map (fun d => d.parameters.length) = some 1 := ⟨by decide +kernel, by decide +kernel, by decide +kernel⟩
theorem hy_X7_setAt : Cond.code yX7_setAt cX7_setAt 3 none ∈ wsL_law ∧ Cond.initialized yX7_setAt.cls ∈ wsL_law ∧ Cond.instanceMethod yX7_setAt ∈ wsL_law ∧ Cond.selects yX7_setAt.cls yX7_setAt yX7_setAt ∈ wsL_law := ⟨(uw33 _ (List.mem_of_getElem? (i := 20) rfl)), (uw1 _ (List.mem_of_getElem? (i := 19) rfl)), (uw33 _ (List.mem_of_getElem? (i := 18) rfl)), (uw33 _ (List.mem_of_getElem? (i := 19) rfl))⟩
theorem hd_X7_setAt : yX7_setAt.cls ≠ "java/lang/invoke/MethodHandle" ∧ yX7_setAt.cls ≠ "java/lang/invoke/VarHandle" ∧ (parseMethodDescriptor yX7_setAt.desc).map (fun d => d.parameters.length) = some 2 := ⟨by decide +kernel, by decide +kernel, by decide +kernel⟩
theorem hy_X9_refusalOfBytes : Cond.code yX9_refusalOfBytes cX9_refusalOfBytes 2 (some .int) ∈ wsL_law ∧ Cond.initialized yX9_refusalOfBytes.cls ∈ wsL_law ∧ Cond.instanceMethod yX9_refusalOfBytes ∈ wsL_law ∧ Cond.selects yX9_refusalOfBytes.cls yX9_refusalOfBytes yX9_refusalOfBytes ∈ wsL_law := ⟨(uw11 _ (List.mem_of_getElem? (i := 8) rfl)), (uw2 _ (List.mem_of_getElem? (i := 16) rfl)), (uw11 _ (List.mem_of_getElem? (i := 6) rfl)), (uw11 _ (List.mem_of_getElem? (i := 7) rfl))⟩
theorem hd_X9_refusalOfBytes : yX9_refusalOfBytes.cls ≠ "java/lang/invoke/MethodHandle" ∧ yX9_refusalOfBytes.cls ≠ "java/lang/invoke/VarHandle" ∧ (parseMethodDescriptor yX9_refusalOfBytes.desc).map (fun d => d.parameters.length) = some 1 := ⟨by decide +kernel, by decide +kernel, by decide +kernel⟩
theorem hy_X9_valueAt : Cond.code yX9_valueAt cX9_valueAt 3 (some .long) ∈ wsL_law ∧ Cond.initialized yX9_valueAt.cls ∈ wsL_law ∧ Cond.instanceMethod yX9_valueAt ∈ wsL_law ∧ Cond.selects yX9_valueAt.cls yX9_valueAt yX9_valueAt ∈ wsL_law := ⟨(uw12 _ (List.mem_of_getElem? (i := 1) rfl)), (uw2 _ (List.mem_of_getElem? (i := 16) rfl)), (uw11 _ (List.mem_of_getElem? (i := 23) rfl)), (uw12 _ (List.mem_of_getElem? (i := 0) rfl))⟩
theorem hd_X9_valueAt : yX9_valueAt.cls ≠ "java/lang/invoke/MethodHandle" ∧ yX9_valueAt.cls ≠ "java/lang/invoke/VarHandle" ∧ (parseMethodDescriptor yX9_valueAt.desc).map (fun d => d.parameters.length) = some 2 := ⟨by decide +kernel, by decide +kernel, by decide +kernel⟩
theorem ml_X0_100 : Cond.methodLink RX0 100 yX0_placeInLeft ∈ wsL_law := (uw33 _ (List.mem_of_getElem? (i := 10) rfl))
theorem ml_X0_103 : Cond.methodLink RX0 103 yX7_removeAt ∈ wsL_law := (uw33 _ (List.mem_of_getElem? (i := 16) rfl))
theorem ml_X0_106 : Cond.methodLink RX0 106 yX7_setAt ∈ wsL_law := (uw33 _ (List.mem_of_getElem? (i := 17) rfl))
theorem ml_X0_110 : Cond.methodLink RX0 110 yX0_sumOfNumbers ∈ wsL_law := (uw38 _ (List.mem_of_getElem? (i := 4) rfl))
theorem ml_X0_113 : Cond.methodLink RX0 113 yJ7_fill_53178 ∈ wsL_law := (uw38 _ (List.mem_of_getElem? (i := 9) rfl))
theorem ml_X0_125 : Cond.methodLink RX0 125 yX0_spread ∈ wsL_law := (uw6 _ (List.mem_of_getElem? (i := 21) rfl))
theorem ml_X0_129 : Cond.methodLink RX0 129 yX0_isDisquiet ∈ wsL_law := (uw40 _ (List.mem_of_getElem? (i := 1) rfl))
theorem ml_X0_133 : Cond.methodLink RX0 133 yX0_rowsOf ∈ wsL_law := (uw40 _ (List.mem_of_getElem? (i := 18) rfl))
theorem ml_X0_136 : Cond.methodLink RX0 136 yX7_clear ∈ wsL_law := (uw43 _ (List.mem_of_getElem? (i := 11) rfl))
theorem ml_X0_139 : Cond.methodLink RX0 139 yX7_placeOf ∈ wsL_law := (uw43 _ (List.mem_of_getElem? (i := 15) rfl))
theorem ml_X0_142 : Cond.methodLink RX0 142 yX7_insert ∈ wsL_law := (uw43 _ (List.mem_of_getElem? (i := 16) rfl))
theorem ml_X0_145 : Cond.methodLink RX0 145 yX7_at ∈ wsL_law := (uw33 _ (List.mem_of_getElem? (i := 14) rfl))
theorem ml_X0_148 : Cond.methodLink RX0 148 yX1_isTaller ∈ wsL_law := (uw33 _ (List.mem_of_getElem? (i := 15) rfl))
theorem ml_X0_47 : Cond.methodLink RX0 47 yX9_sizeOf ∈ wsL_law := (uw32 _ (List.mem_of_getElem? (i := 18) rfl))
theorem ml_X0_53 : Cond.methodLink RX0 53 yX7_size ∈ wsL_law := (uw32 _ (List.mem_of_getElem? (i := 19) rfl))
theorem ml_X0_66 : Cond.methodLink RX0 66 yX9_valueAt ∈ wsL_law := (uw32 _ (List.mem_of_getElem? (i := 20) rfl))
theorem ml_X0_70 : Cond.methodLink RX0 70 yX4_numberAt ∈ wsL_law := (uw36 _ (List.mem_of_getElem? (i := 22) rfl))
theorem ml_X0_76 : Cond.methodLink RX0 76 yX9_refusalOfBytes ∈ wsL_law := (uw32 _ (List.mem_of_getElem? (i := 12) rfl))
theorem ml_X0_79 : Cond.methodLink RX0 79 yX0_open ∈ wsL_law := (uw32 _ (List.mem_of_getElem? (i := 13) rfl))
theorem ml_X0_83 : Cond.methodLink RX0 83 yX0_firstFalse ∈ wsL_law := (uw32 _ (List.mem_of_getElem? (i := 21) rfl))
theorem ml_X0_86 : Cond.methodLink RX0 86 yX0_refusalToFill ∈ wsL_law := (uw32 _ (List.mem_of_getElem? (i := 7) rfl))
theorem ml_X0_90 : Cond.methodLink RX0 90 yX0_smearedOnes ∈ wsL_law := (uw33 _ (List.mem_of_getElem? (i := 1) rfl))
theorem ml_X0_96 : Cond.methodLink RX0 96 yX7_copyFrom ∈ wsL_law := (uw33 _ (List.mem_of_getElem? (i := 9) rfl))
abbrev w_Books_open (G : zG) (a_this : Nat) (a_crowd : Nat) (a_shelves : Nat) (a_numbers : Nat) (a_left : Nat) (a_result : Nat) (a_fillings : Nat) (a_spare : Nat) (a_rowCounts : Nat) (a_shelves_sorts : Nat) (a_shelves_sizes : Nat) (a_shelves_held : Nat) (a_shelves_elements : Nat) (a_shelves_elements_e : Nat → Nat) (a_p2 : Nat) (a_p2_who : Nat) (size : Int32) (shelves_sizes : Nat → Int32) (shelves_elements_e : Nat → (Nat → Int64)) (numbers : Nat → Int32) (p2_length : Int32) : va_W := [(a_this, cO 0 [.ref a_crowd, .ref a_shelves, .ref a_numbers, .int size, .ref a_left, .ref a_result, .ref a_fillings, .ref a_spare, .ref a_rowCounts]), (a_shelves, cO 9 [.ref a_shelves_sorts, .ref a_shelves_sizes, .ref a_shelves_held, .ref a_shelves_elements]), (a_shelves_sizes, cI G 6 shelves_sizes), (a_shelves_elements, cJJ G 6 (fun j => some (a_shelves_elements_e j))), ((a_shelves_elements_e 0), cJ G 60 (shelves_elements_e 0)), ((a_shelves_elements_e 1), cJ G 60 (shelves_elements_e 1)), ((a_shelves_elements_e 2), cJ G 60 (shelves_elements_e 2)), ((a_shelves_elements_e 3), cJ G 60 (shelves_elements_e 3)), ((a_shelves_elements_e 4), cJ G 60 (shelves_elements_e 4)), ((a_shelves_elements_e 5), cJ G 60 (shelves_elements_e 5)), (a_numbers, cI G 9 numbers), (a_p2, cO 7 [.ref a_p2_who, .int p2_length])]
def f_Books_open_L26 (size : Int32) (shelves_sizes : Nat → Int32) (shelves_elements_e : Nat → (Nat → Int64)) (v1 : Int32) : Nat → (Nat → Int32) → Int32 → Option ((Nat → Int32))
  | 0, _, _ => none
  | fuel + 1, numbers, v3 => (if size ≤ v3 then (some numbers) else (zb1 (f_Shelves_valueAt shelves_sizes shelves_elements_e v1 v3) fun r_4 => (zs numbers 9 v3 (Int64.toInt32 r_4) fun numbers_6 => (f_Books_open_L26 size shelves_sizes shelves_elements_e v1 fuel numbers_6 (v3 + 1)))))
def f_Books_open (size : Int32) (shelves_sizes : Nat → Int32) (shelves_elements_e : Nat → (Nat → Int64)) (numbers : Nat → Int32) (p2_length : Int32) (x1 : Int32) : Option (Int32 × (Nat → Int32)) := (zb1 (f_Shelves_sizeOf shelves_sizes x1) fun r_1 => (zb1 (f_Books_open_L26 (if (if (9 : Int32) < (f_Line_size p2_length) then 9 else (f_Line_size p2_length)) < r_1 then (if (9 : Int32) < (f_Line_size p2_length) then 9 else (f_Line_size p2_length)) else r_1) shelves_sizes shelves_elements_e x1 FU numbers 0) fun numbers_7 => (some ((if (if (9 : Int32) < (f_Line_size p2_length) then 9 else (f_Line_size p2_length)) < r_1 then (if (9 : Int32) < (f_Line_size p2_length) then 9 else (f_Line_size p2_length)) else r_1), numbers_7))))
set_option maxRecDepth 100000 in
set_option maxHeartbeats 4000000 in
theorem l_Books_open_26 {X : zX} (G : zG) (a_this : Nat) (a_crowd : Nat) (a_shelves : Nat) (a_numbers : Nat) (a_left : Nat) (a_result : Nat) (a_fillings : Nat) (a_spare : Nat) (a_rowCounts : Nat) (a_shelves_sorts : Nat) (a_shelves_sizes : Nat) (a_shelves_held : Nat) (a_shelves_elements : Nat) (a_shelves_elements_e : Nat → Nat) (a_p2 : Nat) (a_p2_who : Nat) (size : Int32) (shelves_sizes : Nat → Int32) (shelves_elements_e : Nat → (Nat → Int64)) (p2_length : Int32) (v1 : Int32) {v0 : Option Value} {w0 : va_W} (F : zF X G cX0_open RX0 4 none 3 64 v0 w0) (e_numbers : Nat → Int32) (hk : Z X G 4 (w_Books_open G a_this a_crowd a_shelves a_numbers a_left a_result a_fillings a_spare a_rowCounts a_shelves_sorts a_shelves_sizes a_shelves_held a_shelves_elements a_shelves_elements_e a_p2 a_p2_who size shelves_sizes shelves_elements_e e_numbers p2_length) [] 56 []) :
    ∀ (fuel : Nat) (numbers : Nat → Int32) (v3 : Int32), f_Books_open_L26 size shelves_sizes shelves_elements_e v1 fuel numbers v3 = some e_numbers → Z X G 4 (w_Books_open G a_this a_crowd a_shelves a_numbers a_left a_result a_fillings a_spare a_rowCounts a_shelves_sorts a_shelves_sizes a_shelves_held a_shelves_elements a_shelves_elements_e a_p2 a_p2_who size shelves_sizes shelves_elements_e numbers p2_length) [(0, .ref a_this), (1, .int v1), (3, .int v3)] 26 [] := by
  intro fuel
  induction fuel with
  | zero => intro numbers v3 hf; exact absurd ((f_Books_open_L26.eq_1 ..).symm.trans hf) (fun h => by cases h)
  | succ fuel ih =>
    intro numbers v3 hf
    replace hf := (f_Books_open_L26.eq_2 ..).symm.trans hf
    refine z_iload_n F 2 dX0_open_26 rfl rfl ?_
    refine z_aload_n F 0 dX0_open_27 rfl rfl ?_
    refine z_get F 0 0 3 inlX0 rfl rfl (by decide) fl_X0_63 rfl dX0_open_28 ?_
    refine z_icmp_ge F 56 dX0_open_31 (by decide) hf (fun hf _ => ?_) (fun hf _ => ?_)
    · have ee1 := Option.some.inj hf
      subst ee1
      exact z_sub [] rfl hk
    · refine z_aload_n F 0 dX0_open_34 rfl rfl ?_
      refine z_get F 0 0 2 inlX0 rfl rfl (by decide) fl_X0_19 rfl dX0_open_35 ?_
      refine z_iload_n F 2 dX0_open_38 rfl rfl ?_
      refine z_aload_n F 0 dX0_open_39 rfl rfl ?_
      refine z_get F 0 0 1 inlX0 rfl rfl (by decide) fl_X0_15 rfl dX0_open_40 ?_
      refine z_iload_n F 1 dX0_open_43 rfl rfl ?_
      refine z_iload_n F 2 dX0_open_44 rfl rfl ?_
      obtain ⟨r_4, hg, hf⟩ := zb1_some hf
      refine z_callVm (rest := [.int v3, .ref a_numbers]) F 9 (c_Shelves_valueAt (xL X) G a_shelves a_shelves_sorts a_shelves_sizes a_shelves_held a_shelves_elements a_shelves_elements_e shelves_sizes shelves_elements_e v1 v3 r_4 hg) hy_X9_valueAt ml_X0_66 hd_X9_valueAt ⟨by omega, by omega⟩ rfl [1, 2, 3, 4, 5, 6, 7, 8, 9] rfl rfl 1 rfl rfl (w_Books_open G a_this a_crowd a_shelves a_numbers a_left a_result a_fillings a_spare a_rowCounts a_shelves_sorts a_shelves_sizes a_shelves_held a_shelves_elements a_shelves_elements_e a_p2 a_p2_who size shelves_sizes shelves_elements_e numbers p2_length) [none, some 0, some 1, some 2, some 3, some 4, some 5, some 6, some 7, some 8, none, none] rfl (by decide +kernel) rfl rfl (Nat.le_of_ble_eq_true rfl) dX0_open_45 (fun hz_5 => ?_)
      refine z_l2i F dX0_open_48 ?_
      refine z_iast F 10 (fun numbers_6 => (w_Books_open G a_this a_crowd a_shelves a_numbers a_left a_result a_fillings a_spare a_rowCounts a_shelves_sorts a_shelves_sizes a_shelves_held a_shelves_elements a_shelves_elements_e a_p2 a_p2_who size shelves_sizes shelves_elements_e numbers_6 p2_length)) rfl hf (fun _ => rfl) dX0_open_49 (fun numbers_6 hf => ?_)
      refine z_iinc F [(3, .int (v3 + 1)), (0, .ref a_this), (1, .int v1)] dX0_open_50 2 rfl rfl (by decide) rfl ?_
      refine z_goto F 26 dX0_open_53 (by decide) ?_
      exact z_sub [1, 2, 0] rfl (ih numbers_6 (v3 + 1) hf)

set_option maxRecDepth 100000 in
set_option maxHeartbeats 4000000 in
theorem c_Books_open (l : Launch) (G : zG) (a_this : Nat) (a_crowd : Nat) (a_shelves : Nat) (a_numbers : Nat) (a_left : Nat) (a_result : Nat) (a_fillings : Nat) (a_spare : Nat) (a_rowCounts : Nat) (a_shelves_sorts : Nat) (a_shelves_sizes : Nat) (a_shelves_held : Nat) (a_shelves_elements : Nat) (a_shelves_elements_e : Nat → Nat) (a_p2 : Nat) (a_p2_who : Nat) (size : Int32) (shelves_sizes : Nat → Int32) (shelves_elements_e : Nat → (Nat → Int64)) (numbers : Nat → Int32) (p2_length : Int32) (x1 : Int32) (o_size : Int32) (o_numbers : Nat → Int32) (hf : f_Books_open size shelves_sizes shelves_elements_e numbers p2_length x1 = some (o_size, o_numbers)) : zM l yX0_open cX0_open 4 none 3 64 G [.ref a_this, .int x1, .ref a_p2] (w_Books_open G a_this a_crowd a_shelves a_numbers a_left a_result a_fillings a_spare a_rowCounts a_shelves_sorts a_shelves_sizes a_shelves_held a_shelves_elements a_shelves_elements_e a_p2 a_p2_who size shelves_sizes shelves_elements_e numbers p2_length) (none) (w_Books_open G a_this a_crowd a_shelves a_numbers a_left a_result a_fillings a_spare a_rowCounts a_shelves_sorts a_shelves_sizes a_shelves_held a_shelves_elements a_shelves_elements_e a_p2 a_p2_who o_size shelves_sizes shelves_elements_e o_numbers p2_length) := by
  refine zM.of [(0, .ref a_this), (1, .int x1), (2, .ref a_p2)] (own := RX0) rfl (by decide +kernel) (Nat.le_of_ble_eq_true rfl) rfl rfl fun X hX F => ?_
  subst hX
  replace hf := (f_Books_open.eq_1 ..).symm.trans hf
  refine z_aload_n F 0 dX0_open_0 rfl rfl ?_
  refine z_aload_n F 0 dX0_open_1 rfl rfl ?_
  refine z_get F 0 0 1 inlX0 rfl rfl (by decide) fl_X0_15 rfl dX0_open_2 ?_
  refine z_iload_n F 1 dX0_open_5 rfl rfl ?_
  obtain ⟨r_1, hg, hf⟩ := zb1_some hf
  refine z_callVm (rest := [.ref a_this]) F 9 (c_Shelves_sizeOf (xL X) G a_shelves a_shelves_sorts a_shelves_sizes a_shelves_held a_shelves_elements shelves_sizes x1 r_1 hg) hy_X9_sizeOf ml_X0_47 hd_X9_sizeOf ⟨by omega, by omega⟩ rfl [1, 2] rfl rfl 1 rfl rfl (w_Books_open G a_this a_crowd a_shelves a_numbers a_left a_result a_fillings a_spare a_rowCounts a_shelves_sorts a_shelves_sizes a_shelves_held a_shelves_elements a_shelves_elements_e a_p2 a_p2_who size shelves_sizes shelves_elements_e numbers p2_length) [none, some 0, some 1, none, none, none, none, none, none, none, none, none] rfl (by decide +kernel) rfl rfl (Nat.le_of_ble_eq_true rfl) dX0_open_6 (fun hz_2 => ?_)
  refine z_aload_n F 2 dX0_open_9 rfl rfl ?_
  refine z_callVm (rest := [.int r_1, .ref a_this]) F 7 (c_Line_size (xL X) G a_p2 a_p2_who p2_length _ rfl) hy_X7_size ml_X0_53 hd_X7_size ⟨by omega, by omega⟩ rfl [11] rfl rfl 11 rfl rfl (w_Books_open G a_this a_crowd a_shelves a_numbers a_left a_result a_fillings a_spare a_rowCounts a_shelves_sorts a_shelves_sizes a_shelves_held a_shelves_elements a_shelves_elements_e a_p2 a_p2_who size shelves_sizes shelves_elements_e numbers p2_length) [none, none, none, none, none, none, none, none, none, none, none, some 0] rfl (by decide +kernel) rfl rfl (Nat.le_of_ble_eq_true rfl) dX0_open_10 (fun hz_3 => ?_)
  refine z_bipush F (9) dX0_open_13 rfl ?_
  refine z_min F ⟨(uw32 _ (List.mem_of_getElem? (i := 17) rfl)), (uw23 _ (List.mem_of_getElem? (i := 2) rfl)), (uw23 _ (List.mem_of_getElem? (i := 3) rfl)), (uw23 _ (List.mem_of_getElem? (i := 4) rfl))⟩ (by omega) (Nat.le_of_ble_eq_true rfl) dX0_open_15 ?_
  refine z_min F ⟨(uw32 _ (List.mem_of_getElem? (i := 17) rfl)), (uw23 _ (List.mem_of_getElem? (i := 2) rfl)), (uw23 _ (List.mem_of_getElem? (i := 3) rfl)), (uw23 _ (List.mem_of_getElem? (i := 4) rfl))⟩ (by omega) (Nat.le_of_ble_eq_true rfl) dX0_open_18 ?_
  refine z_put F 0 0 3 (w_Books_open G a_this a_crowd a_shelves a_numbers a_left a_result a_fillings a_spare a_rowCounts a_shelves_sorts a_shelves_sizes a_shelves_held a_shelves_elements a_shelves_elements_e a_p2 a_p2_who (if (if (9 : Int32) < (f_Line_size p2_length) then 9 else (f_Line_size p2_length)) < r_1 then (if (9 : Int32) < (f_Line_size p2_length) then 9 else (f_Line_size p2_length)) else r_1) shelves_sizes shelves_elements_e numbers p2_length) inlX0 tyX0 tyX0_ok nmX0 rfl rfl (by decide) fl_X0_63 rfl rfl rfl (Nat.le_of_ble_eq_true rfl) rfl dX0_open_21 ?_
  refine z_iconst F (0) dX0_open_24 rfl ?_
  refine z_istore_n F [(3, .int 0), (0, .ref a_this), (1, .int x1), (2, .ref a_p2)] dX0_open_25 rfl (by decide) rfl ?_
  obtain ⟨numbers_7, hg, hf⟩ := zb1_some hf
  refine z_sub [1, 2, 0] rfl ?_
  refine l_Books_open_26 G a_this a_crowd a_shelves a_numbers a_left a_result a_fillings a_spare a_rowCounts a_shelves_sorts a_shelves_sizes a_shelves_held a_shelves_elements a_shelves_elements_e a_p2 a_p2_who (if (if (9 : Int32) < (f_Line_size p2_length) then 9 else (f_Line_size p2_length)) < r_1 then (if (9 : Int32) < (f_Line_size p2_length) then 9 else (f_Line_size p2_length)) else r_1) shelves_sizes shelves_elements_e p2_length x1 F numbers_7 ?_ FU numbers 0 hg
  have eq1 := Option.some.inj hf
  obtain ⟨ee1, ee2⟩ := Prod.mk.inj eq1
  subst ee1
  subst ee2
  exact z_vret F rfl rfl rfl dX0_open_56

abbrev w_Books_firstFalse (G : zG) (a_this : Nat) (a_crowd : Nat) (a_shelves : Nat) (a_numbers : Nat) (a_left : Nat) (a_result : Nat) (a_fillings : Nat) (a_spare : Nat) (a_rowCounts : Nat) (size : Int32) (numbers : Nat → Int32) : va_W := [(a_this, cO 0 [.ref a_crowd, .ref a_shelves, .ref a_numbers, .int size, .ref a_left, .ref a_result, .ref a_fillings, .ref a_spare, .ref a_rowCounts]), (a_numbers, cI G 9 numbers)]
def f_Books_firstFalse_L2 (size : Int32) (numbers : Nat → Int32) : Nat → Int32 → Option (((Unit) ⊕ (Int32)))
  | 0, _ => none
  | fuel + 1, v1 => (if size ≤ v1 then (some (.inl ())) else (zg numbers 9 v1 fun v_1 => (if v_1 < (-1) then (some (.inr v1)) else (zg numbers 9 v1 fun v_2 => (if v_2 ≤ v1 then (f_Books_firstFalse_L2 size numbers fuel (v1 + 1)) else (some (.inr v1)))))))
def f_Books_firstFalse (size : Int32) (numbers : Nat → Int32) : Option Int32 := (zbs0 (f_Books_firstFalse_L2 size numbers FU 0) ((some (-2))) some)
set_option maxRecDepth 100000 in
set_option maxHeartbeats 4000000 in
theorem l_Books_firstFalse_2 {X : zX} (G : zG) (a_this : Nat) (a_crowd : Nat) (a_shelves : Nat) (a_numbers : Nat) (a_left : Nat) (a_result : Nat) (a_fillings : Nat) (a_spare : Nat) (a_rowCounts : Nat) (size : Int32) (numbers : Nat → Int32) {v0 : Option Value} {w0 : va_W} (F : zF X G cX0_firstFalse RX0 2 (some .int) 0 0 v0 w0) (out : ((Unit) ⊕ (Int32))) (hk : out = .inl () → Z X G 2 (w_Books_firstFalse G a_this a_crowd a_shelves a_numbers a_left a_result a_fillings a_spare a_rowCounts size numbers) [] 38 []) (hr : ∀ q : Int32, out = .inr q → v0 = some (.int q) ∧ w0 = (w_Books_firstFalse G a_this a_crowd a_shelves a_numbers a_left a_result a_fillings a_spare a_rowCounts size numbers)) :
    ∀ (fuel : Nat) (v1 : Int32), f_Books_firstFalse_L2 size numbers fuel v1 = some out → Z X G 2 (w_Books_firstFalse G a_this a_crowd a_shelves a_numbers a_left a_result a_fillings a_spare a_rowCounts size numbers) [(0, .ref a_this), (1, .int v1)] 2 [] := by
  intro fuel
  induction fuel with
  | zero => intro v1 hf; exact absurd ((f_Books_firstFalse_L2.eq_1 ..).symm.trans hf) (fun h => by cases h)
  | succ fuel ih =>
    intro v1 hf
    replace hf := (f_Books_firstFalse_L2.eq_2 ..).symm.trans hf
    refine z_iload_n F 1 dX0_firstFalse_2 rfl rfl ?_
    refine z_aload_n F 0 dX0_firstFalse_3 rfl rfl ?_
    refine z_get F 0 0 3 inlX0 rfl rfl (by decide) fl_X0_63 rfl dX0_firstFalse_4 ?_
    refine z_icmp_ge F 38 dX0_firstFalse_7 (by decide) hf (fun hf _ => ?_) (fun hf _ => ?_)
    · exact z_sub [] rfl (hk  (Option.some.inj hf).symm)
    · refine z_aload_n F 0 dX0_firstFalse_10 rfl rfl ?_
      refine z_get F 0 0 2 inlX0 rfl rfl (by decide) fl_X0_19 rfl dX0_firstFalse_11 ?_
      refine z_iload_n F 1 dX0_firstFalse_14 rfl rfl ?_
      refine z_iald F 1 rfl hf dX0_firstFalse_15 (fun v_1 hf => ?_)
      refine z_iconst F (-1) dX0_firstFalse_16 rfl ?_
      refine z_icmp_lt F 30 dX0_firstFalse_17 (by decide) hf (fun hf _ => ?_) (fun hf _ => ?_)
      · refine z_iload_n F 1 dX0_firstFalse_30 rfl rfl ?_
        obtain ⟨e1, e2⟩ := hr _ (Option.some.inj hf).symm
        exact z_iret F rfl rfl e1.symm e2.symm dX0_firstFalse_31
      · refine z_aload_n F 0 dX0_firstFalse_20 rfl rfl ?_
        refine z_get F 0 0 2 inlX0 rfl rfl (by decide) fl_X0_19 rfl dX0_firstFalse_21 ?_
        refine z_iload_n F 1 dX0_firstFalse_24 rfl rfl ?_
        refine z_iald F 1 rfl hf dX0_firstFalse_25 (fun v_2 hf => ?_)
        refine z_iload_n F 1 dX0_firstFalse_26 rfl rfl ?_
        refine z_icmp_le F 32 dX0_firstFalse_27 (by decide) hf (fun hf _ => ?_) (fun hf _ => ?_)
        · refine z_iinc F [(1, .int (v1 + 1)), (0, .ref a_this)] dX0_firstFalse_32 1 rfl rfl (by decide) rfl ?_
          refine z_goto F 2 dX0_firstFalse_35 (by decide) ?_
          exact z_sub [1, 0] rfl (ih (v1 + 1) hf)
        · refine z_iload_n F 1 dX0_firstFalse_30 rfl rfl ?_
          obtain ⟨e1, e2⟩ := hr _ (Option.some.inj hf).symm
          exact z_iret F rfl rfl e1.symm e2.symm dX0_firstFalse_31

set_option maxRecDepth 100000 in
set_option maxHeartbeats 4000000 in
theorem c_Books_firstFalse (l : Launch) (G : zG) (a_this : Nat) (a_crowd : Nat) (a_shelves : Nat) (a_numbers : Nat) (a_left : Nat) (a_result : Nat) (a_fillings : Nat) (a_spare : Nat) (a_rowCounts : Nat) (size : Int32) (numbers : Nat → Int32) (r_ : Int32) (hf : f_Books_firstFalse size numbers = some r_) : zM l yX0_firstFalse cX0_firstFalse 2 (some .int) 0 0 G [.ref a_this] (w_Books_firstFalse G a_this a_crowd a_shelves a_numbers a_left a_result a_fillings a_spare a_rowCounts size numbers) (some (.int r_)) (w_Books_firstFalse G a_this a_crowd a_shelves a_numbers a_left a_result a_fillings a_spare a_rowCounts size numbers) := by
  refine zM.of [(0, .ref a_this)] (own := RX0) rfl (by decide +kernel) (Nat.le_of_ble_eq_true rfl) rfl rfl fun X hX F => ?_
  subst hX
  replace hf := (f_Books_firstFalse.eq_1 ..).symm.trans hf
  refine z_iconst F (0) dX0_firstFalse_0 rfl ?_
  refine z_istore_n F [(1, .int 0), (0, .ref a_this)] dX0_firstFalse_1 rfl (by decide) rfl ?_
  obtain ⟨z_3, hg, hf1_4, hf2_5⟩ := zbs0_some hf
  refine z_sub [1, 0] rfl ?_
  refine l_Books_firstFalse_2 G a_this a_crowd a_shelves a_numbers a_left a_result a_fillings a_spare a_rowCounts size numbers F z_3 (fun e => ?_) (fun q e => ?_) FU 0 hg
  · have hf := hf1_4 e
    refine z_bipush F (-2) dX0_firstFalse_38 rfl ?_
    have ee1 := Option.some.inj hf
    subst ee1
    exact z_iret F rfl rfl rfl rfl dX0_firstFalse_40
  · have hf := hf2_5 _ e
    cases hf
    exact ⟨rfl, rfl⟩

abbrev w_Books_refusalToFill (G : zG) (a_this : Nat) (a_crowd : Nat) (a_shelves : Nat) (a_numbers : Nat) (a_left : Nat) (a_result : Nat) (a_fillings : Nat) (a_spare : Nat) (a_rowCounts : Nat) (a_shelves_sorts : Nat) (a_shelves_sizes : Nat) (a_shelves_held : Nat) (a_shelves_elements : Nat) (a_shelves_elements_e : Nat → Nat) (a_p2 : Nat) (a_p2_who : Nat) (size : Int32) (shelves_sorts : Nat → Int32) (shelves_sizes : Nat → Int32) (shelves_elements_e : Nat → (Nat → Int64)) (numbers : Nat → Int32) (p2_length : Int32) : va_W := [(a_this, cO 0 [.ref a_crowd, .ref a_shelves, .ref a_numbers, .int size, .ref a_left, .ref a_result, .ref a_fillings, .ref a_spare, .ref a_rowCounts]), (a_shelves, cO 9 [.ref a_shelves_sorts, .ref a_shelves_sizes, .ref a_shelves_held, .ref a_shelves_elements]), (a_shelves_sorts, cI G 6 shelves_sorts), (a_shelves_sizes, cI G 6 shelves_sizes), (a_shelves_elements, cJJ G 6 (fun j => some (a_shelves_elements_e j))), ((a_shelves_elements_e 0), cJ G 60 (shelves_elements_e 0)), ((a_shelves_elements_e 1), cJ G 60 (shelves_elements_e 1)), ((a_shelves_elements_e 2), cJ G 60 (shelves_elements_e 2)), ((a_shelves_elements_e 3), cJ G 60 (shelves_elements_e 3)), ((a_shelves_elements_e 4), cJ G 60 (shelves_elements_e 4)), ((a_shelves_elements_e 5), cJ G 60 (shelves_elements_e 5)), (a_numbers, cI G 9 numbers), (a_p2, cO 7 [.ref a_p2_who, .int p2_length])]
def f_Books_refusalToFill (size : Int32) (shelves_sorts : Nat → Int32) (shelves_sizes : Nat → Int32) (shelves_elements_e : Nat → (Nat → Int64)) (numbers : Nat → Int32) (p2_length : Int32) (x1 : Int32) : Option (Int32 × Int32 × (Nat → Int32)) := (zb1 (f_Shelves_refusalOfBytes shelves_sorts x1) fun r_1 => (if r_1 = 0 then (zb2 (f_Books_open size shelves_sizes shelves_elements_e numbers p2_length x1) fun size_3 numbers_4 => (if size_3 < (f_Line_size p2_length) then (some ((-5), size_3, numbers_4)) else (zb1 (f_Books_firstFalse size_3 numbers_4) fun r_7 => (if r_7 < 0 then (some (0, size_3, numbers_4)) else (some ((-5), size_3, numbers_4)))))) else (some (r_1, size, numbers))))
set_option maxRecDepth 100000 in
set_option maxHeartbeats 4000000 in
theorem c_Books_refusalToFill (l : Launch) (G : zG) (a_this : Nat) (a_crowd : Nat) (a_shelves : Nat) (a_numbers : Nat) (a_left : Nat) (a_result : Nat) (a_fillings : Nat) (a_spare : Nat) (a_rowCounts : Nat) (a_shelves_sorts : Nat) (a_shelves_sizes : Nat) (a_shelves_held : Nat) (a_shelves_elements : Nat) (a_shelves_elements_e : Nat → Nat) (a_p2 : Nat) (a_p2_who : Nat) (size : Int32) (shelves_sorts : Nat → Int32) (shelves_sizes : Nat → Int32) (shelves_elements_e : Nat → (Nat → Int64)) (numbers : Nat → Int32) (p2_length : Int32) (x1 : Int32) (r_ : Int32) (o_size : Int32) (o_numbers : Nat → Int32) (hf : f_Books_refusalToFill size shelves_sorts shelves_sizes shelves_elements_e numbers p2_length x1 = some (r_, o_size, o_numbers)) : zM l yX0_refusalToFill cX0_refusalToFill 4 (some .int) 4 87 G [.ref a_this, .int x1, .ref a_p2] (w_Books_refusalToFill G a_this a_crowd a_shelves a_numbers a_left a_result a_fillings a_spare a_rowCounts a_shelves_sorts a_shelves_sizes a_shelves_held a_shelves_elements a_shelves_elements_e a_p2 a_p2_who size shelves_sorts shelves_sizes shelves_elements_e numbers p2_length) (some (.int r_)) (w_Books_refusalToFill G a_this a_crowd a_shelves a_numbers a_left a_result a_fillings a_spare a_rowCounts a_shelves_sorts a_shelves_sizes a_shelves_held a_shelves_elements a_shelves_elements_e a_p2 a_p2_who o_size shelves_sorts shelves_sizes shelves_elements_e o_numbers p2_length) := by
  refine zM.of [(0, .ref a_this), (1, .int x1), (2, .ref a_p2)] (own := RX0) rfl (by decide +kernel) (Nat.le_of_ble_eq_true rfl) rfl rfl fun X hX F => ?_
  subst hX
  replace hf := (f_Books_refusalToFill.eq_1 ..).symm.trans hf
  refine z_aload_n F 0 dX0_refusalToFill_0 rfl rfl ?_
  refine z_get F 0 0 1 inlX0 rfl rfl (by decide) fl_X0_15 rfl dX0_refusalToFill_1 ?_
  refine z_iload_n F 1 dX0_refusalToFill_4 rfl rfl ?_
  obtain ⟨r_1, hg, hf⟩ := zb1_some hf
  refine z_callVm (rest := []) F 9 (c_Shelves_refusalOfBytes (xL X) G a_shelves a_shelves_sorts a_shelves_sizes a_shelves_held a_shelves_elements shelves_sorts x1 r_1 hg) hy_X9_refusalOfBytes ml_X0_76 hd_X9_refusalOfBytes ⟨by omega, by omega⟩ rfl [1, 2] rfl rfl 1 rfl rfl (w_Books_refusalToFill G a_this a_crowd a_shelves a_numbers a_left a_result a_fillings a_spare a_rowCounts a_shelves_sorts a_shelves_sizes a_shelves_held a_shelves_elements a_shelves_elements_e a_p2 a_p2_who size shelves_sorts shelves_sizes shelves_elements_e numbers p2_length) [none, some 0, some 1, none, none, none, none, none, none, none, none, none, none] rfl (by decide +kernel) rfl rfl (Nat.le_of_ble_eq_true rfl) dX0_refusalToFill_5 (fun hz_2 => ?_)
  refine z_istore_n F [(3, .int r_1), (0, .ref a_this), (1, .int x1), (2, .ref a_p2)] dX0_refusalToFill_8 rfl (by decide) rfl ?_
  refine z_iload_n F 0 dX0_refusalToFill_9 rfl rfl ?_
  refine z_if_eq F 15 dX0_refusalToFill_10 (by decide) hf (fun hf _ => ?_) (fun hf _ => ?_)
  · refine z_aload_n F 1 dX0_refusalToFill_15 rfl rfl ?_
    refine z_iload_n F 2 dX0_refusalToFill_16 rfl rfl ?_
    refine z_aload_n F 3 dX0_refusalToFill_17 rfl rfl ?_
    obtain ⟨size_3, numbers_4, hg, hf⟩ := zb2_some hf
    refine z_callVm (rest := []) F 0 (c_Books_open (xL X) G a_this a_crowd a_shelves a_numbers a_left a_result a_fillings a_spare a_rowCounts a_shelves_sorts a_shelves_sizes a_shelves_held a_shelves_elements a_shelves_elements_e a_p2 a_p2_who size shelves_sizes shelves_elements_e numbers p2_length x1 size_3 numbers_4 hg) hy_X0_open ml_X0_79 hd_X0_open ⟨by omega, by omega⟩ rfl [0, 1, 3, 4, 5, 6, 7, 8, 9, 10, 11, 12] rfl rfl 0 rfl rfl (w_Books_refusalToFill G a_this a_crowd a_shelves a_numbers a_left a_result a_fillings a_spare a_rowCounts a_shelves_sorts a_shelves_sizes a_shelves_held a_shelves_elements a_shelves_elements_e a_p2 a_p2_who size_3 shelves_sorts shelves_sizes shelves_elements_e numbers_4 p2_length) [some 0, some 1, none, some 2, some 3, some 4, some 5, some 6, some 7, some 8, some 9, some 10, some 11] rfl (by decide +kernel) rfl rfl (Nat.le_of_ble_eq_true rfl) dX0_refusalToFill_18 (fun hz_5 => ?_)
    refine z_aload_n F 1 dX0_refusalToFill_21 rfl rfl ?_
    refine z_get F 0 0 3 inlX0 rfl rfl (by decide) fl_X0_63 rfl dX0_refusalToFill_22 ?_
    refine z_aload_n F 3 dX0_refusalToFill_25 rfl rfl ?_
    refine z_callVm (rest := [.int size_3]) F 7 (c_Line_size (xL X) G a_p2 a_p2_who p2_length _ rfl) hy_X7_size ml_X0_53 hd_X7_size ⟨by omega, by omega⟩ rfl [12] rfl rfl 12 rfl rfl (w_Books_refusalToFill G a_this a_crowd a_shelves a_numbers a_left a_result a_fillings a_spare a_rowCounts a_shelves_sorts a_shelves_sizes a_shelves_held a_shelves_elements a_shelves_elements_e a_p2 a_p2_who size_3 shelves_sorts shelves_sizes shelves_elements_e numbers_4 p2_length) [none, none, none, none, none, none, none, none, none, none, none, none, some 0] rfl (by decide +kernel) rfl rfl (Nat.le_of_ble_eq_true rfl) dX0_refusalToFill_26 (fun hz_6 => ?_)
    refine z_icmp_lt F 39 dX0_refusalToFill_29 (by decide) hf (fun hf _ => ?_) (fun hf _ => ?_)
    · refine z_bipush F (-5) dX0_refusalToFill_39 rfl ?_
      refine z_goto F 45 dX0_refusalToFill_41 (by decide) ?_
      have eq1 := Option.some.inj hf
      obtain ⟨ee1, eq2⟩ := Prod.mk.inj eq1
      obtain ⟨ee2, ee3⟩ := Prod.mk.inj eq2
      subst ee1
      subst ee2
      subst ee3
      exact z_iret F rfl rfl rfl rfl dX0_refusalToFill_45
    · refine z_aload_n F 1 dX0_refusalToFill_32 rfl rfl ?_
      obtain ⟨r_7, hg, hf⟩ := zb1_some hf
      refine z_callVm (rest := []) F 0 (c_Books_firstFalse (xL X) G a_this a_crowd a_shelves a_numbers a_left a_result a_fillings a_spare a_rowCounts size_3 numbers_4 r_7 hg) hy_X0_firstFalse ml_X0_83 hd_X0_firstFalse ⟨by omega, by omega⟩ rfl [0, 11] rfl rfl 0 rfl rfl (w_Books_refusalToFill G a_this a_crowd a_shelves a_numbers a_left a_result a_fillings a_spare a_rowCounts a_shelves_sorts a_shelves_sizes a_shelves_held a_shelves_elements a_shelves_elements_e a_p2 a_p2_who size_3 shelves_sorts shelves_sizes shelves_elements_e numbers_4 p2_length) [some 0, none, none, none, none, none, none, none, none, none, none, some 1, none] rfl (by decide +kernel) rfl rfl (Nat.le_of_ble_eq_true rfl) dX0_refusalToFill_33 (fun hz_8 => ?_)
      refine z_if_lt F 44 dX0_refusalToFill_36 (by decide) hf (fun hf _ => ?_) (fun hf _ => ?_)
      · refine z_iconst F (0) dX0_refusalToFill_44 rfl ?_
        have eq1 := Option.some.inj hf
        obtain ⟨ee1, eq2⟩ := Prod.mk.inj eq1
        obtain ⟨ee2, ee3⟩ := Prod.mk.inj eq2
        subst ee1
        subst ee2
        subst ee3
        exact z_iret F rfl rfl rfl rfl dX0_refusalToFill_45
      · refine z_bipush F (-5) dX0_refusalToFill_39 rfl ?_
        refine z_goto F 45 dX0_refusalToFill_41 (by decide) ?_
        have eq1 := Option.some.inj hf
        obtain ⟨ee1, eq2⟩ := Prod.mk.inj eq1
        obtain ⟨ee2, ee3⟩ := Prod.mk.inj eq2
        subst ee1
        subst ee2
        subst ee3
        exact z_iret F rfl rfl rfl rfl dX0_refusalToFill_45
  · refine z_iload_n F 0 dX0_refusalToFill_13 rfl rfl ?_
    have eq1 := Option.some.inj hf
    obtain ⟨ee1, eq2⟩ := Prod.mk.inj eq1
    obtain ⟨ee2, ee3⟩ := Prod.mk.inj eq2
    subst ee1
    subst ee2
    subst ee3
    exact z_iret F rfl rfl rfl rfl dX0_refusalToFill_14

abbrev w_Books_smearedOnes (G : zG) (a_this : Nat) (a_crowd : Nat) (a_shelves : Nat) (a_numbers : Nat) (a_left : Nat) (a_result : Nat) (a_fillings : Nat) (a_spare : Nat) (a_rowCounts : Nat) (size : Int32) (numbers : Nat → Int32) : va_W := [(a_this, cO 0 [.ref a_crowd, .ref a_shelves, .ref a_numbers, .int size, .ref a_left, .ref a_result, .ref a_fillings, .ref a_spare, .ref a_rowCounts]), (a_numbers, cI G 9 numbers)]
def f_Books_smearedOnes_L4 (size : Int32) (numbers : Nat → Int32) : Nat → Int32 → Int32 → Option Int32
  | 0, _, _ => none
  | fuel + 1, v1, v2 => (if size ≤ v2 then (some v1) else (zg numbers 9 v2 fun v_1 => (if v_1 = (-1) then (f_Books_smearedOnes_L4 size numbers fuel (v1 + 1) (v2 + 1)) else (f_Books_smearedOnes_L4 size numbers fuel v1 (v2 + 1)))))
def f_Books_smearedOnes (size : Int32) (numbers : Nat → Int32) : Option Int32 := (zb1 (f_Books_smearedOnes_L4 size numbers FU 0 0) fun v1_2 => (some v1_2))
set_option maxRecDepth 100000 in
set_option maxHeartbeats 4000000 in
theorem l_Books_smearedOnes_4 {X : zX} (G : zG) (a_this : Nat) (a_crowd : Nat) (a_shelves : Nat) (a_numbers : Nat) (a_left : Nat) (a_result : Nat) (a_fillings : Nat) (a_spare : Nat) (a_rowCounts : Nat) (size : Int32) (numbers : Nat → Int32) {v0 : Option Value} {w0 : va_W} (F : zF X G cX0_smearedOnes RX0 3 (some .int) 0 0 v0 w0) (e_v1 : Int32) (hk : Z X G 3 (w_Books_smearedOnes G a_this a_crowd a_shelves a_numbers a_left a_result a_fillings a_spare a_rowCounts size numbers) [(1, .int e_v1)] 31 []) :
    ∀ (fuel : Nat) (v1 : Int32) (v2 : Int32), f_Books_smearedOnes_L4 size numbers fuel v1 v2 = some e_v1 → Z X G 3 (w_Books_smearedOnes G a_this a_crowd a_shelves a_numbers a_left a_result a_fillings a_spare a_rowCounts size numbers) [(0, .ref a_this), (1, .int v1), (2, .int v2)] 4 [] := by
  intro fuel
  induction fuel with
  | zero => intro v1 v2 hf; exact absurd ((f_Books_smearedOnes_L4.eq_1 ..).symm.trans hf) (fun h => by cases h)
  | succ fuel ih =>
    intro v1 v2 hf
    replace hf := (f_Books_smearedOnes_L4.eq_2 ..).symm.trans hf
    refine z_iload_n F 2 dX0_smearedOnes_4 rfl rfl ?_
    refine z_aload_n F 0 dX0_smearedOnes_5 rfl rfl ?_
    refine z_get F 0 0 3 inlX0 rfl rfl (by decide) fl_X0_63 rfl dX0_smearedOnes_6 ?_
    refine z_icmp_ge F 31 dX0_smearedOnes_9 (by decide) hf (fun hf _ => ?_) (fun hf _ => ?_)
    · have ee1 := Option.some.inj hf
      subst ee1
      exact z_sub [1] rfl hk
    · refine z_aload_n F 0 dX0_smearedOnes_12 rfl rfl ?_
      refine z_get F 0 0 2 inlX0 rfl rfl (by decide) fl_X0_19 rfl dX0_smearedOnes_13 ?_
      refine z_iload_n F 2 dX0_smearedOnes_16 rfl rfl ?_
      refine z_iald F 1 rfl hf dX0_smearedOnes_17 (fun v_1 hf => ?_)
      refine z_iconst F (-1) dX0_smearedOnes_18 rfl ?_
      refine z_icmp_ne F 25 dX0_smearedOnes_19 (by decide) hf (fun hf _ => ?_) (fun hf _ => ?_)
      · refine z_iinc F [(2, .int (v2 + 1)), (0, .ref a_this), (1, .int v1)] dX0_smearedOnes_25 2 rfl rfl (by decide) rfl ?_
        refine z_goto F 4 dX0_smearedOnes_28 (by decide) ?_
        exact z_sub [1, 2, 0] rfl (ih v1 (v2 + 1) hf)
      · refine z_iinc F [(1, .int (v1 + 1)), (0, .ref a_this), (2, .int v2)] dX0_smearedOnes_22 1 rfl rfl (by decide) rfl ?_
        refine z_iinc F [(2, .int (v2 + 1)), (1, .int (v1 + 1)), (0, .ref a_this)] dX0_smearedOnes_25 2 rfl rfl (by decide) rfl ?_
        refine z_goto F 4 dX0_smearedOnes_28 (by decide) ?_
        exact z_sub [2, 1, 0] rfl (ih (v1 + 1) (v2 + 1) hf)

set_option maxRecDepth 100000 in
set_option maxHeartbeats 4000000 in
theorem c_Books_smearedOnes (l : Launch) (G : zG) (a_this : Nat) (a_crowd : Nat) (a_shelves : Nat) (a_numbers : Nat) (a_left : Nat) (a_result : Nat) (a_fillings : Nat) (a_spare : Nat) (a_rowCounts : Nat) (size : Int32) (numbers : Nat → Int32) (r_ : Int32) (hf : f_Books_smearedOnes size numbers = some r_) : zM l yX0_smearedOnes cX0_smearedOnes 3 (some .int) 0 0 G [.ref a_this] (w_Books_smearedOnes G a_this a_crowd a_shelves a_numbers a_left a_result a_fillings a_spare a_rowCounts size numbers) (some (.int r_)) (w_Books_smearedOnes G a_this a_crowd a_shelves a_numbers a_left a_result a_fillings a_spare a_rowCounts size numbers) := by
  refine zM.of [(0, .ref a_this)] (own := RX0) rfl (by decide +kernel) (Nat.le_of_ble_eq_true rfl) rfl rfl fun X hX F => ?_
  subst hX
  replace hf := (f_Books_smearedOnes.eq_1 ..).symm.trans hf
  refine z_iconst F (0) dX0_smearedOnes_0 rfl ?_
  refine z_istore_n F [(1, .int 0), (0, .ref a_this)] dX0_smearedOnes_1 rfl (by decide) rfl ?_
  refine z_iconst F (0) dX0_smearedOnes_2 rfl ?_
  refine z_istore_n F [(2, .int 0), (1, .int 0), (0, .ref a_this)] dX0_smearedOnes_3 rfl (by decide) rfl ?_
  obtain ⟨v1_2, hg, hf⟩ := zb1_some hf
  refine z_sub [2, 1, 0] rfl ?_
  refine l_Books_smearedOnes_4 G a_this a_crowd a_shelves a_numbers a_left a_result a_fillings a_spare a_rowCounts size numbers F v1_2 ?_ FU 0 0 hg
  refine z_iload_n F 0 dX0_smearedOnes_31 rfl rfl ?_
  have ee1 := Option.some.inj hf
  subst ee1
  exact z_iret F rfl rfl rfl rfl dX0_smearedOnes_32

abbrev w_Books_refusalToRestore (G : zG) (a_this : Nat) (a_crowd : Nat) (a_shelves : Nat) (a_numbers : Nat) (a_left : Nat) (a_result : Nat) (a_fillings : Nat) (a_spare : Nat) (a_rowCounts : Nat) (a_shelves_sorts : Nat) (a_shelves_sizes : Nat) (a_shelves_held : Nat) (a_shelves_elements : Nat) (a_shelves_elements_e : Nat → Nat) (a_p2 : Nat) (a_p2_who : Nat) (size : Int32) (shelves_sorts : Nat → Int32) (shelves_sizes : Nat → Int32) (shelves_elements_e : Nat → (Nat → Int64)) (numbers : Nat → Int32) (p2_length : Int32) : va_W := [(a_this, cO 0 [.ref a_crowd, .ref a_shelves, .ref a_numbers, .int size, .ref a_left, .ref a_result, .ref a_fillings, .ref a_spare, .ref a_rowCounts]), (a_shelves, cO 9 [.ref a_shelves_sorts, .ref a_shelves_sizes, .ref a_shelves_held, .ref a_shelves_elements]), (a_shelves_sorts, cI G 6 shelves_sorts), (a_shelves_sizes, cI G 6 shelves_sizes), (a_shelves_elements, cJJ G 6 (fun j => some (a_shelves_elements_e j))), ((a_shelves_elements_e 0), cJ G 60 (shelves_elements_e 0)), ((a_shelves_elements_e 1), cJ G 60 (shelves_elements_e 1)), ((a_shelves_elements_e 2), cJ G 60 (shelves_elements_e 2)), ((a_shelves_elements_e 3), cJ G 60 (shelves_elements_e 3)), ((a_shelves_elements_e 4), cJ G 60 (shelves_elements_e 4)), ((a_shelves_elements_e 5), cJ G 60 (shelves_elements_e 5)), (a_numbers, cI G 9 numbers), (a_p2, cO 7 [.ref a_p2_who, .int p2_length])]
def f_Books_refusalToRestore (size : Int32) (shelves_sorts : Nat → Int32) (shelves_sizes : Nat → Int32) (shelves_elements_e : Nat → (Nat → Int64)) (numbers : Nat → Int32) (p2_length : Int32) (x1 : Int32) : Option (Int32 × Int32 × (Nat → Int32)) := (zb3 (f_Books_refusalToFill size shelves_sorts shelves_sizes shelves_elements_e numbers p2_length x1) fun r_1 size_2 numbers_3 => (if r_1 = 0 then (zb1 (f_Shelves_sizeOf shelves_sizes x1) fun r_5 => (if r_5 = (f_Line_size p2_length) then (zb1 (f_Books_smearedOnes size_2 numbers_3) fun r_8 => (if r_8 ≤ 0 then (some (0, size_2, numbers_3)) else (some ((-5), size_2, numbers_3)))) else (some ((-5), size_2, numbers_3)))) else (some (r_1, size_2, numbers_3))))
set_option maxRecDepth 100000 in
set_option maxHeartbeats 4000000 in
theorem c_Books_refusalToRestore (l : Launch) (G : zG) (a_this : Nat) (a_crowd : Nat) (a_shelves : Nat) (a_numbers : Nat) (a_left : Nat) (a_result : Nat) (a_fillings : Nat) (a_spare : Nat) (a_rowCounts : Nat) (a_shelves_sorts : Nat) (a_shelves_sizes : Nat) (a_shelves_held : Nat) (a_shelves_elements : Nat) (a_shelves_elements_e : Nat → Nat) (a_p2 : Nat) (a_p2_who : Nat) (size : Int32) (shelves_sorts : Nat → Int32) (shelves_sizes : Nat → Int32) (shelves_elements_e : Nat → (Nat → Int64)) (numbers : Nat → Int32) (p2_length : Int32) (x1 : Int32) (r_ : Int32) (o_size : Int32) (o_numbers : Nat → Int32) (hf : f_Books_refusalToRestore size shelves_sorts shelves_sizes shelves_elements_e numbers p2_length x1 = some (r_, o_size, o_numbers)) : zM l yX0_refusalToRestore cX0_refusalToRestore 4 (some .int) 5 110 G [.ref a_this, .int x1, .ref a_p2] (w_Books_refusalToRestore G a_this a_crowd a_shelves a_numbers a_left a_result a_fillings a_spare a_rowCounts a_shelves_sorts a_shelves_sizes a_shelves_held a_shelves_elements a_shelves_elements_e a_p2 a_p2_who size shelves_sorts shelves_sizes shelves_elements_e numbers p2_length) (some (.int r_)) (w_Books_refusalToRestore G a_this a_crowd a_shelves a_numbers a_left a_result a_fillings a_spare a_rowCounts a_shelves_sorts a_shelves_sizes a_shelves_held a_shelves_elements a_shelves_elements_e a_p2 a_p2_who o_size shelves_sorts shelves_sizes shelves_elements_e o_numbers p2_length) := by
  refine zM.of [(0, .ref a_this), (1, .int x1), (2, .ref a_p2)] (own := RX0) rfl (by decide +kernel) (Nat.le_of_ble_eq_true rfl) rfl rfl fun X hX F => ?_
  subst hX
  replace hf := (f_Books_refusalToRestore.eq_1 ..).symm.trans hf
  refine z_aload_n F 0 dX0_refusalToRestore_0 rfl rfl ?_
  refine z_iload_n F 1 dX0_refusalToRestore_1 rfl rfl ?_
  refine z_aload_n F 2 dX0_refusalToRestore_2 rfl rfl ?_
  obtain ⟨r_1, size_2, numbers_3, hg, hf⟩ := zb3_some hf
  refine z_callVm (rest := []) F 0 (c_Books_refusalToFill (xL X) G a_this a_crowd a_shelves a_numbers a_left a_result a_fillings a_spare a_rowCounts a_shelves_sorts a_shelves_sizes a_shelves_held a_shelves_elements a_shelves_elements_e a_p2 a_p2_who size shelves_sorts shelves_sizes shelves_elements_e numbers p2_length x1 r_1 size_2 numbers_3 hg) hy_X0_refusalToFill ml_X0_86 hd_X0_refusalToFill ⟨by omega, by omega⟩ rfl [0, 1, 2, 3, 4, 5, 6, 7, 8, 9, 10, 11, 12] rfl rfl 0 rfl rfl (w_Books_refusalToRestore G a_this a_crowd a_shelves a_numbers a_left a_result a_fillings a_spare a_rowCounts a_shelves_sorts a_shelves_sizes a_shelves_held a_shelves_elements a_shelves_elements_e a_p2 a_p2_who size_2 shelves_sorts shelves_sizes shelves_elements_e numbers_3 p2_length) [some 0, some 1, some 2, some 3, some 4, some 5, some 6, some 7, some 8, some 9, some 10, some 11, some 12] rfl (by decide +kernel) rfl rfl (Nat.le_of_ble_eq_true rfl) dX0_refusalToRestore_3 (fun hz_4 => ?_)
  refine z_istore_n F [(3, .int r_1), (0, .ref a_this), (1, .int x1), (2, .ref a_p2)] dX0_refusalToRestore_6 rfl (by decide) rfl ?_
  refine z_iload_n F 0 dX0_refusalToRestore_7 rfl rfl ?_
  refine z_if_eq F 13 dX0_refusalToRestore_8 (by decide) hf (fun hf _ => ?_) (fun hf _ => ?_)
  · refine z_aload_n F 1 dX0_refusalToRestore_13 rfl rfl ?_
    refine z_get F 0 0 1 inlX0 rfl rfl (by decide) fl_X0_15 rfl dX0_refusalToRestore_14 ?_
    refine z_iload_n F 2 dX0_refusalToRestore_17 rfl rfl ?_
    obtain ⟨r_5, hg, hf⟩ := zb1_some hf
    refine z_callVm (rest := []) F 9 (c_Shelves_sizeOf (xL X) G a_shelves a_shelves_sorts a_shelves_sizes a_shelves_held a_shelves_elements shelves_sizes x1 r_5 hg) hy_X9_sizeOf ml_X0_47 hd_X9_sizeOf ⟨by omega, by omega⟩ rfl [1, 3] rfl rfl 1 rfl rfl (w_Books_refusalToRestore G a_this a_crowd a_shelves a_numbers a_left a_result a_fillings a_spare a_rowCounts a_shelves_sorts a_shelves_sizes a_shelves_held a_shelves_elements a_shelves_elements_e a_p2 a_p2_who size_2 shelves_sorts shelves_sizes shelves_elements_e numbers_3 p2_length) [none, some 0, none, some 1, none, none, none, none, none, none, none, none, none] rfl (by decide +kernel) rfl rfl (Nat.le_of_ble_eq_true rfl) dX0_refusalToRestore_18 (fun hz_6 => ?_)
    refine z_aload_n F 3 dX0_refusalToRestore_21 rfl rfl ?_
    refine z_callVm (rest := [.int r_5]) F 7 (c_Line_size (xL X) G a_p2 a_p2_who p2_length _ rfl) hy_X7_size ml_X0_53 hd_X7_size ⟨by omega, by omega⟩ rfl [12] rfl rfl 12 rfl rfl (w_Books_refusalToRestore G a_this a_crowd a_shelves a_numbers a_left a_result a_fillings a_spare a_rowCounts a_shelves_sorts a_shelves_sizes a_shelves_held a_shelves_elements a_shelves_elements_e a_p2 a_p2_who size_2 shelves_sorts shelves_sizes shelves_elements_e numbers_3 p2_length) [none, none, none, none, none, none, none, none, none, none, none, none, some 0] rfl (by decide +kernel) rfl rfl (Nat.le_of_ble_eq_true rfl) dX0_refusalToRestore_22 (fun hz_7 => ?_)
    refine z_icmp_ne F 35 dX0_refusalToRestore_25 (by decide) hf (fun hf _ => ?_) (fun hf _ => ?_)
    · refine z_bipush F (-5) dX0_refusalToRestore_35 rfl ?_
      refine z_goto F 41 dX0_refusalToRestore_37 (by decide) ?_
      have eq1 := Option.some.inj hf
      obtain ⟨ee1, eq2⟩ := Prod.mk.inj eq1
      obtain ⟨ee2, ee3⟩ := Prod.mk.inj eq2
      subst ee1
      subst ee2
      subst ee3
      exact z_iret F rfl rfl rfl rfl dX0_refusalToRestore_41
    · refine z_aload_n F 1 dX0_refusalToRestore_28 rfl rfl ?_
      obtain ⟨r_8, hg, hf⟩ := zb1_some hf
      refine z_callVm (rest := []) F 0 (c_Books_smearedOnes (xL X) G a_this a_crowd a_shelves a_numbers a_left a_result a_fillings a_spare a_rowCounts size_2 numbers_3 r_8 hg) hy_X0_smearedOnes ml_X0_90 hd_X0_smearedOnes ⟨by omega, by omega⟩ rfl [0, 11] rfl rfl 0 rfl rfl (w_Books_refusalToRestore G a_this a_crowd a_shelves a_numbers a_left a_result a_fillings a_spare a_rowCounts a_shelves_sorts a_shelves_sizes a_shelves_held a_shelves_elements a_shelves_elements_e a_p2 a_p2_who size_2 shelves_sorts shelves_sizes shelves_elements_e numbers_3 p2_length) [some 0, none, none, none, none, none, none, none, none, none, none, some 1, none] rfl (by decide +kernel) rfl rfl (Nat.le_of_ble_eq_true rfl) dX0_refusalToRestore_29 (fun hz_9 => ?_)
      refine z_if_le F 40 dX0_refusalToRestore_32 (by decide) hf (fun hf _ => ?_) (fun hf _ => ?_)
      · refine z_iconst F (0) dX0_refusalToRestore_40 rfl ?_
        have eq1 := Option.some.inj hf
        obtain ⟨ee1, eq2⟩ := Prod.mk.inj eq1
        obtain ⟨ee2, ee3⟩ := Prod.mk.inj eq2
        subst ee1
        subst ee2
        subst ee3
        exact z_iret F rfl rfl rfl rfl dX0_refusalToRestore_41
      · refine z_bipush F (-5) dX0_refusalToRestore_35 rfl ?_
        refine z_goto F 41 dX0_refusalToRestore_37 (by decide) ?_
        have eq1 := Option.some.inj hf
        obtain ⟨ee1, eq2⟩ := Prod.mk.inj eq1
        obtain ⟨ee2, ee3⟩ := Prod.mk.inj eq2
        subst ee1
        subst ee2
        subst ee3
        exact z_iret F rfl rfl rfl rfl dX0_refusalToRestore_41
  · refine z_iload_n F 0 dX0_refusalToRestore_11 rfl rfl ?_
    have eq1 := Option.some.inj hf
    obtain ⟨ee1, eq2⟩ := Prod.mk.inj eq1
    obtain ⟨ee2, ee3⟩ := Prod.mk.inj eq2
    subst ee1
    subst ee2
    subst ee3
    exact z_iret F rfl rfl rfl rfl dX0_refusalToRestore_12

abbrev w_Books_placeInLeft (G : zG) (a_this : Nat) (a_crowd : Nat) (a_shelves : Nat) (a_numbers : Nat) (a_left : Nat) (a_result : Nat) (a_fillings : Nat) (a_spare : Nat) (a_rowCounts : Nat) (a_crowd_heights : Nat) (a_left_who : Nat) (size : Int32) (crowd_people : Int32) (crowd_heights : Nat → Int32) (left_length : Int32) (left_who : Nat → Int32) : va_W := [(a_this, cO 0 [.ref a_crowd, .ref a_shelves, .ref a_numbers, .int size, .ref a_left, .ref a_result, .ref a_fillings, .ref a_spare, .ref a_rowCounts]), (a_crowd, cO 1 [.ref a_crowd_heights, .int crowd_people]), (a_crowd_heights, cI G 9 crowd_heights), (a_left, cO 7 [.ref a_left_who, .int left_length]), (a_left_who, cI G 9 left_who)]
def f_Books_placeInLeft_L18 (crowd_people : Int32) (crowd_heights : Nat → Int32) (left_length : Int32) (left_who : Nat → Int32) (v2 : Int32) : Nat → Int32 → Int32 → Option Int32
  | 0, _, _ => none
  | fuel + 1, v3, v4 => (if (f_Line_size left_length) ≤ v4 then (some v3) else (zb1 (f_Line_at left_length left_who v4) fun r_3 => (zb1 (f_Line_at left_length left_who v2) fun r_5 => (zb1 (f_Crowd_isTaller crowd_people crowd_heights r_3 r_5) fun r_7 => (if r_7 = 0 then (f_Books_placeInLeft_L18 crowd_people crowd_heights left_length left_who v2 fuel v3 (v4 + 1)) else (f_Books_placeInLeft_L18 crowd_people crowd_heights left_length left_who v2 fuel (v3 + 1) (v4 + 1)))))))
def f_Books_placeInLeft_L2 (crowd_people : Int32) (crowd_heights : Nat → Int32) (left_length : Int32) (left_who : Nat → Int32) (v1 : Int32) : Nat → Int32 → Option (((Unit) ⊕ (Int32)))
  | 0, _ => none
  | fuel + 1, v2 => (if (f_Line_size left_length) ≤ v2 then (some (.inl ())) else (zb1 (f_Books_placeInLeft_L18 crowd_people crowd_heights left_length left_who v2 FU 0 0) fun v3_9 => (if v3_9 = v1 then (some (.inr v2)) else (f_Books_placeInLeft_L2 crowd_people crowd_heights left_length left_who v1 fuel (v2 + 1)))))
def f_Books_placeInLeft (crowd_people : Int32) (crowd_heights : Nat → Int32) (left_length : Int32) (left_who : Nat → Int32) (x1 : Int32) : Option Int32 := (zbs0 (f_Books_placeInLeft_L2 crowd_people crowd_heights left_length left_who x1 FU 0) ((some (-2))) some)
set_option maxRecDepth 100000 in
set_option maxHeartbeats 4000000 in
theorem l_Books_placeInLeft_18 {X : zX} (G : zG) (a_this : Nat) (a_crowd : Nat) (a_shelves : Nat) (a_numbers : Nat) (a_left : Nat) (a_result : Nat) (a_fillings : Nat) (a_spare : Nat) (a_rowCounts : Nat) (a_crowd_heights : Nat) (a_left_who : Nat) (size : Int32) (crowd_people : Int32) (crowd_heights : Nat → Int32) (left_length : Int32) (left_who : Nat → Int32) (v1 : Int32) (v2 : Int32) {v0 : Option Value} {w0 : va_W} (F : zF X G cX0_placeInLeft RX0 5 (some .int) 2 43 v0 w0) (e_v3 : Int32) (hk : Z X G 5 (w_Books_placeInLeft G a_this a_crowd a_shelves a_numbers a_left a_result a_fillings a_spare a_rowCounts a_crowd_heights a_left_who size crowd_people crowd_heights left_length left_who) [(0, .ref a_this), (1, .int v1), (2, .int v2), (3, .int e_v3)] 66 []) :
    ∀ (fuel : Nat) (v3 : Int32) (v4 : Int32), f_Books_placeInLeft_L18 crowd_people crowd_heights left_length left_who v2 fuel v3 v4 = some e_v3 → Z X G 5 (w_Books_placeInLeft G a_this a_crowd a_shelves a_numbers a_left a_result a_fillings a_spare a_rowCounts a_crowd_heights a_left_who size crowd_people crowd_heights left_length left_who) [(0, .ref a_this), (1, .int v1), (2, .int v2), (3, .int v3), (4, .int v4)] 18 [] := by
  intro fuel
  induction fuel with
  | zero => intro v3 v4 hf; exact absurd ((f_Books_placeInLeft_L18.eq_1 ..).symm.trans hf) (fun h => by cases h)
  | succ fuel ih =>
    intro v3 v4 hf
    replace hf := (f_Books_placeInLeft_L18.eq_2 ..).symm.trans hf
    refine z_iload F 4 dX0_placeInLeft_18 rfl ?_
    refine z_aload_n F 0 dX0_placeInLeft_20 rfl rfl ?_
    refine z_get F 0 0 4 inlX0 rfl rfl (by decide) fl_X0_26 rfl dX0_placeInLeft_21 ?_
    refine z_callVm (rest := [.int v4]) F 7 (c_Line_size (xL X) G a_left a_left_who left_length _ rfl) hy_X7_size ml_X0_53 hd_X7_size ⟨by omega, by omega⟩ rfl [3] rfl rfl 3 rfl rfl (w_Books_placeInLeft G a_this a_crowd a_shelves a_numbers a_left a_result a_fillings a_spare a_rowCounts a_crowd_heights a_left_who size crowd_people crowd_heights left_length left_who) [none, none, none, some 0, none] rfl (by decide +kernel) rfl rfl (Nat.le_of_ble_eq_true rfl) dX0_placeInLeft_24 (fun hz_2 => ?_)
    refine z_icmp_ge F 66 dX0_placeInLeft_27 (by decide) hf (fun hf _ => ?_) (fun hf _ => ?_)
    · have ee1 := Option.some.inj hf
      subst ee1
      exact z_sub [0, 1, 2, 3] rfl hk
    · refine z_aload_n F 0 dX0_placeInLeft_30 rfl rfl ?_
      refine z_get F 0 0 0 inlX0 rfl rfl (by decide) fl_X0_9 rfl dX0_placeInLeft_31 ?_
      refine z_aload_n F 0 dX0_placeInLeft_34 rfl rfl ?_
      refine z_get F 0 0 4 inlX0 rfl rfl (by decide) fl_X0_26 rfl dX0_placeInLeft_35 ?_
      refine z_iload F 4 dX0_placeInLeft_38 rfl ?_
      obtain ⟨r_3, hg, hf⟩ := zb1_some hf
      refine z_callVm (rest := [.ref a_crowd]) F 7 (c_Line_at (xL X) G a_left a_left_who left_length left_who v4 r_3 hg) hy_X7_at ml_X0_145 hd_X7_at ⟨by omega, by omega⟩ rfl [3, 4] rfl rfl 3 rfl rfl (w_Books_placeInLeft G a_this a_crowd a_shelves a_numbers a_left a_result a_fillings a_spare a_rowCounts a_crowd_heights a_left_who size crowd_people crowd_heights left_length left_who) [none, none, none, some 0, some 1] rfl (by decide +kernel) rfl rfl (Nat.le_of_ble_eq_true rfl) dX0_placeInLeft_40 (fun hz_4 => ?_)
      refine z_aload_n F 0 dX0_placeInLeft_43 rfl rfl ?_
      refine z_get F 0 0 4 inlX0 rfl rfl (by decide) fl_X0_26 rfl dX0_placeInLeft_44 ?_
      refine z_iload_n F 2 dX0_placeInLeft_47 rfl rfl ?_
      obtain ⟨r_5, hg, hf⟩ := zb1_some hf
      refine z_callVm (rest := [.int r_3, .ref a_crowd]) F 7 (c_Line_at (xL X) G a_left a_left_who left_length left_who v2 r_5 hg) hy_X7_at ml_X0_145 hd_X7_at ⟨by omega, by omega⟩ rfl [3, 4] rfl rfl 3 rfl rfl (w_Books_placeInLeft G a_this a_crowd a_shelves a_numbers a_left a_result a_fillings a_spare a_rowCounts a_crowd_heights a_left_who size crowd_people crowd_heights left_length left_who) [none, none, none, some 0, some 1] rfl (by decide +kernel) rfl rfl (Nat.le_of_ble_eq_true rfl) dX0_placeInLeft_48 (fun hz_6 => ?_)
      obtain ⟨r_7, hg, hf⟩ := zb1_some hf
      refine z_callVm (rest := []) F 1 (c_Crowd_isTaller (xL X) G a_crowd a_crowd_heights crowd_people crowd_heights r_3 r_5 r_7 hg) hy_X1_isTaller ml_X0_148 hd_X1_isTaller ⟨by omega, by omega⟩ rfl [1, 2] rfl rfl 1 rfl rfl (w_Books_placeInLeft G a_this a_crowd a_shelves a_numbers a_left a_result a_fillings a_spare a_rowCounts a_crowd_heights a_left_who size crowd_people crowd_heights left_length left_who) [none, some 0, some 1, none, none] rfl (by decide +kernel) rfl rfl (Nat.le_of_ble_eq_true rfl) dX0_placeInLeft_51 (fun hz_8 => ?_)
      refine z_if_eq F 60 dX0_placeInLeft_54 (by decide) hf (fun hf _ => ?_) (fun hf _ => ?_)
      · refine z_iinc F [(4, .int (v4 + 1)), (0, .ref a_this), (1, .int v1), (2, .int v2), (3, .int v3)] dX0_placeInLeft_60 4 rfl rfl (by decide) rfl ?_
        refine z_goto F 18 dX0_placeInLeft_63 (by decide) ?_
        exact z_sub [1, 2, 3, 4, 0] rfl (ih v3 (v4 + 1) hf)
      · refine z_iinc F [(3, .int (v3 + 1)), (0, .ref a_this), (1, .int v1), (2, .int v2), (4, .int v4)] dX0_placeInLeft_57 3 rfl rfl (by decide) rfl ?_
        refine z_iinc F [(4, .int (v4 + 1)), (3, .int (v3 + 1)), (0, .ref a_this), (1, .int v1), (2, .int v2)] dX0_placeInLeft_60 4 rfl rfl (by decide) rfl ?_
        refine z_goto F 18 dX0_placeInLeft_63 (by decide) ?_
        exact z_sub [2, 3, 4, 1, 0] rfl (ih (v3 + 1) (v4 + 1) hf)

set_option maxRecDepth 100000 in
set_option maxHeartbeats 4000000 in
theorem l_Books_placeInLeft_2 {X : zX} (G : zG) (a_this : Nat) (a_crowd : Nat) (a_shelves : Nat) (a_numbers : Nat) (a_left : Nat) (a_result : Nat) (a_fillings : Nat) (a_spare : Nat) (a_rowCounts : Nat) (a_crowd_heights : Nat) (a_left_who : Nat) (size : Int32) (crowd_people : Int32) (crowd_heights : Nat → Int32) (left_length : Int32) (left_who : Nat → Int32) (v1 : Int32) {v0 : Option Value} {w0 : va_W} (F : zF X G cX0_placeInLeft RX0 5 (some .int) 2 43 v0 w0) (out : ((Unit) ⊕ (Int32))) (hk : out = .inl () → Z X G 5 (w_Books_placeInLeft G a_this a_crowd a_shelves a_numbers a_left a_result a_fillings a_spare a_rowCounts a_crowd_heights a_left_who size crowd_people crowd_heights left_length left_who) [] 79 []) (hr : ∀ q : Int32, out = .inr q → v0 = some (.int q) ∧ w0 = (w_Books_placeInLeft G a_this a_crowd a_shelves a_numbers a_left a_result a_fillings a_spare a_rowCounts a_crowd_heights a_left_who size crowd_people crowd_heights left_length left_who)) :
    ∀ (fuel : Nat) (v2 : Int32), f_Books_placeInLeft_L2 crowd_people crowd_heights left_length left_who v1 fuel v2 = some out → Z X G 5 (w_Books_placeInLeft G a_this a_crowd a_shelves a_numbers a_left a_result a_fillings a_spare a_rowCounts a_crowd_heights a_left_who size crowd_people crowd_heights left_length left_who) [(0, .ref a_this), (1, .int v1), (2, .int v2)] 2 [] := by
  intro fuel
  induction fuel with
  | zero => intro v2 hf; exact absurd ((f_Books_placeInLeft_L2.eq_1 ..).symm.trans hf) (fun h => by cases h)
  | succ fuel ih =>
    intro v2 hf
    replace hf := (f_Books_placeInLeft_L2.eq_2 ..).symm.trans hf
    refine z_iload_n F 2 dX0_placeInLeft_2 rfl rfl ?_
    refine z_aload_n F 0 dX0_placeInLeft_3 rfl rfl ?_
    refine z_get F 0 0 4 inlX0 rfl rfl (by decide) fl_X0_26 rfl dX0_placeInLeft_4 ?_
    refine z_callVm (rest := [.int v2]) F 7 (c_Line_size (xL X) G a_left a_left_who left_length _ rfl) hy_X7_size ml_X0_53 hd_X7_size ⟨by omega, by omega⟩ rfl [3] rfl rfl 3 rfl rfl (w_Books_placeInLeft G a_this a_crowd a_shelves a_numbers a_left a_result a_fillings a_spare a_rowCounts a_crowd_heights a_left_who size crowd_people crowd_heights left_length left_who) [none, none, none, some 0, none] rfl (by decide +kernel) rfl rfl (Nat.le_of_ble_eq_true rfl) dX0_placeInLeft_7 (fun hz_1 => ?_)
    refine z_icmp_ge F 79 dX0_placeInLeft_10 (by decide) hf (fun hf _ => ?_) (fun hf _ => ?_)
    · exact z_sub [] rfl (hk  (Option.some.inj hf).symm)
    · refine z_iconst F (0) dX0_placeInLeft_13 rfl ?_
      refine z_istore_n F [(3, .int 0), (0, .ref a_this), (1, .int v1), (2, .int v2)] dX0_placeInLeft_14 rfl (by decide) rfl ?_
      refine z_iconst F (0) dX0_placeInLeft_15 rfl ?_
      refine z_istore F [(4, .int 0), (3, .int 0), (0, .ref a_this), (1, .int v1), (2, .int v2)] dX0_placeInLeft_16 (by decide) rfl ?_
      obtain ⟨v3_9, hg, hf⟩ := zb1_some hf
      refine z_sub [2, 3, 4, 1, 0] rfl ?_
      refine l_Books_placeInLeft_18 G a_this a_crowd a_shelves a_numbers a_left a_result a_fillings a_spare a_rowCounts a_crowd_heights a_left_who size crowd_people crowd_heights left_length left_who v1 v2 F v3_9 ?_ FU 0 0 hg
      refine z_iload_n F 3 dX0_placeInLeft_66 rfl rfl ?_
      refine z_iload_n F 1 dX0_placeInLeft_67 rfl rfl ?_
      refine z_icmp_ne F 73 dX0_placeInLeft_68 (by decide) hf (fun hf _ => ?_) (fun hf _ => ?_)
      · refine z_iinc F [(2, .int (v2 + 1)), (0, .ref a_this), (1, .int v1), (3, .int v3_9)] dX0_placeInLeft_73 2 rfl rfl (by decide) rfl ?_
        refine z_goto F 2 dX0_placeInLeft_76 (by decide) ?_
        exact z_sub [1, 2, 0] rfl (ih (v2 + 1) hf)
      · refine z_iload_n F 2 dX0_placeInLeft_71 rfl rfl ?_
        obtain ⟨e1, e2⟩ := hr _ (Option.some.inj hf).symm
        exact z_iret F rfl rfl e1.symm e2.symm dX0_placeInLeft_72

set_option maxRecDepth 100000 in
set_option maxHeartbeats 4000000 in
theorem c_Books_placeInLeft (l : Launch) (G : zG) (a_this : Nat) (a_crowd : Nat) (a_shelves : Nat) (a_numbers : Nat) (a_left : Nat) (a_result : Nat) (a_fillings : Nat) (a_spare : Nat) (a_rowCounts : Nat) (a_crowd_heights : Nat) (a_left_who : Nat) (size : Int32) (crowd_people : Int32) (crowd_heights : Nat → Int32) (left_length : Int32) (left_who : Nat → Int32) (x1 : Int32) (r_ : Int32) (hf : f_Books_placeInLeft crowd_people crowd_heights left_length left_who x1 = some r_) : zM l yX0_placeInLeft cX0_placeInLeft 5 (some .int) 2 43 G [.ref a_this, .int x1] (w_Books_placeInLeft G a_this a_crowd a_shelves a_numbers a_left a_result a_fillings a_spare a_rowCounts a_crowd_heights a_left_who size crowd_people crowd_heights left_length left_who) (some (.int r_)) (w_Books_placeInLeft G a_this a_crowd a_shelves a_numbers a_left a_result a_fillings a_spare a_rowCounts a_crowd_heights a_left_who size crowd_people crowd_heights left_length left_who) := by
  refine zM.of [(0, .ref a_this), (1, .int x1)] (own := RX0) rfl (by decide +kernel) (Nat.le_of_ble_eq_true rfl) rfl rfl fun X hX F => ?_
  subst hX
  replace hf := (f_Books_placeInLeft.eq_1 ..).symm.trans hf
  refine z_iconst F (0) dX0_placeInLeft_0 rfl ?_
  refine z_istore_n F [(2, .int 0), (0, .ref a_this), (1, .int x1)] dX0_placeInLeft_1 rfl (by decide) rfl ?_
  obtain ⟨z_10, hg, hf1_11, hf2_12⟩ := zbs0_some hf
  refine z_sub [1, 2, 0] rfl ?_
  refine l_Books_placeInLeft_2 G a_this a_crowd a_shelves a_numbers a_left a_result a_fillings a_spare a_rowCounts a_crowd_heights a_left_who size crowd_people crowd_heights left_length left_who x1 F z_10 (fun e => ?_) (fun q e => ?_) FU 0 hg
  · have hf := hf1_11 e
    refine z_bipush F (-2) dX0_placeInLeft_79 rfl ?_
    have ee1 := Option.some.inj hf
    subst ee1
    exact z_iret F rfl rfl rfl rfl dX0_placeInLeft_81
  · have hf := hf2_12 _ e
    cases hf
    exact ⟨rfl, rfl⟩

abbrev w_Books_lineRestored (G : zG) (a_this : Nat) (a_crowd : Nat) (a_shelves : Nat) (a_numbers : Nat) (a_left : Nat) (a_result : Nat) (a_fillings : Nat) (a_spare : Nat) (a_rowCounts : Nat) (a_crowd_heights : Nat) (a_left_who : Nat) (a_result_who : Nat) (a_p1 : Nat) (a_p1_who : Nat) (size : Int32) (crowd_people : Int32) (crowd_heights : Nat → Int32) (numbers : Nat → Int32) (left_length : Int32) (left_who : Nat → Int32) (result_length : Int32) (result_who : Nat → Int32) (p1_length : Int32) (p1_who : Nat → Int32) : va_W := [(a_this, cO 0 [.ref a_crowd, .ref a_shelves, .ref a_numbers, .int size, .ref a_left, .ref a_result, .ref a_fillings, .ref a_spare, .ref a_rowCounts]), (a_crowd, cO 1 [.ref a_crowd_heights, .int crowd_people]), (a_crowd_heights, cI G 9 crowd_heights), (a_numbers, cI G 9 numbers), (a_left, cO 7 [.ref a_left_who, .int left_length]), (a_left_who, cI G 9 left_who), (a_result, cO 7 [.ref a_result_who, .int result_length]), (a_result_who, cI G 9 result_who), (a_p1, cO 7 [.ref a_p1_who, .int p1_length]), (a_p1_who, cI G 9 p1_who)]
def f_Books_lineRestored_L23 (crowd_people : Int32) (crowd_heights : Nat → Int32) (numbers : Nat → Int32) (result_length : Int32) : Nat → Int32 → (Nat → Int32) → (Nat → Int32) → Int32 → Option (Int32 × (Nat → Int32) × (Nat → Int32))
  | 0, _, _, _, _ => none
  | fuel + 1, left_length, left_who, result_who, v2 => (if v2 < 0 then (some (left_length, left_who, result_who)) else (zg numbers 9 v2 fun v_7 => (zb1 (f_Books_placeInLeft crowd_people crowd_heights left_length left_who v_7) fun r_8 => (zb3 (f_Line_removeAt left_length left_who r_8) fun r_10 left_length_11 left_who_12 => (zb1 (f_Line_setAt result_length result_who v2 r_10) fun result_who_14 => (f_Books_lineRestored_L23 crowd_people crowd_heights numbers result_length fuel left_length_11 left_who_12 result_who_14 (v2 + (-1))))))))
def f_Books_lineRestored (size : Int32) (crowd_people : Int32) (crowd_heights : Nat → Int32) (numbers : Nat → Int32) (left_length : Int32) (left_who : Nat → Int32) (result_length : Int32) (result_who : Nat → Int32) (p1_length : Int32) (p1_who : Nat → Int32) : Option (Int32 × (Nat → Int32) × Int32 × (Nat → Int32)) := (zb2 (f_Line_copyFrom left_length left_who p1_length p1_who) fun left_length_1 left_who_2 => (zb2 (f_Line_copyFrom result_length result_who p1_length p1_who) fun result_length_4 result_who_5 => (zb3 (f_Books_lineRestored_L23 crowd_people crowd_heights numbers result_length_4 FU left_length_1 left_who_2 result_who_5 (size - (1 : Int32))) fun left_length_16 left_who_17 result_who_18 => (some (left_length_16, left_who_17, result_length_4, result_who_18)))))
set_option maxRecDepth 100000 in
set_option maxHeartbeats 4000000 in
theorem l_Books_lineRestored_23 {X : zX} (G : zG) (a_this : Nat) (a_crowd : Nat) (a_shelves : Nat) (a_numbers : Nat) (a_left : Nat) (a_result : Nat) (a_fillings : Nat) (a_spare : Nat) (a_rowCounts : Nat) (a_crowd_heights : Nat) (a_left_who : Nat) (a_result_who : Nat) (a_p1 : Nat) (a_p1_who : Nat) (size : Int32) (crowd_people : Int32) (crowd_heights : Nat → Int32) (numbers : Nat → Int32) (result_length : Int32) (p1_length : Int32) (p1_who : Nat → Int32) {v0 : Option Value} {w0 : va_W} (F : zF X G cX0_lineRestored RX0 3 (some (.object "TallerAhead$Line")) 3 141 v0 w0) (e_left_length : Int32) (e_left_who : Nat → Int32) (e_result_who : Nat → Int32) (hk : Z X G 3 (w_Books_lineRestored G a_this a_crowd a_shelves a_numbers a_left a_result a_fillings a_spare a_rowCounts a_crowd_heights a_left_who a_result_who a_p1 a_p1_who size crowd_people crowd_heights numbers e_left_length e_left_who result_length e_result_who p1_length p1_who) [(0, .ref a_this)] 58 []) :
    ∀ (fuel : Nat) (left_length : Int32) (left_who : Nat → Int32) (result_who : Nat → Int32) (v2 : Int32), f_Books_lineRestored_L23 crowd_people crowd_heights numbers result_length fuel left_length left_who result_who v2 = some (e_left_length, e_left_who, e_result_who) → Z X G 3 (w_Books_lineRestored G a_this a_crowd a_shelves a_numbers a_left a_result a_fillings a_spare a_rowCounts a_crowd_heights a_left_who a_result_who a_p1 a_p1_who size crowd_people crowd_heights numbers left_length left_who result_length result_who p1_length p1_who) [(0, .ref a_this), (2, .int v2)] 23 [] := by
  intro fuel
  induction fuel with
  | zero => intro left_length left_who result_who v2 hf; exact absurd ((f_Books_lineRestored_L23.eq_1 ..).symm.trans hf) (fun h => by cases h)
  | succ fuel ih =>
    intro left_length left_who result_who v2 hf
    replace hf := (f_Books_lineRestored_L23.eq_2 ..).symm.trans hf
    refine z_iload_n F 1 dX0_lineRestored_23 rfl rfl ?_
    refine z_if_lt F 58 dX0_lineRestored_24 (by decide) hf (fun hf _ => ?_) (fun hf _ => ?_)
    · have eq1 := Option.some.inj hf
      obtain ⟨ee1, eq2⟩ := Prod.mk.inj eq1
      obtain ⟨ee2, ee3⟩ := Prod.mk.inj eq2
      subst ee1
      subst ee2
      subst ee3
      exact z_sub [0] rfl hk
    · refine z_aload_n F 0 dX0_lineRestored_27 rfl rfl ?_
      refine z_get F 0 0 5 inlX0 rfl rfl (by decide) fl_X0_30 rfl dX0_lineRestored_28 ?_
      refine z_iload_n F 1 dX0_lineRestored_31 rfl rfl ?_
      refine z_aload_n F 0 dX0_lineRestored_32 rfl rfl ?_
      refine z_get F 0 0 4 inlX0 rfl rfl (by decide) fl_X0_26 rfl dX0_lineRestored_33 ?_
      refine z_aload_n F 0 dX0_lineRestored_36 rfl rfl ?_
      refine z_aload_n F 0 dX0_lineRestored_37 rfl rfl ?_
      refine z_get F 0 0 2 inlX0 rfl rfl (by decide) fl_X0_19 rfl dX0_lineRestored_38 ?_
      refine z_iload_n F 1 dX0_lineRestored_41 rfl rfl ?_
      refine z_iald F 3 rfl hf dX0_lineRestored_42 (fun v_7 hf => ?_)
      obtain ⟨r_8, hg, hf⟩ := zb1_some hf
      refine z_callVm (rest := [.ref a_left, .int v2, .ref a_result]) F 0 (c_Books_placeInLeft (xL X) G a_this a_crowd a_shelves a_numbers a_left a_result a_fillings a_spare a_rowCounts a_crowd_heights a_left_who size crowd_people crowd_heights left_length left_who v_7 r_8 hg) hy_X0_placeInLeft ml_X0_100 hd_X0_placeInLeft ⟨by omega, by omega⟩ rfl [0, 1, 2, 4, 5] rfl rfl 0 rfl rfl (w_Books_lineRestored G a_this a_crowd a_shelves a_numbers a_left a_result a_fillings a_spare a_rowCounts a_crowd_heights a_left_who a_result_who a_p1 a_p1_who size crowd_people crowd_heights numbers left_length left_who result_length result_who p1_length p1_who) [some 0, some 1, some 2, none, some 3, some 4, none, none, none, none] rfl (by decide +kernel) rfl rfl (Nat.le_of_ble_eq_true rfl) dX0_lineRestored_43 (fun hz_9 => ?_)
      obtain ⟨r_10, left_length_11, left_who_12, hg, hf⟩ := zb3_some hf
      refine z_callVm (rest := [.int v2, .ref a_result]) F 7 (c_Line_removeAt (xL X) G a_left a_left_who left_length left_who r_8 r_10 left_length_11 left_who_12 hg) hy_X7_removeAt ml_X0_103 hd_X7_removeAt ⟨by omega, by omega⟩ rfl [4, 5] rfl rfl 4 rfl rfl (w_Books_lineRestored G a_this a_crowd a_shelves a_numbers a_left a_result a_fillings a_spare a_rowCounts a_crowd_heights a_left_who a_result_who a_p1 a_p1_who size crowd_people crowd_heights numbers left_length_11 left_who_12 result_length result_who p1_length p1_who) [none, none, none, none, some 0, some 1, none, none, none, none] rfl (by decide +kernel) rfl rfl (Nat.le_of_ble_eq_true rfl) dX0_lineRestored_46 (fun hz_13 => ?_)
      obtain ⟨result_who_14, hg, hf⟩ := zb1_some hf
      refine z_callVm (rest := []) F 7 (c_Line_setAt (xL X) G a_result a_result_who result_length result_who v2 r_10 result_who_14 hg) hy_X7_setAt ml_X0_106 hd_X7_setAt ⟨by omega, by omega⟩ rfl [6, 7] rfl rfl 6 rfl rfl (w_Books_lineRestored G a_this a_crowd a_shelves a_numbers a_left a_result a_fillings a_spare a_rowCounts a_crowd_heights a_left_who a_result_who a_p1 a_p1_who size crowd_people crowd_heights numbers left_length_11 left_who_12 result_length result_who_14 p1_length p1_who) [none, none, none, none, none, none, some 0, some 1, none, none] rfl (by decide +kernel) rfl rfl (Nat.le_of_ble_eq_true rfl) dX0_lineRestored_49 (fun hz_15 => ?_)
      refine z_iinc F [(2, .int (v2 + (-1))), (0, .ref a_this)] dX0_lineRestored_52 1 rfl rfl (by decide) rfl ?_
      refine z_goto F 23 dX0_lineRestored_55 (by decide) ?_
      exact z_sub [1, 0] rfl (ih left_length_11 left_who_12 result_who_14 (v2 + (-1)) hf)

set_option maxRecDepth 100000 in
set_option maxHeartbeats 4000000 in
theorem c_Books_lineRestored (l : Launch) (G : zG) (a_this : Nat) (a_crowd : Nat) (a_shelves : Nat) (a_numbers : Nat) (a_left : Nat) (a_result : Nat) (a_fillings : Nat) (a_spare : Nat) (a_rowCounts : Nat) (a_crowd_heights : Nat) (a_left_who : Nat) (a_result_who : Nat) (a_p1 : Nat) (a_p1_who : Nat) (size : Int32) (crowd_people : Int32) (crowd_heights : Nat → Int32) (numbers : Nat → Int32) (left_length : Int32) (left_who : Nat → Int32) (result_length : Int32) (result_who : Nat → Int32) (p1_length : Int32) (p1_who : Nat → Int32) (o_left_length : Int32) (o_left_who : Nat → Int32) (o_result_length : Int32) (o_result_who : Nat → Int32) (hf : f_Books_lineRestored size crowd_people crowd_heights numbers left_length left_who result_length result_who p1_length p1_who = some (o_left_length, o_left_who, o_result_length, o_result_who)) : zM l yX0_lineRestored cX0_lineRestored 3 (some (.object "TallerAhead$Line")) 3 141 G [.ref a_this, .ref a_p1] (w_Books_lineRestored G a_this a_crowd a_shelves a_numbers a_left a_result a_fillings a_spare a_rowCounts a_crowd_heights a_left_who a_result_who a_p1 a_p1_who size crowd_people crowd_heights numbers left_length left_who result_length result_who p1_length p1_who) (some (.ref a_result)) (w_Books_lineRestored G a_this a_crowd a_shelves a_numbers a_left a_result a_fillings a_spare a_rowCounts a_crowd_heights a_left_who a_result_who a_p1 a_p1_who size crowd_people crowd_heights numbers o_left_length o_left_who o_result_length o_result_who p1_length p1_who) := by
  refine zM.of [(0, .ref a_this), (1, .ref a_p1)] (own := RX0) rfl (by decide +kernel) (Nat.le_of_ble_eq_true rfl) rfl rfl fun X hX F => ?_
  subst hX
  replace hf := (f_Books_lineRestored.eq_1 ..).symm.trans hf
  refine z_aload_n F 0 dX0_lineRestored_0 rfl rfl ?_
  refine z_get F 0 0 4 inlX0 rfl rfl (by decide) fl_X0_26 rfl dX0_lineRestored_1 ?_
  refine z_aload_n F 1 dX0_lineRestored_4 rfl rfl ?_
  obtain ⟨left_length_1, left_who_2, hg, hf⟩ := zb2_some hf
  refine z_callVm (rest := []) F 7 (c_Line_copyFrom (xL X) G a_left a_left_who a_p1 a_p1_who left_length left_who p1_length p1_who left_length_1 left_who_2 hg) hy_X7_copyFrom ml_X0_96 hd_X7_copyFrom ⟨by omega, by omega⟩ rfl [4, 5, 8, 9] rfl rfl 4 rfl rfl (w_Books_lineRestored G a_this a_crowd a_shelves a_numbers a_left a_result a_fillings a_spare a_rowCounts a_crowd_heights a_left_who a_result_who a_p1 a_p1_who size crowd_people crowd_heights numbers left_length_1 left_who_2 result_length result_who p1_length p1_who) [none, none, none, none, some 0, some 1, none, none, some 2, some 3] rfl (by decide +kernel) rfl rfl (Nat.le_of_ble_eq_true rfl) dX0_lineRestored_5 (fun hz_3 => ?_)
  refine z_aload_n F 0 dX0_lineRestored_8 rfl rfl ?_
  refine z_get F 0 0 5 inlX0 rfl rfl (by decide) fl_X0_30 rfl dX0_lineRestored_9 ?_
  refine z_aload_n F 1 dX0_lineRestored_12 rfl rfl ?_
  obtain ⟨result_length_4, result_who_5, hg, hf⟩ := zb2_some hf
  refine z_callVm (rest := []) F 7 (c_Line_copyFrom (xL X) G a_result a_result_who a_p1 a_p1_who result_length result_who p1_length p1_who result_length_4 result_who_5 hg) hy_X7_copyFrom ml_X0_96 hd_X7_copyFrom ⟨by omega, by omega⟩ rfl [6, 7, 8, 9] rfl rfl 6 rfl rfl (w_Books_lineRestored G a_this a_crowd a_shelves a_numbers a_left a_result a_fillings a_spare a_rowCounts a_crowd_heights a_left_who a_result_who a_p1 a_p1_who size crowd_people crowd_heights numbers left_length_1 left_who_2 result_length_4 result_who_5 p1_length p1_who) [none, none, none, none, none, none, some 0, some 1, some 2, some 3] rfl (by decide +kernel) rfl rfl (Nat.le_of_ble_eq_true rfl) dX0_lineRestored_13 (fun hz_6 => ?_)
  refine z_aload_n F 0 dX0_lineRestored_16 rfl rfl ?_
  refine z_get F 0 0 3 inlX0 rfl rfl (by decide) fl_X0_63 rfl dX0_lineRestored_17 ?_
  refine z_iconst F (1) dX0_lineRestored_20 rfl ?_
  refine z_isub F dX0_lineRestored_21 ?_
  refine z_istore_n F [(2, .int (size - (1 : Int32))), (0, .ref a_this), (1, .ref a_p1)] dX0_lineRestored_22 rfl (by decide) rfl ?_
  obtain ⟨left_length_16, left_who_17, result_who_18, hg, hf⟩ := zb3_some hf
  refine z_sub [1, 0] rfl ?_
  refine l_Books_lineRestored_23 G a_this a_crowd a_shelves a_numbers a_left a_result a_fillings a_spare a_rowCounts a_crowd_heights a_left_who a_result_who a_p1 a_p1_who size crowd_people crowd_heights numbers result_length_4 p1_length p1_who F left_length_16 left_who_17 result_who_18 ?_ FU left_length_1 left_who_2 result_who_5 (size - (1 : Int32)) hg
  refine z_aload_n F 0 dX0_lineRestored_58 rfl rfl ?_
  refine z_get F 0 0 5 inlX0 rfl rfl (by decide) fl_X0_30 rfl dX0_lineRestored_59 ?_
  have eq1 := Option.some.inj hf
  obtain ⟨ee1, eq2⟩ := Prod.mk.inj eq1
  obtain ⟨ee2, eq3⟩ := Prod.mk.inj eq2
  obtain ⟨ee3, ee4⟩ := Prod.mk.inj eq3
  subst ee1
  subst ee2
  subst ee3
  subst ee4
  exact z_aret F rfl rfl rfl dX0_lineRestored_62

abbrev w_Books_firstUnlike (G : zG) (a_this : Nat) (a_crowd : Nat) (a_shelves : Nat) (a_numbers : Nat) (a_left : Nat) (a_result : Nat) (a_fillings : Nat) (a_spare : Nat) (a_rowCounts : Nat) (a_crowd_heights : Nat) (a_p1 : Nat) (a_p1_text : Nat) (a_p1_known : Nat) (a_p1_text_tape : Nat) (a_p1_text_reader : Nat) (a_p1_text_steps : Nat) (a_p1_text_worked : Nat) (a_p2 : Nat) (a_p2_who : Nat) (size : Int32) (crowd_people : Int32) (crowd_heights : Nat → Int32) (numbers : Nat → Int32) (p1_text_fed : Int32) (p1_text_length : Int32) (p1_text_top : Int32) (p1_text_steps : Nat → Int32) (p1_text_worked : Nat → Int32) (p1_known : Nat → Int32) (p2_length : Int32) (p2_who : Nat → Int32) : va_W := [(a_this, cO 0 [.ref a_crowd, .ref a_shelves, .ref a_numbers, .int size, .ref a_left, .ref a_result, .ref a_fillings, .ref a_spare, .ref a_rowCounts]), (a_crowd, cO 1 [.ref a_crowd_heights, .int crowd_people]), (a_crowd_heights, cI G 9 crowd_heights), (a_numbers, cI G 9 numbers), (a_p1, cO 4 [.ref a_crowd, .ref a_p1_text, .ref a_p1_known]), (a_p1_text, cO 5 [.ref a_p1_text_tape, .int p1_text_fed, .ref a_p1_text_reader, .ref a_p1_text_steps, .int p1_text_length, .ref a_p1_text_worked, .int p1_text_top]), (a_p1_text_steps, cI G 121 p1_text_steps), (a_p1_text_worked, cI G 121 p1_text_worked), (a_p1_known, cB G 729 p1_known), (a_p2, cO 7 [.ref a_p2_who, .int p2_length]), (a_p2_who, cI G 9 p2_who)]
def f_Books_firstUnlike_L2 (size : Int32) (crowd_people : Int32) (crowd_heights : Nat → Int32) (numbers : Nat → Int32) (p1_text_length : Int32) (p1_text_steps : Nat → Int32) (p2_length : Int32) (p2_who : Nat → Int32) : Nat → Int32 → (Nat → Int32) → (Nat → Int32) → Int32 → Option (((Int32 × (Nat → Int32) × (Nat → Int32)) ⊕ (Int32 × Int32 × (Nat → Int32) × (Nat → Int32))))
  | 0, _, _, _, _ => none
  | fuel + 1, p1_text_top, p1_text_worked, p1_known, v3 => (if size ≤ v3 then (some (.inl (p1_text_top, p1_text_worked, p1_known))) else (zg numbers 9 v3 fun v_1 => (if v_1 = (-1) then (f_Books_firstUnlike_L2 size crowd_people crowd_heights numbers p1_text_length p1_text_steps p2_length p2_who fuel p1_text_top p1_text_worked p1_known (v3 + 1)) else (zg numbers 9 v3 fun v_2 => (zb4 (f_Judge_numberAt crowd_people crowd_heights p1_text_length p1_text_top p1_text_steps p1_text_worked p1_known p2_length p2_who v3) fun r_3 p1_text_top_4 p1_text_worked_5 p1_known_6 => (if v_2 = r_3 then (f_Books_firstUnlike_L2 size crowd_people crowd_heights numbers p1_text_length p1_text_steps p2_length p2_who fuel p1_text_top_4 p1_text_worked_5 p1_known_6 (v3 + 1)) else (some (.inr (v3, p1_text_top_4, p1_text_worked_5, p1_known_6)))))))))
def f_Books_firstUnlike (size : Int32) (crowd_people : Int32) (crowd_heights : Nat → Int32) (numbers : Nat → Int32) (p1_text_length : Int32) (p1_text_top : Int32) (p1_text_steps : Nat → Int32) (p1_text_worked : Nat → Int32) (p1_known : Nat → Int32) (p2_length : Int32) (p2_who : Nat → Int32) : Option (Int32 × Int32 × (Nat → Int32) × (Nat → Int32)) := (zbs3 (f_Books_firstUnlike_L2 size crowd_people crowd_heights numbers p1_text_length p1_text_steps p2_length p2_who FU p1_text_top p1_text_worked p1_known 0) (fun p1_text_top_8 p1_text_worked_9 p1_known_10 => (some ((-2), p1_text_top_8, p1_text_worked_9, p1_known_10))) some)
set_option maxRecDepth 100000 in
set_option maxHeartbeats 4000000 in
theorem l_Books_firstUnlike_2 {X : zX} (G : zG) (a_this : Nat) (a_crowd : Nat) (a_shelves : Nat) (a_numbers : Nat) (a_left : Nat) (a_result : Nat) (a_fillings : Nat) (a_spare : Nat) (a_rowCounts : Nat) (a_crowd_heights : Nat) (a_p1 : Nat) (a_p1_text : Nat) (a_p1_known : Nat) (a_p1_text_tape : Nat) (a_p1_text_reader : Nat) (a_p1_text_steps : Nat) (a_p1_text_worked : Nat) (a_p2 : Nat) (a_p2_who : Nat) (size : Int32) (crowd_people : Int32) (crowd_heights : Nat → Int32) (numbers : Nat → Int32) (p1_text_fed : Int32) (p1_text_length : Int32) (p1_text_steps : Nat → Int32) (p2_length : Int32) (p2_who : Nat → Int32) {v0 : Option Value} {w0 : va_W} (F : zF X G cX0_firstUnlike RX0 4 (some .int) 4 104 v0 w0) (out : ((Int32 × (Nat → Int32) × (Nat → Int32)) ⊕ (Int32 × Int32 × (Nat → Int32) × (Nat → Int32)))) (hk : ∀ (e_p1_text_top : Int32) (e_p1_text_worked : Nat → Int32) (e_p1_known : Nat → Int32), out = .inl (e_p1_text_top, e_p1_text_worked, e_p1_known) → Z X G 4 (w_Books_firstUnlike G a_this a_crowd a_shelves a_numbers a_left a_result a_fillings a_spare a_rowCounts a_crowd_heights a_p1 a_p1_text a_p1_known a_p1_text_tape a_p1_text_reader a_p1_text_steps a_p1_text_worked a_p2 a_p2_who size crowd_people crowd_heights numbers p1_text_fed p1_text_length e_p1_text_top p1_text_steps e_p1_text_worked e_p1_known p2_length p2_who) [] 43 []) (hr : ∀ q : Int32 × Int32 × (Nat → Int32) × (Nat → Int32), out = .inr q → v0 = some (.int q.1) ∧ w0 = (w_Books_firstUnlike G a_this a_crowd a_shelves a_numbers a_left a_result a_fillings a_spare a_rowCounts a_crowd_heights a_p1 a_p1_text a_p1_known a_p1_text_tape a_p1_text_reader a_p1_text_steps a_p1_text_worked a_p2 a_p2_who size crowd_people crowd_heights numbers p1_text_fed p1_text_length (q.2.1) p1_text_steps (q.2.2.1) (q.2.2.2) p2_length p2_who)) :
    ∀ (fuel : Nat) (p1_text_top : Int32) (p1_text_worked : Nat → Int32) (p1_known : Nat → Int32) (v3 : Int32), f_Books_firstUnlike_L2 size crowd_people crowd_heights numbers p1_text_length p1_text_steps p2_length p2_who fuel p1_text_top p1_text_worked p1_known v3 = some out → Z X G 4 (w_Books_firstUnlike G a_this a_crowd a_shelves a_numbers a_left a_result a_fillings a_spare a_rowCounts a_crowd_heights a_p1 a_p1_text a_p1_known a_p1_text_tape a_p1_text_reader a_p1_text_steps a_p1_text_worked a_p2 a_p2_who size crowd_people crowd_heights numbers p1_text_fed p1_text_length p1_text_top p1_text_steps p1_text_worked p1_known p2_length p2_who) [(0, .ref a_this), (1, .ref a_p1), (2, .ref a_p2), (3, .int v3)] 2 [] := by
  intro fuel
  induction fuel with
  | zero => intro p1_text_top p1_text_worked p1_known v3 hf; exact absurd ((f_Books_firstUnlike_L2.eq_1 ..).symm.trans hf) (fun h => by cases h)
  | succ fuel ih =>
    intro p1_text_top p1_text_worked p1_known v3 hf
    replace hf := (f_Books_firstUnlike_L2.eq_2 ..).symm.trans hf
    refine z_iload_n F 3 dX0_firstUnlike_2 rfl rfl ?_
    refine z_aload_n F 0 dX0_firstUnlike_3 rfl rfl ?_
    refine z_get F 0 0 3 inlX0 rfl rfl (by decide) fl_X0_63 rfl dX0_firstUnlike_4 ?_
    refine z_icmp_ge F 43 dX0_firstUnlike_7 (by decide) hf (fun hf _ => ?_) (fun hf _ => ?_)
    · exact z_sub [] rfl (hk _ _ _ (Option.some.inj hf).symm)
    · refine z_aload_n F 0 dX0_firstUnlike_10 rfl rfl ?_
      refine z_get F 0 0 2 inlX0 rfl rfl (by decide) fl_X0_19 rfl dX0_firstUnlike_11 ?_
      refine z_iload_n F 3 dX0_firstUnlike_14 rfl rfl ?_
      refine z_iald F 3 rfl hf dX0_firstUnlike_15 (fun v_1 hf => ?_)
      refine z_iconst F (-1) dX0_firstUnlike_16 rfl ?_
      refine z_icmp_eq F 37 dX0_firstUnlike_17 (by decide) hf (fun hf _ => ?_) (fun hf _ => ?_)
      · refine z_iinc F [(3, .int (v3 + 1)), (0, .ref a_this), (1, .ref a_p1), (2, .ref a_p2)] dX0_firstUnlike_37 3 rfl rfl (by decide) rfl ?_
        refine z_goto F 2 dX0_firstUnlike_40 (by decide) ?_
        exact z_sub [1, 2, 3, 0] rfl (ih p1_text_top p1_text_worked p1_known (v3 + 1) hf)
      · refine z_aload_n F 0 dX0_firstUnlike_20 rfl rfl ?_
        refine z_get F 0 0 2 inlX0 rfl rfl (by decide) fl_X0_19 rfl dX0_firstUnlike_21 ?_
        refine z_iload_n F 3 dX0_firstUnlike_24 rfl rfl ?_
        refine z_iald F 3 rfl hf dX0_firstUnlike_25 (fun v_2 hf => ?_)
        refine z_aload_n F 1 dX0_firstUnlike_26 rfl rfl ?_
        refine z_aload_n F 2 dX0_firstUnlike_27 rfl rfl ?_
        refine z_iload_n F 3 dX0_firstUnlike_28 rfl rfl ?_
        obtain ⟨r_3, p1_text_top_4, p1_text_worked_5, p1_known_6, hg, hf⟩ := zb4_some hf
        refine z_callVm (rest := [.int v_2]) F 4 (c_Judge_numberAt (xL X) G a_p1 a_crowd a_p1_text a_p1_known a_crowd_heights a_p1_text_tape a_p1_text_reader a_p1_text_steps a_p1_text_worked a_p2 a_p2_who crowd_people crowd_heights p1_text_fed p1_text_length p1_text_top p1_text_steps p1_text_worked p1_known p2_length p2_who v3 r_3 p1_text_top_4 p1_text_worked_5 p1_known_6 hg) hy_X4_numberAt ml_X0_70 hd_X4_numberAt ⟨by omega, by omega⟩ rfl [4, 1, 2, 5, 6, 7, 8, 9, 10] rfl rfl 4 rfl rfl (w_Books_firstUnlike G a_this a_crowd a_shelves a_numbers a_left a_result a_fillings a_spare a_rowCounts a_crowd_heights a_p1 a_p1_text a_p1_known a_p1_text_tape a_p1_text_reader a_p1_text_steps a_p1_text_worked a_p2 a_p2_who size crowd_people crowd_heights numbers p1_text_fed p1_text_length p1_text_top_4 p1_text_steps p1_text_worked_5 p1_known_6 p2_length p2_who) [none, some 1, some 2, none, some 0, some 3, some 4, some 5, some 6, some 7, some 8] rfl (by decide +kernel) rfl rfl (Nat.le_of_ble_eq_true rfl) dX0_firstUnlike_29 (fun hz_7 => ?_)
        refine z_icmp_eq F 37 dX0_firstUnlike_32 (by decide) hf (fun hf _ => ?_) (fun hf _ => ?_)
        · refine z_iinc F [(3, .int (v3 + 1)), (0, .ref a_this), (1, .ref a_p1), (2, .ref a_p2)] dX0_firstUnlike_37 3 rfl rfl (by decide) rfl ?_
          refine z_goto F 2 dX0_firstUnlike_40 (by decide) ?_
          exact z_sub [1, 2, 3, 0] rfl (ih p1_text_top_4 p1_text_worked_5 p1_known_6 (v3 + 1) hf)
        · refine z_iload_n F 3 dX0_firstUnlike_35 rfl rfl ?_
          obtain ⟨e1, e2⟩ := hr _ (Option.some.inj hf).symm
          exact z_iret F rfl rfl e1.symm e2.symm dX0_firstUnlike_36

set_option maxRecDepth 100000 in
set_option maxHeartbeats 4000000 in
theorem c_Books_firstUnlike (l : Launch) (G : zG) (a_this : Nat) (a_crowd : Nat) (a_shelves : Nat) (a_numbers : Nat) (a_left : Nat) (a_result : Nat) (a_fillings : Nat) (a_spare : Nat) (a_rowCounts : Nat) (a_crowd_heights : Nat) (a_p1 : Nat) (a_p1_text : Nat) (a_p1_known : Nat) (a_p1_text_tape : Nat) (a_p1_text_reader : Nat) (a_p1_text_steps : Nat) (a_p1_text_worked : Nat) (a_p2 : Nat) (a_p2_who : Nat) (size : Int32) (crowd_people : Int32) (crowd_heights : Nat → Int32) (numbers : Nat → Int32) (p1_text_fed : Int32) (p1_text_length : Int32) (p1_text_top : Int32) (p1_text_steps : Nat → Int32) (p1_text_worked : Nat → Int32) (p1_known : Nat → Int32) (p2_length : Int32) (p2_who : Nat → Int32) (r_ : Int32) (o_p1_text_top : Int32) (o_p1_text_worked : Nat → Int32) (o_p1_known : Nat → Int32) (hf : f_Books_firstUnlike size crowd_people crowd_heights numbers p1_text_length p1_text_top p1_text_steps p1_text_worked p1_known p2_length p2_who = some (r_, o_p1_text_top, o_p1_text_worked, o_p1_known)) : zM l yX0_firstUnlike cX0_firstUnlike 4 (some .int) 4 104 G [.ref a_this, .ref a_p1, .ref a_p2] (w_Books_firstUnlike G a_this a_crowd a_shelves a_numbers a_left a_result a_fillings a_spare a_rowCounts a_crowd_heights a_p1 a_p1_text a_p1_known a_p1_text_tape a_p1_text_reader a_p1_text_steps a_p1_text_worked a_p2 a_p2_who size crowd_people crowd_heights numbers p1_text_fed p1_text_length p1_text_top p1_text_steps p1_text_worked p1_known p2_length p2_who) (some (.int r_)) (w_Books_firstUnlike G a_this a_crowd a_shelves a_numbers a_left a_result a_fillings a_spare a_rowCounts a_crowd_heights a_p1 a_p1_text a_p1_known a_p1_text_tape a_p1_text_reader a_p1_text_steps a_p1_text_worked a_p2 a_p2_who size crowd_people crowd_heights numbers p1_text_fed p1_text_length o_p1_text_top p1_text_steps o_p1_text_worked o_p1_known p2_length p2_who) := by
  refine zM.of [(0, .ref a_this), (1, .ref a_p1), (2, .ref a_p2)] (own := RX0) rfl (by decide +kernel) (Nat.le_of_ble_eq_true rfl) rfl rfl fun X hX F => ?_
  subst hX
  replace hf := (f_Books_firstUnlike.eq_1 ..).symm.trans hf
  refine z_iconst F (0) dX0_firstUnlike_0 rfl ?_
  refine z_istore_n F [(3, .int 0), (0, .ref a_this), (1, .ref a_p1), (2, .ref a_p2)] dX0_firstUnlike_1 rfl (by decide) rfl ?_
  obtain ⟨z_11, hg, hf1_12, hf2_13⟩ := zbs3_some hf
  refine z_sub [1, 2, 3, 0] rfl ?_
  refine l_Books_firstUnlike_2 G a_this a_crowd a_shelves a_numbers a_left a_result a_fillings a_spare a_rowCounts a_crowd_heights a_p1 a_p1_text a_p1_known a_p1_text_tape a_p1_text_reader a_p1_text_steps a_p1_text_worked a_p2 a_p2_who size crowd_people crowd_heights numbers p1_text_fed p1_text_length p1_text_steps p2_length p2_who F z_11 (fun p1_text_top_8 p1_text_worked_9 p1_known_10 e => ?_) (fun q e => ?_) FU p1_text_top p1_text_worked p1_known 0 hg
  · have hf := hf1_12 _ _ _ e
    refine z_bipush F (-2) dX0_firstUnlike_43 rfl ?_
    have eq1 := Option.some.inj hf
    obtain ⟨ee1, eq2⟩ := Prod.mk.inj eq1
    obtain ⟨ee2, eq3⟩ := Prod.mk.inj eq2
    obtain ⟨ee3, ee4⟩ := Prod.mk.inj eq3
    subst ee1
    subst ee2
    subst ee3
    subst ee4
    exact z_iret F rfl rfl rfl rfl dX0_firstUnlike_45
  · have hf := hf2_13 _ e
    cases hf
    exact ⟨rfl, rfl⟩

abbrev w_Books_isDisquiet (G : zG) : va_W := []
def f_Books_isDisquiet (x0 : Int32) : Int32 := (if x0 < 0 then 0 else (if (36 : Int32) < x0 then 0 else 1))
set_option maxRecDepth 100000 in
set_option maxHeartbeats 4000000 in
theorem c_Books_isDisquiet (l : Launch) (G : zG) (x0 : Int32) (r_ : Int32) (hf : f_Books_isDisquiet x0 = r_) : zM l yX0_isDisquiet cX0_isDisquiet 1 (some .boolean) 0 0 G [.int x0] (w_Books_isDisquiet G) (some (.int r_)) (w_Books_isDisquiet G) := by
  refine zM.of [(0, .int x0)] (own := RX0) rfl (by decide +kernel) (Nat.le_of_ble_eq_true rfl) rfl rfl fun X hX F => ?_
  subst hX
  replace hf := (f_Books_isDisquiet.eq_1 ..).symm.trans hf
  refine z_iload_n F 0 dX0_isDisquiet_0 rfl rfl ?_
  refine z_if_lt F 14 dX0_isDisquiet_1 (by decide) hf (fun hf _ => ?_) (fun hf _ => ?_)
  · refine z_iconst F (0) dX0_isDisquiet_14 rfl ?_
    subst hf
    exact z_iret F rfl rfl rfl rfl dX0_isDisquiet_15
  · refine z_iload_n F 0 dX0_isDisquiet_4 rfl rfl ?_
    refine z_bipush F (36) dX0_isDisquiet_5 rfl ?_
    refine z_icmp_gt F 14 dX0_isDisquiet_7 (by decide) hf (fun hf _ => ?_) (fun hf _ => ?_)
    · refine z_iconst F (0) dX0_isDisquiet_14 rfl ?_
      subst hf
      exact z_iret F rfl rfl rfl rfl dX0_isDisquiet_15
    · refine z_iconst F (1) dX0_isDisquiet_10 rfl ?_
      refine z_goto F 15 dX0_isDisquiet_11 (by decide) ?_
      subst hf
      exact z_iret F rfl rfl rfl rfl dX0_isDisquiet_15

abbrev w_Books_allFillings (G : zG) (a_this : Nat) (a_crowd : Nat) (a_shelves : Nat) (a_numbers : Nat) (a_left : Nat) (a_result : Nat) (a_fillings : Nat) (a_spare : Nat) (a_rowCounts : Nat) (size : Int32) (numbers : Nat → Int32) : va_W := [(a_this, cO 0 [.ref a_crowd, .ref a_shelves, .ref a_numbers, .int size, .ref a_left, .ref a_result, .ref a_fillings, .ref a_spare, .ref a_rowCounts]), (a_numbers, cI G 9 numbers)]
def f_Books_allFillings_L4 (size : Int32) (numbers : Nat → Int32) : Nat → Int32 → Int32 → Option Int32
  | 0, _, _ => none
  | fuel + 1, v1, v2 => (if size ≤ v2 then (some v1) else (zg numbers 9 v2 fun v_1 => (if v_1 = (-1) then (f_Books_allFillings_L4 size numbers fuel (v1 * (v2 + (1 : Int32))) (v2 + 1)) else (f_Books_allFillings_L4 size numbers fuel v1 (v2 + 1)))))
def f_Books_allFillings (size : Int32) (numbers : Nat → Int32) : Option Int32 := (zb1 (f_Books_allFillings_L4 size numbers FU 1 0) fun v1_2 => (some v1_2))
set_option maxRecDepth 100000 in
set_option maxHeartbeats 4000000 in
theorem l_Books_allFillings_4 {X : zX} (G : zG) (a_this : Nat) (a_crowd : Nat) (a_shelves : Nat) (a_numbers : Nat) (a_left : Nat) (a_result : Nat) (a_fillings : Nat) (a_spare : Nat) (a_rowCounts : Nat) (size : Int32) (numbers : Nat → Int32) {v0 : Option Value} {w0 : va_W} (F : zF X G cX0_allFillings RX0 3 (some .int) 0 0 v0 w0) (e_v1 : Int32) (hk : Z X G 3 (w_Books_allFillings G a_this a_crowd a_shelves a_numbers a_left a_result a_fillings a_spare a_rowCounts size numbers) [(1, .int e_v1)] 34 []) :
    ∀ (fuel : Nat) (v1 : Int32) (v2 : Int32), f_Books_allFillings_L4 size numbers fuel v1 v2 = some e_v1 → Z X G 3 (w_Books_allFillings G a_this a_crowd a_shelves a_numbers a_left a_result a_fillings a_spare a_rowCounts size numbers) [(0, .ref a_this), (1, .int v1), (2, .int v2)] 4 [] := by
  intro fuel
  induction fuel with
  | zero => intro v1 v2 hf; exact absurd ((f_Books_allFillings_L4.eq_1 ..).symm.trans hf) (fun h => by cases h)
  | succ fuel ih =>
    intro v1 v2 hf
    replace hf := (f_Books_allFillings_L4.eq_2 ..).symm.trans hf
    refine z_iload_n F 2 dX0_allFillings_4 rfl rfl ?_
    refine z_aload_n F 0 dX0_allFillings_5 rfl rfl ?_
    refine z_get F 0 0 3 inlX0 rfl rfl (by decide) fl_X0_63 rfl dX0_allFillings_6 ?_
    refine z_icmp_ge F 34 dX0_allFillings_9 (by decide) hf (fun hf _ => ?_) (fun hf _ => ?_)
    · have ee1 := Option.some.inj hf
      subst ee1
      exact z_sub [1] rfl hk
    · refine z_aload_n F 0 dX0_allFillings_12 rfl rfl ?_
      refine z_get F 0 0 2 inlX0 rfl rfl (by decide) fl_X0_19 rfl dX0_allFillings_13 ?_
      refine z_iload_n F 2 dX0_allFillings_16 rfl rfl ?_
      refine z_iald F 1 rfl hf dX0_allFillings_17 (fun v_1 hf => ?_)
      refine z_iconst F (-1) dX0_allFillings_18 rfl ?_
      refine z_icmp_ne F 28 dX0_allFillings_19 (by decide) hf (fun hf _ => ?_) (fun hf _ => ?_)
      · refine z_iinc F [(2, .int (v2 + 1)), (0, .ref a_this), (1, .int v1)] dX0_allFillings_28 2 rfl rfl (by decide) rfl ?_
        refine z_goto F 4 dX0_allFillings_31 (by decide) ?_
        exact z_sub [1, 2, 0] rfl (ih v1 (v2 + 1) hf)
      · refine z_iload_n F 1 dX0_allFillings_22 rfl rfl ?_
        refine z_iload_n F 2 dX0_allFillings_23 rfl rfl ?_
        refine z_iconst F (1) dX0_allFillings_24 rfl ?_
        refine z_iadd F dX0_allFillings_25 ?_
        refine z_imul F dX0_allFillings_26 ?_
        refine z_istore_n F [(1, .int (v1 * (v2 + (1 : Int32)))), (0, .ref a_this), (2, .int v2)] dX0_allFillings_27 rfl (by decide) rfl ?_
        refine z_iinc F [(2, .int (v2 + 1)), (1, .int (v1 * (v2 + (1 : Int32)))), (0, .ref a_this)] dX0_allFillings_28 2 rfl rfl (by decide) rfl ?_
        refine z_goto F 4 dX0_allFillings_31 (by decide) ?_
        exact z_sub [2, 1, 0] rfl (ih (v1 * (v2 + (1 : Int32))) (v2 + 1) hf)

set_option maxRecDepth 100000 in
set_option maxHeartbeats 4000000 in
theorem c_Books_allFillings (l : Launch) (G : zG) (a_this : Nat) (a_crowd : Nat) (a_shelves : Nat) (a_numbers : Nat) (a_left : Nat) (a_result : Nat) (a_fillings : Nat) (a_spare : Nat) (a_rowCounts : Nat) (size : Int32) (numbers : Nat → Int32) (r_ : Int32) (hf : f_Books_allFillings size numbers = some r_) : zM l yX0_allFillings cX0_allFillings 3 (some .int) 0 0 G [.ref a_this] (w_Books_allFillings G a_this a_crowd a_shelves a_numbers a_left a_result a_fillings a_spare a_rowCounts size numbers) (some (.int r_)) (w_Books_allFillings G a_this a_crowd a_shelves a_numbers a_left a_result a_fillings a_spare a_rowCounts size numbers) := by
  refine zM.of [(0, .ref a_this)] (own := RX0) rfl (by decide +kernel) (Nat.le_of_ble_eq_true rfl) rfl rfl fun X hX F => ?_
  subst hX
  replace hf := (f_Books_allFillings.eq_1 ..).symm.trans hf
  refine z_iconst F (1) dX0_allFillings_0 rfl ?_
  refine z_istore_n F [(1, .int 1), (0, .ref a_this)] dX0_allFillings_1 rfl (by decide) rfl ?_
  refine z_iconst F (0) dX0_allFillings_2 rfl ?_
  refine z_istore_n F [(2, .int 0), (1, .int 1), (0, .ref a_this)] dX0_allFillings_3 rfl (by decide) rfl ?_
  obtain ⟨v1_2, hg, hf⟩ := zb1_some hf
  refine z_sub [2, 1, 0] rfl ?_
  refine l_Books_allFillings_4 G a_this a_crowd a_shelves a_numbers a_left a_result a_fillings a_spare a_rowCounts size numbers F v1_2 ?_ FU 1 0 hg
  refine z_iload_n F 0 dX0_allFillings_34 rfl rfl ?_
  have ee1 := Option.some.inj hf
  subst ee1
  exact z_iret F rfl rfl rfl rfl dX0_allFillings_35

abbrev w_Books_sumOfNumbers (G : zG) (a_this : Nat) (a_crowd : Nat) (a_shelves : Nat) (a_numbers : Nat) (a_left : Nat) (a_result : Nat) (a_fillings : Nat) (a_spare : Nat) (a_rowCounts : Nat) (size : Int32) (numbers : Nat → Int32) : va_W := [(a_this, cO 0 [.ref a_crowd, .ref a_shelves, .ref a_numbers, .int size, .ref a_left, .ref a_result, .ref a_fillings, .ref a_spare, .ref a_rowCounts]), (a_numbers, cI G 9 numbers)]
def f_Books_sumOfNumbers_L4 (size : Int32) (numbers : Nat → Int32) : Nat → Int32 → Int32 → Option Int32
  | 0, _, _ => none
  | fuel + 1, v1, v2 => (if size ≤ v2 then (some v1) else (zg numbers 9 v2 fun v_1 => (f_Books_sumOfNumbers_L4 size numbers fuel (v1 + (if v_1 < 0 then 0 else v_1)) (v2 + 1))))
def f_Books_sumOfNumbers (size : Int32) (numbers : Nat → Int32) : Option Int32 := (zb1 (f_Books_sumOfNumbers_L4 size numbers FU 0 0) fun v1_2 => (some v1_2))
set_option maxRecDepth 100000 in
set_option maxHeartbeats 4000000 in
theorem l_Books_sumOfNumbers_4 {X : zX} (G : zG) (a_this : Nat) (a_crowd : Nat) (a_shelves : Nat) (a_numbers : Nat) (a_left : Nat) (a_result : Nat) (a_fillings : Nat) (a_spare : Nat) (a_rowCounts : Nat) (size : Int32) (numbers : Nat → Int32) {v0 : Option Value} {w0 : va_W} (F : zF X G cX0_sumOfNumbers RX0 3 (some .int) 1 21 v0 w0) (e_v1 : Int32) (hk : Z X G 3 (w_Books_sumOfNumbers G a_this a_crowd a_shelves a_numbers a_left a_result a_fillings a_spare a_rowCounts size numbers) [(1, .int e_v1)] 31 []) :
    ∀ (fuel : Nat) (v1 : Int32) (v2 : Int32), f_Books_sumOfNumbers_L4 size numbers fuel v1 v2 = some e_v1 → Z X G 3 (w_Books_sumOfNumbers G a_this a_crowd a_shelves a_numbers a_left a_result a_fillings a_spare a_rowCounts size numbers) [(0, .ref a_this), (1, .int v1), (2, .int v2)] 4 [] := by
  intro fuel
  induction fuel with
  | zero => intro v1 v2 hf; exact absurd ((f_Books_sumOfNumbers_L4.eq_1 ..).symm.trans hf) (fun h => by cases h)
  | succ fuel ih =>
    intro v1 v2 hf
    replace hf := (f_Books_sumOfNumbers_L4.eq_2 ..).symm.trans hf
    refine z_iload_n F 2 dX0_sumOfNumbers_4 rfl rfl ?_
    refine z_aload_n F 0 dX0_sumOfNumbers_5 rfl rfl ?_
    refine z_get F 0 0 3 inlX0 rfl rfl (by decide) fl_X0_63 rfl dX0_sumOfNumbers_6 ?_
    refine z_icmp_ge F 31 dX0_sumOfNumbers_9 (by decide) hf (fun hf _ => ?_) (fun hf _ => ?_)
    · have ee1 := Option.some.inj hf
      subst ee1
      exact z_sub [1] rfl hk
    · refine z_iload_n F 1 dX0_sumOfNumbers_12 rfl rfl ?_
      refine z_aload_n F 0 dX0_sumOfNumbers_13 rfl rfl ?_
      refine z_get F 0 0 2 inlX0 rfl rfl (by decide) fl_X0_19 rfl dX0_sumOfNumbers_14 ?_
      refine z_iload_n F 2 dX0_sumOfNumbers_17 rfl rfl ?_
      refine z_iald F 1 rfl hf dX0_sumOfNumbers_18 (fun v_1 hf => ?_)
      refine z_iconst F (0) dX0_sumOfNumbers_19 rfl ?_
      refine z_max F ⟨(uw38 _ (List.mem_of_getElem? (i := 8) rfl)), (uw23 _ (List.mem_of_getElem? (i := 11) rfl)), (uw23 _ (List.mem_of_getElem? (i := 3) rfl)), (uw23 _ (List.mem_of_getElem? (i := 12) rfl))⟩ (by omega) (Nat.le_of_ble_eq_true rfl) dX0_sumOfNumbers_20 ?_
      refine z_iadd F dX0_sumOfNumbers_23 ?_
      refine z_istore_n F [(1, .int (v1 + (if v_1 < 0 then 0 else v_1))), (0, .ref a_this), (2, .int v2)] dX0_sumOfNumbers_24 rfl (by decide) rfl ?_
      refine z_iinc F [(2, .int (v2 + 1)), (1, .int (v1 + (if v_1 < 0 then 0 else v_1))), (0, .ref a_this)] dX0_sumOfNumbers_25 2 rfl rfl (by decide) rfl ?_
      refine z_goto F 4 dX0_sumOfNumbers_28 (by decide) ?_
      exact z_sub [2, 1, 0] rfl (ih (v1 + (if v_1 < 0 then 0 else v_1)) (v2 + 1) hf)

set_option maxRecDepth 100000 in
set_option maxHeartbeats 4000000 in
theorem c_Books_sumOfNumbers (l : Launch) (G : zG) (a_this : Nat) (a_crowd : Nat) (a_shelves : Nat) (a_numbers : Nat) (a_left : Nat) (a_result : Nat) (a_fillings : Nat) (a_spare : Nat) (a_rowCounts : Nat) (size : Int32) (numbers : Nat → Int32) (r_ : Int32) (hf : f_Books_sumOfNumbers size numbers = some r_) : zM l yX0_sumOfNumbers cX0_sumOfNumbers 3 (some .int) 1 21 G [.ref a_this] (w_Books_sumOfNumbers G a_this a_crowd a_shelves a_numbers a_left a_result a_fillings a_spare a_rowCounts size numbers) (some (.int r_)) (w_Books_sumOfNumbers G a_this a_crowd a_shelves a_numbers a_left a_result a_fillings a_spare a_rowCounts size numbers) := by
  refine zM.of [(0, .ref a_this)] (own := RX0) rfl (by decide +kernel) (Nat.le_of_ble_eq_true rfl) rfl rfl fun X hX F => ?_
  subst hX
  replace hf := (f_Books_sumOfNumbers.eq_1 ..).symm.trans hf
  refine z_iconst F (0) dX0_sumOfNumbers_0 rfl ?_
  refine z_istore_n F [(1, .int 0), (0, .ref a_this)] dX0_sumOfNumbers_1 rfl (by decide) rfl ?_
  refine z_iconst F (0) dX0_sumOfNumbers_2 rfl ?_
  refine z_istore_n F [(2, .int 0), (1, .int 0), (0, .ref a_this)] dX0_sumOfNumbers_3 rfl (by decide) rfl ?_
  obtain ⟨v1_2, hg, hf⟩ := zb1_some hf
  refine z_sub [2, 1, 0] rfl ?_
  refine l_Books_sumOfNumbers_4 G a_this a_crowd a_shelves a_numbers a_left a_result a_fillings a_spare a_rowCounts size numbers F v1_2 ?_ FU 0 0 hg
  refine z_iload_n F 0 dX0_sumOfNumbers_31 rfl rfl ?_
  have ee1 := Option.some.inj hf
  subst ee1
  exact z_iret F rfl rfl rfl rfl dX0_sumOfNumbers_32

abbrev w_Books_spread (G : zG) (a_p0 : Nat) (a_p1 : Nat) (p0 : Nat → Int32) (p1 : Nat → Int32) : va_W := [(a_p0, cI G 37 p0), (a_p1, cI G 37 p1)]
def f_Books_spread_L5 (p0 : Nat → Int32) (v2 : Int32) : Nat → (Nat → Int32) → Int32 → Int32 → Option ((Nat → Int32))
  | 0, _, _, _ => none
  | fuel + 1, p1, v3, v4 => (if (37 : Int32) ≤ v4 then (some p1) else (if (37 : Int32) ≤ v4 then (some p1) else (zg p0 37 v4 fun v_1 => (if v4 ≤ v2 then (zs p1 37 v4 (v3 + v_1) fun p1_2 => (f_Books_spread_L5 p0 v2 fuel p1_2 (v3 + v_1) (v4 + 1))) else (zg p0 37 ((v4 - v2) - (1 : Int32)) fun v_3 => (zs p1 37 v4 ((v3 + v_1) - v_3) fun p1_4 => (f_Books_spread_L5 p0 v2 fuel p1_4 ((v3 + v_1) - v_3) (v4 + 1))))))))
def f_Books_spread (p0 : Nat → Int32) (p1 : Nat → Int32) (x2 : Int32) : Option ((Nat → Int32)) := (zb1 (f_Books_spread_L5 p0 x2 FU p1 0 0) fun p1_5 => (some p1_5))
set_option maxRecDepth 100000 in
set_option maxHeartbeats 4000000 in
theorem l_Books_spread_5 {X : zX} (G : zG) (a_p0 : Nat) (a_p1 : Nat) (p0 : Nat → Int32) (v2 : Int32) {v0 : Option Value} {w0 : va_W} (F : zF X G cX0_spread RX0 5 none 0 0 v0 w0) (e_p1 : Nat → Int32) (hk : Z X G 5 (w_Books_spread G a_p0 a_p1 p0 e_p1) [] 54 []) :
    ∀ (fuel : Nat) (p1 : Nat → Int32) (v3 : Int32) (v4 : Int32), f_Books_spread_L5 p0 v2 fuel p1 v3 v4 = some e_p1 → Z X G 5 (w_Books_spread G a_p0 a_p1 p0 p1) [(0, .ref a_p0), (1, .ref a_p1), (2, .int v2), (3, .int v3), (4, .int v4)] 5 [] := by
  intro fuel
  induction fuel with
  | zero => intro p1 v3 v4 hf; exact absurd ((f_Books_spread_L5.eq_1 ..).symm.trans hf) (fun h => by cases h)
  | succ fuel ih =>
    intro p1 v3 v4 hf
    replace hf := (f_Books_spread_L5.eq_2 ..).symm.trans hf
    refine z_iload F 4 dX0_spread_5 rfl ?_
    refine z_aload_n F 1 dX0_spread_7 rfl rfl ?_
    refine z_alen F 1 0 37 rfl rfl rfl dX0_spread_8 ?_
    refine z_icmp_ge F 54 dX0_spread_9 (by decide) hf (fun hf _ => ?_) (fun hf _ => ?_)
    · have ee1 := Option.some.inj hf
      subst ee1
      exact z_sub [] rfl hk
    · refine z_iload F 4 dX0_spread_12 rfl ?_
      refine z_aload_n F 0 dX0_spread_14 rfl rfl ?_
      refine z_alen F 0 0 37 rfl rfl rfl dX0_spread_15 ?_
      refine z_icmp_ge F 54 dX0_spread_16 (by decide) hf (fun hf _ => ?_) (fun hf _ => ?_)
      · have ee1 := Option.some.inj hf
        subst ee1
        exact z_sub [] rfl hk
      · refine z_iload_n F 3 dX0_spread_19 rfl rfl ?_
        refine z_aload_n F 0 dX0_spread_20 rfl rfl ?_
        refine z_iload F 4 dX0_spread_21 rfl ?_
        refine z_iald F 0 rfl hf dX0_spread_23 (fun v_1 hf => ?_)
        refine z_iadd F dX0_spread_24 ?_
        refine z_istore_n F [(3, .int (v3 + v_1)), (0, .ref a_p0), (1, .ref a_p1), (2, .int v2), (4, .int v4)] dX0_spread_25 rfl (by decide) rfl ?_
        refine z_iload F 4 dX0_spread_26 rfl ?_
        refine z_iload_n F 3 dX0_spread_28 rfl rfl ?_
        refine z_icmp_le F 43 dX0_spread_29 (by decide) hf (fun hf _ => ?_) (fun hf _ => ?_)
        · refine z_aload_n F 2 dX0_spread_43 rfl rfl ?_
          refine z_iload F 4 dX0_spread_44 rfl ?_
          refine z_iload_n F 0 dX0_spread_46 rfl rfl ?_
          refine z_iast F 1 (fun p1_2 => (w_Books_spread G a_p0 a_p1 p0 p1_2)) rfl hf (fun _ => rfl) dX0_spread_47 (fun p1_2 hf => ?_)
          refine z_iinc F [(4, .int (v4 + 1)), (3, .int (v3 + v_1)), (0, .ref a_p0), (1, .ref a_p1), (2, .int v2)] dX0_spread_48 4 rfl rfl (by decide) rfl ?_
          refine z_goto F 5 dX0_spread_51 (by decide) ?_
          exact z_sub [2, 3, 4, 1, 0] rfl (ih p1_2 (v3 + v_1) (v4 + 1) hf)
        · refine z_iload_n F 0 dX0_spread_32 rfl rfl ?_
          refine z_aload_n F 1 dX0_spread_33 rfl rfl ?_
          refine z_iload F 4 dX0_spread_34 rfl ?_
          refine z_iload_n F 3 dX0_spread_36 rfl rfl ?_
          refine z_isub F dX0_spread_37 ?_
          refine z_iconst F (1) dX0_spread_38 rfl ?_
          refine z_isub F dX0_spread_39 ?_
          refine z_iald F 0 rfl hf dX0_spread_40 (fun v_3 hf => ?_)
          refine z_isub F dX0_spread_41 ?_
          refine z_istore_n F [(3, .int ((v3 + v_1) - v_3)), (0, .ref a_p0), (1, .ref a_p1), (2, .int v2), (4, .int v4)] dX0_spread_42 rfl (by decide) rfl ?_
          refine z_aload_n F 2 dX0_spread_43 rfl rfl ?_
          refine z_iload F 4 dX0_spread_44 rfl ?_
          refine z_iload_n F 0 dX0_spread_46 rfl rfl ?_
          refine z_iast F 1 (fun p1_4 => (w_Books_spread G a_p0 a_p1 p0 p1_4)) rfl hf (fun _ => rfl) dX0_spread_47 (fun p1_4 hf => ?_)
          refine z_iinc F [(4, .int (v4 + 1)), (3, .int ((v3 + v_1) - v_3)), (0, .ref a_p0), (1, .ref a_p1), (2, .int v2)] dX0_spread_48 4 rfl rfl (by decide) rfl ?_
          refine z_goto F 5 dX0_spread_51 (by decide) ?_
          exact z_sub [2, 3, 4, 1, 0] rfl (ih p1_4 ((v3 + v_1) - v_3) (v4 + 1) hf)

set_option maxRecDepth 100000 in
set_option maxHeartbeats 4000000 in
theorem c_Books_spread (l : Launch) (G : zG) (a_p0 : Nat) (a_p1 : Nat) (p0 : Nat → Int32) (p1 : Nat → Int32) (x2 : Int32) (o_p1 : Nat → Int32) (hf : f_Books_spread p0 p1 x2 = some o_p1) : zM l yX0_spread cX0_spread 5 none 0 0 G [.ref a_p0, .ref a_p1, .int x2] (w_Books_spread G a_p0 a_p1 p0 p1) (none) (w_Books_spread G a_p0 a_p1 p0 o_p1) := by
  refine zM.of [(0, .ref a_p0), (1, .ref a_p1), (2, .int x2)] (own := RX0) rfl (by decide +kernel) (Nat.le_of_ble_eq_true rfl) rfl rfl fun X hX F => ?_
  subst hX
  replace hf := (f_Books_spread.eq_1 ..).symm.trans hf
  refine z_iconst F (0) dX0_spread_0 rfl ?_
  refine z_istore_n F [(3, .int 0), (0, .ref a_p0), (1, .ref a_p1), (2, .int x2)] dX0_spread_1 rfl (by decide) rfl ?_
  refine z_iconst F (0) dX0_spread_2 rfl ?_
  refine z_istore F [(4, .int 0), (3, .int 0), (0, .ref a_p0), (1, .ref a_p1), (2, .int x2)] dX0_spread_3 (by decide) rfl ?_
  obtain ⟨p1_5, hg, hf⟩ := zb1_some hf
  refine z_sub [2, 3, 4, 1, 0] rfl ?_
  refine l_Books_spread_5 G a_p0 a_p1 p0 x2 F p1_5 ?_ FU p1 0 0 hg
  have ee1 := Option.some.inj hf
  subst ee1
  exact z_vret F rfl rfl rfl dX0_spread_54

abbrev w_Books_fillingsOf (G : zG) (a_this : Nat) (a_crowd : Nat) (a_shelves : Nat) (a_numbers : Nat) (a_left : Nat) (a_result : Nat) (a_fillings : Nat) (a_spare : Nat) (a_rowCounts : Nat) (size : Int32) (numbers : Nat → Int32) (fillings : Nat → Int32) (spare : Nat → Int32) : va_W := [(a_this, cO 0 [.ref a_crowd, .ref a_shelves, .ref a_numbers, .int size, .ref a_left, .ref a_result, .ref a_fillings, .ref a_spare, .ref a_rowCounts]), (a_numbers, cI G 9 numbers), (a_fillings, cI G 37 fillings), (a_spare, cI G 37 spare)]
def f_Books_fillingsOf_L39 (size : Int32) (numbers : Nat → Int32) : Nat → (Nat → Int32) → (Nat → Int32) → Int32 → Option ((Nat → Int32) × (Nat → Int32))
  | 0, _, _, _ => none
  | fuel + 1, fillings, spare, v3 => (if size ≤ v3 then (some (fillings, spare)) else (zg numbers 9 v3 fun v_6 => (if v_6 = (-1) then (zcp fillings spare 37 37 0 0 37 fun spare_7 => (zb1 (f_Books_spread spare_7 fillings v3) fun fillings_8 => (f_Books_fillingsOf_L39 size numbers fuel fillings_8 spare_7 (v3 + 1)))) else (f_Books_fillingsOf_L39 size numbers fuel fillings spare (v3 + 1)))))
def f_Books_fillingsOf (size : Int32) (numbers : Nat → Int32) (fillings : Nat → Int32) (spare : Nat → Int32) (x1 : Int32) : Option (Int32 × (Nat → Int32) × (Nat → Int32)) := (zb1 (f_Books_sumOfNumbers size numbers) fun r_1 => (if (x1 - r_1) < 0 then (some (0, fillings, spare)) else (if (x1 - r_1) < 37 then (zb1 (f_Arr_fillI 37 fillings 0) fun fillings_3 => (zs fillings_3 37 0 1 fun fillings_5 => (zb2 (f_Books_fillingsOf_L39 size numbers FU fillings_5 spare 0) fun fillings_10 spare_11 => (zg fillings_10 37 (x1 - r_1) fun v_12 => (some (v_12, fillings_10, spare_11)))))) else (some (0, fillings, spare)))))
set_option maxRecDepth 100000 in
set_option maxHeartbeats 4000000 in
theorem l_Books_fillingsOf_39 {X : zX} (G : zG) (a_this : Nat) (a_crowd : Nat) (a_shelves : Nat) (a_numbers : Nat) (a_left : Nat) (a_result : Nat) (a_fillings : Nat) (a_spare : Nat) (a_rowCounts : Nat) (size : Int32) (numbers : Nat → Int32) (v2 : Int32) {v0 : Option Value} {w0 : va_W} (F : zF X G cX0_fillingsOf RX0 4 (some .int) 2 120 v0 w0) (e_fillings : Nat → Int32) (e_spare : Nat → Int32) (hk : Z X G 4 (w_Books_fillingsOf G a_this a_crowd a_shelves a_numbers a_left a_result a_fillings a_spare a_rowCounts size numbers e_fillings e_spare) [(0, .ref a_this), (2, .int v2)] 93 []) :
    ∀ (fuel : Nat) (fillings : Nat → Int32) (spare : Nat → Int32) (v3 : Int32), f_Books_fillingsOf_L39 size numbers fuel fillings spare v3 = some (e_fillings, e_spare) → Z X G 4 (w_Books_fillingsOf G a_this a_crowd a_shelves a_numbers a_left a_result a_fillings a_spare a_rowCounts size numbers fillings spare) [(0, .ref a_this), (2, .int v2), (3, .int v3)] 39 [] := by
  intro fuel
  induction fuel with
  | zero => intro fillings spare v3 hf; exact absurd ((f_Books_fillingsOf_L39.eq_1 ..).symm.trans hf) (fun h => by cases h)
  | succ fuel ih =>
    intro fillings spare v3 hf
    replace hf := (f_Books_fillingsOf_L39.eq_2 ..).symm.trans hf
    refine z_iload_n F 2 dX0_fillingsOf_39 rfl rfl ?_
    refine z_aload_n F 0 dX0_fillingsOf_40 rfl rfl ?_
    refine z_get F 0 0 3 inlX0 rfl rfl (by decide) fl_X0_63 rfl dX0_fillingsOf_41 ?_
    refine z_icmp_ge F 93 dX0_fillingsOf_44 (by decide) hf (fun hf _ => ?_) (fun hf _ => ?_)
    · have eq1 := Option.some.inj hf
      obtain ⟨ee1, ee2⟩ := Prod.mk.inj eq1
      subst ee1
      subst ee2
      exact z_sub [0, 1] rfl hk
    · refine z_aload_n F 0 dX0_fillingsOf_47 rfl rfl ?_
      refine z_get F 0 0 2 inlX0 rfl rfl (by decide) fl_X0_19 rfl dX0_fillingsOf_48 ?_
      refine z_iload_n F 2 dX0_fillingsOf_51 rfl rfl ?_
      refine z_iald F 1 rfl hf dX0_fillingsOf_52 (fun v_6 hf => ?_)
      refine z_iconst F (-1) dX0_fillingsOf_53 rfl ?_
      refine z_icmp_ne F 87 dX0_fillingsOf_54 (by decide) hf (fun hf _ => ?_) (fun hf _ => ?_)
      · refine z_iinc F [(3, .int (v3 + 1)), (0, .ref a_this), (2, .int v2)] dX0_fillingsOf_87 2 rfl rfl (by decide) rfl ?_
        refine z_goto F 39 dX0_fillingsOf_90 (by decide) ?_
        exact z_sub [1, 2, 0] rfl (ih fillings spare (v3 + 1) hf)
      · refine z_aload_n F 0 dX0_fillingsOf_57 rfl rfl ?_
        refine z_get F 0 0 6 inlX0 rfl rfl (by decide) fl_X0_33 rfl dX0_fillingsOf_58 ?_
        refine z_iconst F (0) dX0_fillingsOf_61 rfl ?_
        refine z_aload_n F 0 dX0_fillingsOf_62 rfl rfl ?_
        refine z_get F 0 0 7 inlX0 rfl rfl (by decide) fl_X0_36 rfl dX0_fillingsOf_63 ?_
        refine z_iconst F (0) dX0_fillingsOf_66 rfl ?_
        refine z_aload_n F 0 dX0_fillingsOf_67 rfl rfl ?_
        refine z_get F 0 0 6 inlX0 rfl rfl (by decide) fl_X0_33 rfl dX0_fillingsOf_68 ?_
        refine z_alen F 2 0 37 rfl rfl rfl dX0_fillingsOf_71 ?_
        refine z_cpi F 2 3 (fun spare_7 => (w_Books_fillingsOf G a_this a_crowd a_shelves a_numbers a_left a_result a_fillings a_spare a_rowCounts size numbers fillings spare_7)) ⟨(uw38 _ (List.mem_of_getElem? (i := 3) rfl)), (uw13 _ (List.mem_of_getElem? (i := 14) rfl)), (uw13 _ (List.mem_of_getElem? (i := 15) rfl)), (uw13 _ (List.mem_of_getElem? (i := 16) rfl))⟩ rfl rfl hf (fun _ => rfl) (by omega) (Nat.le_of_ble_eq_true rfl) dX0_fillingsOf_72 (fun spare_7 hf => ?_)
        refine z_aload_n F 0 dX0_fillingsOf_75 rfl rfl ?_
        refine z_get F 0 0 7 inlX0 rfl rfl (by decide) fl_X0_36 rfl dX0_fillingsOf_76 ?_
        refine z_aload_n F 0 dX0_fillingsOf_79 rfl rfl ?_
        refine z_get F 0 0 6 inlX0 rfl rfl (by decide) fl_X0_33 rfl dX0_fillingsOf_80 ?_
        refine z_iload_n F 2 dX0_fillingsOf_83 rfl rfl ?_
        obtain ⟨fillings_8, hg, hf⟩ := zb1_some hf
        refine z_callSm (rest := []) F (c_Books_spread (xL X) G a_spare a_fillings spare_7 fillings v3 fillings_8 hg) hy_X0_spread ml_X0_125 hd_X0_spread ⟨by omega, by omega⟩ rfl [3, 2] rfl rfl (w_Books_fillingsOf G a_this a_crowd a_shelves a_numbers a_left a_result a_fillings a_spare a_rowCounts size numbers fillings_8 spare_7) [none, none, some 1, some 0] rfl (by decide +kernel) rfl rfl (Nat.le_of_ble_eq_true rfl) dX0_fillingsOf_84 (fun hz_9 => ?_)
        refine z_iinc F [(3, .int (v3 + 1)), (0, .ref a_this), (2, .int v2)] dX0_fillingsOf_87 2 rfl rfl (by decide) rfl ?_
        refine z_goto F 39 dX0_fillingsOf_90 (by decide) ?_
        exact z_sub [1, 2, 0] rfl (ih fillings_8 spare_7 (v3 + 1) hf)

set_option maxRecDepth 100000 in
set_option maxHeartbeats 4000000 in
theorem c_Books_fillingsOf (l : Launch) (G : zG) (a_this : Nat) (a_crowd : Nat) (a_shelves : Nat) (a_numbers : Nat) (a_left : Nat) (a_result : Nat) (a_fillings : Nat) (a_spare : Nat) (a_rowCounts : Nat) (size : Int32) (numbers : Nat → Int32) (fillings : Nat → Int32) (spare : Nat → Int32) (x1 : Int32) (r_ : Int32) (o_fillings : Nat → Int32) (o_spare : Nat → Int32) (hf : f_Books_fillingsOf size numbers fillings spare x1 = some (r_, o_fillings, o_spare)) : zM l yX0_fillingsOf cX0_fillingsOf 4 (some .int) 2 120 G [.ref a_this, .int x1] (w_Books_fillingsOf G a_this a_crowd a_shelves a_numbers a_left a_result a_fillings a_spare a_rowCounts size numbers fillings spare) (some (.int r_)) (w_Books_fillingsOf G a_this a_crowd a_shelves a_numbers a_left a_result a_fillings a_spare a_rowCounts size numbers o_fillings o_spare) := by
  refine zM.of [(0, .ref a_this), (1, .int x1)] (own := RX0) rfl (by decide +kernel) (Nat.le_of_ble_eq_true rfl) rfl rfl fun X hX F => ?_
  subst hX
  replace hf := (f_Books_fillingsOf.eq_1 ..).symm.trans hf
  refine z_iload_n F 1 dX0_fillingsOf_0 rfl rfl ?_
  refine z_aload_n F 0 dX0_fillingsOf_1 rfl rfl ?_
  obtain ⟨r_1, hg, hf⟩ := zb1_some hf
  refine z_callVm (rest := [.int x1]) F 0 (c_Books_sumOfNumbers (xL X) G a_this a_crowd a_shelves a_numbers a_left a_result a_fillings a_spare a_rowCounts size numbers r_1 hg) hy_X0_sumOfNumbers ml_X0_110 hd_X0_sumOfNumbers ⟨by omega, by omega⟩ rfl [0, 1] rfl rfl 0 rfl rfl (w_Books_fillingsOf G a_this a_crowd a_shelves a_numbers a_left a_result a_fillings a_spare a_rowCounts size numbers fillings spare) [some 0, some 1, none, none] rfl (by decide +kernel) rfl rfl (Nat.le_of_ble_eq_true rfl) dX0_fillingsOf_2 (fun hz_2 => ?_)
  refine z_isub F dX0_fillingsOf_5 ?_
  refine z_istore_n F [(2, .int (x1 - r_1)), (0, .ref a_this), (1, .int x1)] dX0_fillingsOf_6 rfl (by decide) rfl ?_
  refine z_iload_n F 0 dX0_fillingsOf_7 rfl rfl ?_
  refine z_if_lt F 20 dX0_fillingsOf_8 (by decide) hf (fun hf _ => ?_) (fun hf _ => ?_)
  · refine z_iconst F (0) dX0_fillingsOf_20 rfl ?_
    have eq1 := Option.some.inj hf
    obtain ⟨ee1, eq2⟩ := Prod.mk.inj eq1
    obtain ⟨ee2, ee3⟩ := Prod.mk.inj eq2
    subst ee1
    subst ee2
    subst ee3
    exact z_iret F rfl rfl rfl rfl dX0_fillingsOf_21
  · refine z_iload_n F 0 dX0_fillingsOf_11 rfl rfl ?_
    refine z_aload_n F 1 dX0_fillingsOf_12 rfl rfl ?_
    refine z_get F 0 0 6 inlX0 rfl rfl (by decide) fl_X0_33 rfl dX0_fillingsOf_13 ?_
    refine z_alen F 2 0 37 rfl rfl rfl dX0_fillingsOf_16 ?_
    refine z_icmp_lt F 22 dX0_fillingsOf_17 (by decide) hf (fun hf _ => ?_) (fun hf _ => ?_)
    · refine z_aload_n F 1 dX0_fillingsOf_22 rfl rfl ?_
      refine z_get F 0 0 6 inlX0 rfl rfl (by decide) fl_X0_33 rfl dX0_fillingsOf_23 ?_
      refine z_iconst F (0) dX0_fillingsOf_26 rfl ?_
      obtain ⟨fillings_3, hg, hf⟩ := zb1_some hf
      refine z_callSm (rest := []) F (c_Arr_fillI (xL X) G 37 a_fillings fillings 0 fillings_3 hg) hy_J7_fill_53178 ml_X0_113 hd_J7_fill_53178 ⟨by omega, by omega⟩ rfl [2] rfl rfl (w_Books_fillingsOf G a_this a_crowd a_shelves a_numbers a_left a_result a_fillings a_spare a_rowCounts size numbers fillings_3 spare) [none, none, some 0, none] rfl (by decide +kernel) rfl rfl (Nat.le_of_ble_eq_true rfl) dX0_fillingsOf_27 (fun hz_4 => ?_)
      refine z_aload_n F 1 dX0_fillingsOf_30 rfl rfl ?_
      refine z_get F 0 0 6 inlX0 rfl rfl (by decide) fl_X0_33 rfl dX0_fillingsOf_31 ?_
      refine z_iconst F (0) dX0_fillingsOf_34 rfl ?_
      refine z_iconst F (1) dX0_fillingsOf_35 rfl ?_
      refine z_iast F 2 (fun fillings_5 => (w_Books_fillingsOf G a_this a_crowd a_shelves a_numbers a_left a_result a_fillings a_spare a_rowCounts size numbers fillings_5 spare)) rfl hf (fun _ => rfl) dX0_fillingsOf_36 (fun fillings_5 hf => ?_)
      refine z_iconst F (0) dX0_fillingsOf_37 rfl ?_
      refine z_istore_n F [(3, .int 0), (2, .int (x1 - r_1)), (0, .ref a_this), (1, .int x1)] dX0_fillingsOf_38 rfl (by decide) rfl ?_
      obtain ⟨fillings_10, spare_11, hg, hf⟩ := zb2_some hf
      refine z_sub [2, 1, 0] rfl ?_
      refine l_Books_fillingsOf_39 G a_this a_crowd a_shelves a_numbers a_left a_result a_fillings a_spare a_rowCounts size numbers (x1 - r_1) F fillings_10 spare_11 ?_ FU fillings_5 spare 0 hg
      refine z_aload_n F 0 dX0_fillingsOf_93 rfl rfl ?_
      refine z_get F 0 0 6 inlX0 rfl rfl (by decide) fl_X0_33 rfl dX0_fillingsOf_94 ?_
      refine z_iload_n F 1 dX0_fillingsOf_97 rfl rfl ?_
      refine z_iald F 2 rfl hf dX0_fillingsOf_98 (fun v_12 hf => ?_)
      have eq1 := Option.some.inj hf
      obtain ⟨ee1, eq2⟩ := Prod.mk.inj eq1
      obtain ⟨ee2, ee3⟩ := Prod.mk.inj eq2
      subst ee1
      subst ee2
      subst ee3
      exact z_iret F rfl rfl rfl rfl dX0_fillingsOf_99
    · refine z_iconst F (0) dX0_fillingsOf_20 rfl ?_
      have eq1 := Option.some.inj hf
      obtain ⟨ee1, eq2⟩ := Prod.mk.inj eq1
      obtain ⟨ee2, ee3⟩ := Prod.mk.inj eq2
      subst ee1
      subst ee2
      subst ee3
      exact z_iret F rfl rfl rfl rfl dX0_fillingsOf_21

abbrev w_Books_firstSmeared (G : zG) (a_this : Nat) (a_crowd : Nat) (a_shelves : Nat) (a_numbers : Nat) (a_left : Nat) (a_result : Nat) (a_fillings : Nat) (a_spare : Nat) (a_rowCounts : Nat) (size : Int32) (numbers : Nat → Int32) : va_W := [(a_this, cO 0 [.ref a_crowd, .ref a_shelves, .ref a_numbers, .int size, .ref a_left, .ref a_result, .ref a_fillings, .ref a_spare, .ref a_rowCounts]), (a_numbers, cI G 9 numbers)]
def f_Books_firstSmeared_L2 (size : Int32) (numbers : Nat → Int32) : Nat → Int32 → Option (((Unit) ⊕ (Int32)))
  | 0, _ => none
  | fuel + 1, v1 => (if size ≤ v1 then (some (.inl ())) else (zg numbers 9 v1 fun v_1 => (if v_1 = (-1) then (some (.inr v1)) else (f_Books_firstSmeared_L2 size numbers fuel (v1 + 1)))))
def f_Books_firstSmeared (size : Int32) (numbers : Nat → Int32) : Option Int32 := (zbs0 (f_Books_firstSmeared_L2 size numbers FU 0) ((some (-2))) some)
set_option maxRecDepth 100000 in
set_option maxHeartbeats 4000000 in
theorem l_Books_firstSmeared_2 {X : zX} (G : zG) (a_this : Nat) (a_crowd : Nat) (a_shelves : Nat) (a_numbers : Nat) (a_left : Nat) (a_result : Nat) (a_fillings : Nat) (a_spare : Nat) (a_rowCounts : Nat) (size : Int32) (numbers : Nat → Int32) {v0 : Option Value} {w0 : va_W} (F : zF X G cX0_firstSmeared RX0 2 (some .int) 0 0 v0 w0) (out : ((Unit) ⊕ (Int32))) (hk : out = .inl () → Z X G 2 (w_Books_firstSmeared G a_this a_crowd a_shelves a_numbers a_left a_result a_fillings a_spare a_rowCounts size numbers) [] 28 []) (hr : ∀ q : Int32, out = .inr q → v0 = some (.int q) ∧ w0 = (w_Books_firstSmeared G a_this a_crowd a_shelves a_numbers a_left a_result a_fillings a_spare a_rowCounts size numbers)) :
    ∀ (fuel : Nat) (v1 : Int32), f_Books_firstSmeared_L2 size numbers fuel v1 = some out → Z X G 2 (w_Books_firstSmeared G a_this a_crowd a_shelves a_numbers a_left a_result a_fillings a_spare a_rowCounts size numbers) [(0, .ref a_this), (1, .int v1)] 2 [] := by
  intro fuel
  induction fuel with
  | zero => intro v1 hf; exact absurd ((f_Books_firstSmeared_L2.eq_1 ..).symm.trans hf) (fun h => by cases h)
  | succ fuel ih =>
    intro v1 hf
    replace hf := (f_Books_firstSmeared_L2.eq_2 ..).symm.trans hf
    refine z_iload_n F 1 dX0_firstSmeared_2 rfl rfl ?_
    refine z_aload_n F 0 dX0_firstSmeared_3 rfl rfl ?_
    refine z_get F 0 0 3 inlX0 rfl rfl (by decide) fl_X0_63 rfl dX0_firstSmeared_4 ?_
    refine z_icmp_ge F 28 dX0_firstSmeared_7 (by decide) hf (fun hf _ => ?_) (fun hf _ => ?_)
    · exact z_sub [] rfl (hk  (Option.some.inj hf).symm)
    · refine z_aload_n F 0 dX0_firstSmeared_10 rfl rfl ?_
      refine z_get F 0 0 2 inlX0 rfl rfl (by decide) fl_X0_19 rfl dX0_firstSmeared_11 ?_
      refine z_iload_n F 1 dX0_firstSmeared_14 rfl rfl ?_
      refine z_iald F 1 rfl hf dX0_firstSmeared_15 (fun v_1 hf => ?_)
      refine z_iconst F (-1) dX0_firstSmeared_16 rfl ?_
      refine z_icmp_ne F 22 dX0_firstSmeared_17 (by decide) hf (fun hf _ => ?_) (fun hf _ => ?_)
      · refine z_iinc F [(1, .int (v1 + 1)), (0, .ref a_this)] dX0_firstSmeared_22 1 rfl rfl (by decide) rfl ?_
        refine z_goto F 2 dX0_firstSmeared_25 (by decide) ?_
        exact z_sub [1, 0] rfl (ih (v1 + 1) hf)
      · refine z_iload_n F 1 dX0_firstSmeared_20 rfl rfl ?_
        obtain ⟨e1, e2⟩ := hr _ (Option.some.inj hf).symm
        exact z_iret F rfl rfl e1.symm e2.symm dX0_firstSmeared_21

set_option maxRecDepth 100000 in
set_option maxHeartbeats 4000000 in
theorem c_Books_firstSmeared (l : Launch) (G : zG) (a_this : Nat) (a_crowd : Nat) (a_shelves : Nat) (a_numbers : Nat) (a_left : Nat) (a_result : Nat) (a_fillings : Nat) (a_spare : Nat) (a_rowCounts : Nat) (size : Int32) (numbers : Nat → Int32) (r_ : Int32) (hf : f_Books_firstSmeared size numbers = some r_) : zM l yX0_firstSmeared cX0_firstSmeared 2 (some .int) 0 0 G [.ref a_this] (w_Books_firstSmeared G a_this a_crowd a_shelves a_numbers a_left a_result a_fillings a_spare a_rowCounts size numbers) (some (.int r_)) (w_Books_firstSmeared G a_this a_crowd a_shelves a_numbers a_left a_result a_fillings a_spare a_rowCounts size numbers) := by
  refine zM.of [(0, .ref a_this)] (own := RX0) rfl (by decide +kernel) (Nat.le_of_ble_eq_true rfl) rfl rfl fun X hX F => ?_
  subst hX
  replace hf := (f_Books_firstSmeared.eq_1 ..).symm.trans hf
  refine z_iconst F (0) dX0_firstSmeared_0 rfl ?_
  refine z_istore_n F [(1, .int 0), (0, .ref a_this)] dX0_firstSmeared_1 rfl (by decide) rfl ?_
  obtain ⟨z_2, hg, hf1_3, hf2_4⟩ := zbs0_some hf
  refine z_sub [1, 0] rfl ?_
  refine l_Books_firstSmeared_2 G a_this a_crowd a_shelves a_numbers a_left a_result a_fillings a_spare a_rowCounts size numbers F z_2 (fun e => ?_) (fun q e => ?_) FU 0 hg
  · have hf := hf1_3 e
    refine z_bipush F (-2) dX0_firstSmeared_28 rfl ?_
    have ee1 := Option.some.inj hf
    subst ee1
    exact z_iret F rfl rfl rfl rfl dX0_firstSmeared_30
  · have hf := hf2_4 _ e
    cases hf
    exact ⟨rfl, rfl⟩

abbrev w_Books_fill (G : zG) (a_this : Nat) (a_crowd : Nat) (a_shelves : Nat) (a_numbers : Nat) (a_left : Nat) (a_result : Nat) (a_fillings : Nat) (a_spare : Nat) (a_rowCounts : Nat) (size : Int32) (numbers : Nat → Int32) : va_W := [(a_this, cO 0 [.ref a_crowd, .ref a_shelves, .ref a_numbers, .int size, .ref a_left, .ref a_result, .ref a_fillings, .ref a_spare, .ref a_rowCounts]), (a_numbers, cI G 9 numbers)]
def f_Books_fill (size : Int32) (numbers : Nat → Int32) (x1 : Int32) (x2 : Int32) : Option ((Nat → Int32)) := (if x1 < 0 then (some numbers) else (if size ≤ x1 then (some numbers) else (zs numbers 9 x1 x2 fun numbers_1 => (some numbers_1))))
set_option maxRecDepth 100000 in
set_option maxHeartbeats 4000000 in
theorem c_Books_fill (l : Launch) (G : zG) (a_this : Nat) (a_crowd : Nat) (a_shelves : Nat) (a_numbers : Nat) (a_left : Nat) (a_result : Nat) (a_fillings : Nat) (a_spare : Nat) (a_rowCounts : Nat) (size : Int32) (numbers : Nat → Int32) (x1 : Int32) (x2 : Int32) (o_numbers : Nat → Int32) (hf : f_Books_fill size numbers x1 x2 = some o_numbers) : zM l yX0_fill cX0_fill 3 none 0 0 G [.ref a_this, .int x1, .int x2] (w_Books_fill G a_this a_crowd a_shelves a_numbers a_left a_result a_fillings a_spare a_rowCounts size numbers) (none) (w_Books_fill G a_this a_crowd a_shelves a_numbers a_left a_result a_fillings a_spare a_rowCounts size o_numbers) := by
  refine zM.of [(0, .ref a_this), (1, .int x1), (2, .int x2)] (own := RX0) rfl (by decide +kernel) (Nat.le_of_ble_eq_true rfl) rfl rfl fun X hX F => ?_
  subst hX
  replace hf := (f_Books_fill.eq_1 ..).symm.trans hf
  refine z_iload_n F 1 dX0_fill_0 rfl rfl ?_
  refine z_if_lt F 19 dX0_fill_1 (by decide) hf (fun hf _ => ?_) (fun hf _ => ?_)
  · have ee1 := Option.some.inj hf
    subst ee1
    exact z_vret F rfl rfl rfl dX0_fill_19
  · refine z_iload_n F 1 dX0_fill_4 rfl rfl ?_
    refine z_aload_n F 0 dX0_fill_5 rfl rfl ?_
    refine z_get F 0 0 3 inlX0 rfl rfl (by decide) fl_X0_63 rfl dX0_fill_6 ?_
    refine z_icmp_ge F 19 dX0_fill_9 (by decide) hf (fun hf _ => ?_) (fun hf _ => ?_)
    · have ee1 := Option.some.inj hf
      subst ee1
      exact z_vret F rfl rfl rfl dX0_fill_19
    · refine z_aload_n F 0 dX0_fill_12 rfl rfl ?_
      refine z_get F 0 0 2 inlX0 rfl rfl (by decide) fl_X0_19 rfl dX0_fill_13 ?_
      refine z_iload_n F 1 dX0_fill_16 rfl rfl ?_
      refine z_iload_n F 2 dX0_fill_17 rfl rfl ?_
      refine z_iast F 1 (fun numbers_1 => (w_Books_fill G a_this a_crowd a_shelves a_numbers a_left a_result a_fillings a_spare a_rowCounts size numbers_1)) rfl hf (fun _ => rfl) dX0_fill_18 (fun numbers_1 hf => ?_)
      have ee1 := Option.some.inj hf
      subst ee1
      exact z_vret F rfl rfl rfl dX0_fill_19

abbrev w_Books_rowsOf (G : zG) (a_this : Nat) (a_crowd : Nat) (a_shelves : Nat) (a_numbers : Nat) (a_left : Nat) (a_result : Nat) (a_fillings : Nat) (a_spare : Nat) (a_rowCounts : Nat) (a_rowCounts_e : Nat → Nat) (size : Int32) (rowCounts_e : Nat → (Nat → Int32)) : va_W := [(a_this, cO 0 [.ref a_crowd, .ref a_shelves, .ref a_numbers, .int size, .ref a_left, .ref a_result, .ref a_fillings, .ref a_spare, .ref a_rowCounts]), (a_rowCounts, cII G 10 (fun j => some (a_rowCounts_e j))), ((a_rowCounts_e 0), cI G 37 (rowCounts_e 0)), ((a_rowCounts_e 1), cI G 37 (rowCounts_e 1)), ((a_rowCounts_e 2), cI G 37 (rowCounts_e 2)), ((a_rowCounts_e 3), cI G 37 (rowCounts_e 3)), ((a_rowCounts_e 4), cI G 37 (rowCounts_e 4)), ((a_rowCounts_e 5), cI G 37 (rowCounts_e 5)), ((a_rowCounts_e 6), cI G 37 (rowCounts_e 6)), ((a_rowCounts_e 7), cI G 37 (rowCounts_e 7)), ((a_rowCounts_e 8), cI G 37 (rowCounts_e 8)), ((a_rowCounts_e 9), cI G 37 (rowCounts_e 9))]
def f_Books_rowsOf (rowCounts_e : Nat → (Nat → Int32)) (x1 : Int32) (x2 : Int32) : Option Int32 := (if x1 < 0 then (some 0) else (if (9 : Int32) < x1 then (some 0) else (if (f_Books_isDisquiet x2) = 0 then (some 0) else (zg (fun j => j) 10 x1 fun j_2 => (zg (rowCounts_e j_2) 37 x2 fun v_3 => (some v_3))))))
set_option maxRecDepth 100000 in
set_option maxHeartbeats 4000000 in
theorem c_Books_rowsOf (l : Launch) (G : zG) (a_this : Nat) (a_crowd : Nat) (a_shelves : Nat) (a_numbers : Nat) (a_left : Nat) (a_result : Nat) (a_fillings : Nat) (a_spare : Nat) (a_rowCounts : Nat) (a_rowCounts_e : Nat → Nat) (size : Int32) (rowCounts_e : Nat → (Nat → Int32)) (x1 : Int32) (x2 : Int32) (r_ : Int32) (hf : f_Books_rowsOf rowCounts_e x1 x2 = some r_) : zM l yX0_rowsOf cX0_rowsOf 3 (some .int) 1 20 G [.ref a_this, .int x1, .int x2] (w_Books_rowsOf G a_this a_crowd a_shelves a_numbers a_left a_result a_fillings a_spare a_rowCounts a_rowCounts_e size rowCounts_e) (some (.int r_)) (w_Books_rowsOf G a_this a_crowd a_shelves a_numbers a_left a_result a_fillings a_spare a_rowCounts a_rowCounts_e size rowCounts_e) := by
  refine zM.of [(0, .ref a_this), (1, .int x1), (2, .int x2)] (own := RX0) rfl (by decide +kernel) (Nat.le_of_ble_eq_true rfl) rfl rfl fun X hX F => ?_
  subst hX
  replace hf := (f_Books_rowsOf.eq_1 ..).symm.trans hf
  refine z_iload_n F 1 dX0_rowsOf_0 rfl rfl ?_
  refine z_if_lt F 28 dX0_rowsOf_1 (by decide) hf (fun hf _ => ?_) (fun hf _ => ?_)
  · refine z_iconst F (0) dX0_rowsOf_28 rfl ?_
    have ee1 := Option.some.inj hf
    subst ee1
    exact z_iret F rfl rfl rfl rfl dX0_rowsOf_29
  · refine z_iload_n F 1 dX0_rowsOf_4 rfl rfl ?_
    refine z_bipush F (9) dX0_rowsOf_5 rfl ?_
    refine z_icmp_gt F 28 dX0_rowsOf_7 (by decide) hf (fun hf _ => ?_) (fun hf _ => ?_)
    · refine z_iconst F (0) dX0_rowsOf_28 rfl ?_
      have ee1 := Option.some.inj hf
      subst ee1
      exact z_iret F rfl rfl rfl rfl dX0_rowsOf_29
    · refine z_iload_n F 2 dX0_rowsOf_10 rfl rfl ?_
      refine z_callSm (rest := []) F (c_Books_isDisquiet (xL X) G x2 _ rfl) hy_X0_isDisquiet ml_X0_129 hd_X0_isDisquiet ⟨by omega, by omega⟩ rfl [] rfl rfl (w_Books_rowsOf G a_this a_crowd a_shelves a_numbers a_left a_result a_fillings a_spare a_rowCounts a_rowCounts_e size rowCounts_e) [none, none, none, none, none, none, none, none, none, none, none, none] rfl (by decide +kernel) rfl rfl (Nat.le_of_ble_eq_true rfl) dX0_rowsOf_11 (fun hz_1 => ?_)
      refine z_if_eq F 28 dX0_rowsOf_14 (by decide) hf (fun hf _ => ?_) (fun hf _ => ?_)
      · refine z_iconst F (0) dX0_rowsOf_28 rfl ?_
        have ee1 := Option.some.inj hf
        subst ee1
        exact z_iret F rfl rfl rfl rfl dX0_rowsOf_29
      · refine z_aload_n F 0 dX0_rowsOf_17 rfl rfl ?_
        refine z_get F 0 0 8 inlX0 rfl rfl (by decide) fl_X0_41 rfl dX0_rowsOf_18 ?_
        refine z_iload_n F 1 dX0_rowsOf_21 rfl rfl ?_
        refine z_aald F 1 5 rfl rfl rfl hf dX0_rowsOf_22 (fun j_2 hj_2 hf => ?_)
        refine z_iload_n F 2 dX0_rowsOf_23 rfl rfl ?_
        refine z_iald F (2 + 1 * j_2) (by match j_2, hj_2 with | 0, _ => exact rfl | 1, _ => exact rfl | 2, _ => exact rfl | 3, _ => exact rfl | 4, _ => exact rfl | 5, _ => exact rfl | 6, _ => exact rfl | 7, _ => exact rfl | 8, _ => exact rfl | 9, _ => exact rfl) hf dX0_rowsOf_24 (fun v_3 hf => ?_)
        refine z_goto F 29 dX0_rowsOf_25 (by decide) ?_
        have ee1 := Option.some.inj hf
        subst ee1
        exact z_iret F rfl rfl rfl rfl dX0_rowsOf_29

abbrev w_Books_inRow (G : zG) (a_this : Nat) (a_crowd : Nat) (a_shelves : Nat) (a_numbers : Nat) (a_left : Nat) (a_result : Nat) (a_fillings : Nat) (a_spare : Nat) (a_rowCounts : Nat) (a_crowd_heights : Nat) (a_left_who : Nat) (a_rowCounts_e : Nat → Nat) (a_p1 : Nat) (a_p1_who : Nat) (size : Int32) (crowd_people : Int32) (crowd_heights : Nat → Int32) (left_length : Int32) (left_who : Nat → Int32) (rowCounts_e : Nat → (Nat → Int32)) (p1_length : Int32) (p1_who : Nat → Int32) : va_W := [(a_this, cO 0 [.ref a_crowd, .ref a_shelves, .ref a_numbers, .int size, .ref a_left, .ref a_result, .ref a_fillings, .ref a_spare, .ref a_rowCounts]), (a_crowd, cO 1 [.ref a_crowd_heights, .int crowd_people]), (a_crowd_heights, cI G 9 crowd_heights), (a_left, cO 7 [.ref a_left_who, .int left_length]), (a_left_who, cI G 9 left_who), (a_rowCounts, cII G 10 (fun j => some (a_rowCounts_e j))), ((a_rowCounts_e 0), cI G 37 (rowCounts_e 0)), ((a_rowCounts_e 1), cI G 37 (rowCounts_e 1)), ((a_rowCounts_e 2), cI G 37 (rowCounts_e 2)), ((a_rowCounts_e 3), cI G 37 (rowCounts_e 3)), ((a_rowCounts_e 4), cI G 37 (rowCounts_e 4)), ((a_rowCounts_e 5), cI G 37 (rowCounts_e 5)), ((a_rowCounts_e 6), cI G 37 (rowCounts_e 6)), ((a_rowCounts_e 7), cI G 37 (rowCounts_e 7)), ((a_rowCounts_e 8), cI G 37 (rowCounts_e 8)), ((a_rowCounts_e 9), cI G 37 (rowCounts_e 9)), (a_p1, cO 7 [.ref a_p1_who, .int p1_length]), (a_p1_who, cI G 9 p1_who)]
def f_Books_inRow_L52 (rowCounts_e : Nat → (Nat → Int32)) (v5 : Int32) (v9 : Int32) : Nat → Int32 → Int32 → Option (Int32 × Int32)
  | 0, _, _ => none
  | fuel + 1, v6, v10 => (if v9 ≤ v10 then (some (v6, v10)) else (zb1 (f_Books_rowsOf rowCounts_e v9 (v5 - v10)) fun r_6 => (if v6 < r_6 then (some (v6, v10)) else (zb1 (f_Books_rowsOf rowCounts_e v9 (v5 - v10)) fun r_8 => (f_Books_inRow_L52 rowCounts_e v5 v9 fuel (v6 - r_8) (v10 + 1))))))
def f_Books_inRow_L21 (crowd_people : Int32) (crowd_heights : Nat → Int32) (rowCounts_e : Nat → (Nat → Int32)) (v4 : Int32) : Nat → Int32 → (Nat → Int32) → Int32 → Int32 → Int32 → Int32 → Option (Int32 × (Nat → Int32) × Int32)
  | 0, _, _, _, _, _, _ => none
  | fuel + 1, left_length, left_who, v5, v6, v7, v8 => (if v4 < v8 then (some (left_length, left_who, v7)) else (if (f_Line_size left_length) ≤ 0 then (some (left_length, left_who, v7)) else (zb2 (f_Books_inRow_L52 rowCounts_e v5 ((f_Line_size left_length) - (1 : Int32)) FU v6 0) fun v6_10 v10_11 => (zb1 (f_Books_placeInLeft crowd_people crowd_heights left_length left_who (((f_Line_size left_length) - (1 : Int32)) - v10_11)) fun r_12 => (zb3 (f_Line_removeAt left_length left_who r_12) fun r_14 left_length_15 left_who_16 => (f_Books_inRow_L21 crowd_people crowd_heights rowCounts_e v4 fuel left_length_15 left_who_16 (v5 - v10_11) v6_10 r_14 (v8 + 1)))))))
def f_Books_inRow (crowd_people : Int32) (crowd_heights : Nat → Int32) (left_length : Int32) (left_who : Nat → Int32) (rowCounts_e : Nat → (Nat → Int32)) (p1_length : Int32) (p1_who : Nat → Int32) (x2 : Int32) (x3 : Int32) (x4 : Int32) : Option (Int32 × Int32 × (Nat → Int32)) := (zb2 (f_Line_copyFrom left_length left_who p1_length p1_who) fun left_length_1 left_who_2 => (zb3 (f_Books_inRow_L21 crowd_people crowd_heights rowCounts_e x4 FU left_length_1 left_who_2 x2 x3 (-2) 0) fun left_length_18 left_who_19 v7_20 => (some (v7_20, left_length_18, left_who_19))))
set_option maxRecDepth 100000 in
set_option maxHeartbeats 4000000 in
theorem l_Books_inRow_52 {X : zX} (G : zG) (a_this : Nat) (a_crowd : Nat) (a_shelves : Nat) (a_numbers : Nat) (a_left : Nat) (a_result : Nat) (a_fillings : Nat) (a_spare : Nat) (a_rowCounts : Nat) (a_crowd_heights : Nat) (a_left_who : Nat) (a_rowCounts_e : Nat → Nat) (a_p1 : Nat) (a_p1_who : Nat) (size : Int32) (crowd_people : Int32) (crowd_heights : Nat → Int32) (left_length : Int32) (left_who : Nat → Int32) (rowCounts_e : Nat → (Nat → Int32)) (p1_length : Int32) (p1_who : Nat → Int32) (v4 : Int32) (v5 : Int32) (v8 : Int32) (v9 : Int32) {v0 : Option Value} {w0 : va_W} (F : zF X G cX0_inRow RX0 11 (some .int) 3 141 v0 w0) (e_v6 : Int32) (e_v10 : Int32) (hk : Z X G 11 (w_Books_inRow G a_this a_crowd a_shelves a_numbers a_left a_result a_fillings a_spare a_rowCounts a_crowd_heights a_left_who a_rowCounts_e a_p1 a_p1_who size crowd_people crowd_heights left_length left_who rowCounts_e p1_length p1_who) [(0, .ref a_this), (4, .int v4), (5, .int v5), (6, .int e_v6), (8, .int v8), (9, .int v9), (10, .int e_v10)] 97 []) :
    ∀ (fuel : Nat) (v6 : Int32) (v10 : Int32), f_Books_inRow_L52 rowCounts_e v5 v9 fuel v6 v10 = some (e_v6, e_v10) → Z X G 11 (w_Books_inRow G a_this a_crowd a_shelves a_numbers a_left a_result a_fillings a_spare a_rowCounts a_crowd_heights a_left_who a_rowCounts_e a_p1 a_p1_who size crowd_people crowd_heights left_length left_who rowCounts_e p1_length p1_who) [(0, .ref a_this), (4, .int v4), (5, .int v5), (6, .int v6), (8, .int v8), (9, .int v9), (10, .int v10)] 52 [] := by
  intro fuel
  induction fuel with
  | zero => intro v6 v10 hf; exact absurd ((f_Books_inRow_L52.eq_1 ..).symm.trans hf) (fun h => by cases h)
  | succ fuel ih =>
    intro v6 v10 hf
    replace hf := (f_Books_inRow_L52.eq_2 ..).symm.trans hf
    refine z_iload F 6 dX0_inRow_52 rfl ?_
    refine z_iload F 5 dX0_inRow_54 rfl ?_
    refine z_icmp_ge F 97 dX0_inRow_56 (by decide) hf (fun hf _ => ?_) (fun hf _ => ?_)
    · have eq1 := Option.some.inj hf
      obtain ⟨ee1, ee2⟩ := Prod.mk.inj eq1
      subst ee1
      subst ee2
      exact z_sub [0, 1, 2, 3, 4, 5, 6] rfl hk
    · refine z_iload F 3 dX0_inRow_59 rfl ?_
      refine z_aload_n F 0 dX0_inRow_61 rfl rfl ?_
      refine z_iload F 5 dX0_inRow_62 rfl ?_
      refine z_iload F 2 dX0_inRow_64 rfl ?_
      refine z_iload F 6 dX0_inRow_66 rfl ?_
      refine z_isub F dX0_inRow_68 ?_
      obtain ⟨r_6, hg, hf⟩ := zb1_some hf
      refine z_callVm (rest := [.int v6]) F 0 (c_Books_rowsOf (xL X) G a_this a_crowd a_shelves a_numbers a_left a_result a_fillings a_spare a_rowCounts a_rowCounts_e size rowCounts_e v9 (v5 - v10) r_6 hg) hy_X0_rowsOf ml_X0_133 hd_X0_rowsOf ⟨by omega, by omega⟩ rfl [0, 5, 6, 7, 8, 9, 10, 11, 12, 13, 14, 15] rfl rfl 0 rfl rfl (w_Books_inRow G a_this a_crowd a_shelves a_numbers a_left a_result a_fillings a_spare a_rowCounts a_crowd_heights a_left_who a_rowCounts_e a_p1 a_p1_who size crowd_people crowd_heights left_length left_who rowCounts_e p1_length p1_who) [some 0, none, none, none, none, some 1, some 2, some 3, some 4, some 5, some 6, some 7, some 8, some 9, some 10, some 11, none, none] rfl (by decide +kernel) rfl rfl (Nat.le_of_ble_eq_true rfl) dX0_inRow_69 (fun hz_7 => ?_)
      refine z_icmp_lt F 97 dX0_inRow_72 (by decide) hf (fun hf _ => ?_) (fun hf _ => ?_)
      · have eq1 := Option.some.inj hf
        obtain ⟨ee1, ee2⟩ := Prod.mk.inj eq1
        subst ee1
        subst ee2
        exact z_sub [0, 1, 2, 3, 4, 5, 6] rfl hk
      · refine z_iload F 3 dX0_inRow_75 rfl ?_
        refine z_aload_n F 0 dX0_inRow_77 rfl rfl ?_
        refine z_iload F 5 dX0_inRow_78 rfl ?_
        refine z_iload F 2 dX0_inRow_80 rfl ?_
        refine z_iload F 6 dX0_inRow_82 rfl ?_
        refine z_isub F dX0_inRow_84 ?_
        obtain ⟨r_8, hg, hf⟩ := zb1_some hf
        refine z_callVm (rest := [.int v6]) F 0 (c_Books_rowsOf (xL X) G a_this a_crowd a_shelves a_numbers a_left a_result a_fillings a_spare a_rowCounts a_rowCounts_e size rowCounts_e v9 (v5 - v10) r_8 hg) hy_X0_rowsOf ml_X0_133 hd_X0_rowsOf ⟨by omega, by omega⟩ rfl [0, 5, 6, 7, 8, 9, 10, 11, 12, 13, 14, 15] rfl rfl 0 rfl rfl (w_Books_inRow G a_this a_crowd a_shelves a_numbers a_left a_result a_fillings a_spare a_rowCounts a_crowd_heights a_left_who a_rowCounts_e a_p1 a_p1_who size crowd_people crowd_heights left_length left_who rowCounts_e p1_length p1_who) [some 0, none, none, none, none, some 1, some 2, some 3, some 4, some 5, some 6, some 7, some 8, some 9, some 10, some 11, none, none] rfl (by decide +kernel) rfl rfl (Nat.le_of_ble_eq_true rfl) dX0_inRow_85 (fun hz_9 => ?_)
        refine z_isub F dX0_inRow_88 ?_
        refine z_istore F [(6, .int (v6 - r_8)), (0, .ref a_this), (4, .int v4), (5, .int v5), (8, .int v8), (9, .int v9), (10, .int v10)] dX0_inRow_89 (by decide) rfl ?_
        refine z_iinc F [(10, .int (v10 + 1)), (6, .int (v6 - r_8)), (0, .ref a_this), (4, .int v4), (5, .int v5), (8, .int v8), (9, .int v9)] dX0_inRow_91 6 rfl rfl (by decide) rfl ?_
        refine z_goto F 52 dX0_inRow_94 (by decide) ?_
        exact z_sub [2, 3, 4, 1, 5, 6, 0] rfl (ih (v6 - r_8) (v10 + 1) hf)

set_option maxRecDepth 100000 in
set_option maxHeartbeats 4000000 in
theorem l_Books_inRow_21 {X : zX} (G : zG) (a_this : Nat) (a_crowd : Nat) (a_shelves : Nat) (a_numbers : Nat) (a_left : Nat) (a_result : Nat) (a_fillings : Nat) (a_spare : Nat) (a_rowCounts : Nat) (a_crowd_heights : Nat) (a_left_who : Nat) (a_rowCounts_e : Nat → Nat) (a_p1 : Nat) (a_p1_who : Nat) (size : Int32) (crowd_people : Int32) (crowd_heights : Nat → Int32) (rowCounts_e : Nat → (Nat → Int32)) (p1_length : Int32) (p1_who : Nat → Int32) (v4 : Int32) {v0 : Option Value} {w0 : va_W} (F : zF X G cX0_inRow RX0 11 (some .int) 3 141 v0 w0) (e_left_length : Int32) (e_left_who : Nat → Int32) (e_v7 : Int32) (hk : Z X G 11 (w_Books_inRow G a_this a_crowd a_shelves a_numbers a_left a_result a_fillings a_spare a_rowCounts a_crowd_heights a_left_who a_rowCounts_e a_p1 a_p1_who size crowd_people crowd_heights e_left_length e_left_who rowCounts_e p1_length p1_who) [(7, .int e_v7)] 128 []) :
    ∀ (fuel : Nat) (left_length : Int32) (left_who : Nat → Int32) (v5 : Int32) (v6 : Int32) (v7 : Int32) (v8 : Int32), f_Books_inRow_L21 crowd_people crowd_heights rowCounts_e v4 fuel left_length left_who v5 v6 v7 v8 = some (e_left_length, e_left_who, e_v7) → Z X G 11 (w_Books_inRow G a_this a_crowd a_shelves a_numbers a_left a_result a_fillings a_spare a_rowCounts a_crowd_heights a_left_who a_rowCounts_e a_p1 a_p1_who size crowd_people crowd_heights left_length left_who rowCounts_e p1_length p1_who) [(0, .ref a_this), (4, .int v4), (5, .int v5), (6, .int v6), (7, .int v7), (8, .int v8)] 21 [] := by
  intro fuel
  induction fuel with
  | zero => intro left_length left_who v5 v6 v7 v8 hf; exact absurd ((f_Books_inRow_L21.eq_1 ..).symm.trans hf) (fun h => by cases h)
  | succ fuel ih =>
    intro left_length left_who v5 v6 v7 v8 hf
    replace hf := (f_Books_inRow_L21.eq_2 ..).symm.trans hf
    refine z_iload F 5 dX0_inRow_21 rfl ?_
    refine z_iload F 1 dX0_inRow_23 rfl ?_
    refine z_icmp_gt F 128 dX0_inRow_25 (by decide) hf (fun hf _ => ?_) (fun hf _ => ?_)
    · have eq1 := Option.some.inj hf
      obtain ⟨ee1, eq2⟩ := Prod.mk.inj eq1
      obtain ⟨ee2, ee3⟩ := Prod.mk.inj eq2
      subst ee1
      subst ee2
      subst ee3
      exact z_sub [4] rfl hk
    · refine z_aload_n F 0 dX0_inRow_28 rfl rfl ?_
      refine z_get F 0 0 4 inlX0 rfl rfl (by decide) fl_X0_26 rfl dX0_inRow_29 ?_
      refine z_callVm (rest := []) F 7 (c_Line_size (xL X) G a_left a_left_who left_length _ rfl) hy_X7_size ml_X0_53 hd_X7_size ⟨by omega, by omega⟩ rfl [3] rfl rfl 3 rfl rfl (w_Books_inRow G a_this a_crowd a_shelves a_numbers a_left a_result a_fillings a_spare a_rowCounts a_crowd_heights a_left_who a_rowCounts_e a_p1 a_p1_who size crowd_people crowd_heights left_length left_who rowCounts_e p1_length p1_who) [none, none, none, some 0, none, none, none, none, none, none, none, none, none, none, none, none, none, none] rfl (by decide +kernel) rfl rfl (Nat.le_of_ble_eq_true rfl) dX0_inRow_32 (fun hz_4 => ?_)
      refine z_if_le F 128 dX0_inRow_35 (by decide) hf (fun hf _ => ?_) (fun hf _ => ?_)
      · have eq1 := Option.some.inj hf
        obtain ⟨ee1, eq2⟩ := Prod.mk.inj eq1
        obtain ⟨ee2, ee3⟩ := Prod.mk.inj eq2
        subst ee1
        subst ee2
        subst ee3
        exact z_sub [4] rfl hk
      · refine z_aload_n F 0 dX0_inRow_38 rfl rfl ?_
        refine z_get F 0 0 4 inlX0 rfl rfl (by decide) fl_X0_26 rfl dX0_inRow_39 ?_
        refine z_callVm (rest := []) F 7 (c_Line_size (xL X) G a_left a_left_who left_length _ rfl) hy_X7_size ml_X0_53 hd_X7_size ⟨by omega, by omega⟩ rfl [3] rfl rfl 3 rfl rfl (w_Books_inRow G a_this a_crowd a_shelves a_numbers a_left a_result a_fillings a_spare a_rowCounts a_crowd_heights a_left_who a_rowCounts_e a_p1 a_p1_who size crowd_people crowd_heights left_length left_who rowCounts_e p1_length p1_who) [none, none, none, some 0, none, none, none, none, none, none, none, none, none, none, none, none, none, none] rfl (by decide +kernel) rfl rfl (Nat.le_of_ble_eq_true rfl) dX0_inRow_42 (fun hz_5 => ?_)
        refine z_iconst F (1) dX0_inRow_45 rfl ?_
        refine z_isub F dX0_inRow_46 ?_
        refine z_istore F [(9, .int ((f_Line_size left_length) - (1 : Int32))), (0, .ref a_this), (4, .int v4), (5, .int v5), (6, .int v6), (7, .int v7), (8, .int v8)] dX0_inRow_47 (by decide) rfl ?_
        refine z_iconst F (0) dX0_inRow_49 rfl ?_
        refine z_istore F [(10, .int 0), (9, .int ((f_Line_size left_length) - (1 : Int32))), (0, .ref a_this), (4, .int v4), (5, .int v5), (6, .int v6), (7, .int v7), (8, .int v8)] dX0_inRow_50 (by decide) rfl ?_
        obtain ⟨v6_10, v10_11, hg, hf⟩ := zb2_some hf
        refine z_sub [2, 3, 4, 5, 7, 1, 0] rfl ?_
        refine l_Books_inRow_52 G a_this a_crowd a_shelves a_numbers a_left a_result a_fillings a_spare a_rowCounts a_crowd_heights a_left_who a_rowCounts_e a_p1 a_p1_who size crowd_people crowd_heights left_length left_who rowCounts_e p1_length p1_who v4 v5 v8 ((f_Line_size left_length) - (1 : Int32)) F v6_10 v10_11 ?_ FU v6 0 hg
        refine z_iload F 2 dX0_inRow_97 rfl ?_
        refine z_iload F 6 dX0_inRow_99 rfl ?_
        refine z_isub F dX0_inRow_101 ?_
        refine z_istore F [(5, .int (v5 - v10_11)), (0, .ref a_this), (4, .int v4), (6, .int v6_10), (8, .int v8), (9, .int ((f_Line_size left_length) - (1 : Int32))), (10, .int v10_11)] dX0_inRow_102 (by decide) rfl ?_
        refine z_aload_n F 1 dX0_inRow_104 rfl rfl ?_
        refine z_get F 0 0 4 inlX0 rfl rfl (by decide) fl_X0_26 rfl dX0_inRow_105 ?_
        refine z_aload_n F 1 dX0_inRow_108 rfl rfl ?_
        refine z_iload F 5 dX0_inRow_109 rfl ?_
        refine z_iload F 6 dX0_inRow_111 rfl ?_
        refine z_isub F dX0_inRow_113 ?_
        obtain ⟨r_12, hg, hf⟩ := zb1_some hf
        refine z_callVm (rest := [.ref a_left]) F 0 (c_Books_placeInLeft (xL X) G a_this a_crowd a_shelves a_numbers a_left a_result a_fillings a_spare a_rowCounts a_crowd_heights a_left_who size crowd_people crowd_heights left_length left_who (((f_Line_size left_length) - (1 : Int32)) - v10_11) r_12 hg) hy_X0_placeInLeft ml_X0_100 hd_X0_placeInLeft ⟨by omega, by omega⟩ rfl [0, 1, 2, 3, 4] rfl rfl 0 rfl rfl (w_Books_inRow G a_this a_crowd a_shelves a_numbers a_left a_result a_fillings a_spare a_rowCounts a_crowd_heights a_left_who a_rowCounts_e a_p1 a_p1_who size crowd_people crowd_heights left_length left_who rowCounts_e p1_length p1_who) [some 0, some 1, some 2, some 3, some 4, none, none, none, none, none, none, none, none, none, none, none, none, none] rfl (by decide +kernel) rfl rfl (Nat.le_of_ble_eq_true rfl) dX0_inRow_114 (fun hz_13 => ?_)
        obtain ⟨r_14, left_length_15, left_who_16, hg, hf⟩ := zb3_some hf
        refine z_callVm (rest := []) F 7 (c_Line_removeAt (xL X) G a_left a_left_who left_length left_who r_12 r_14 left_length_15 left_who_16 hg) hy_X7_removeAt ml_X0_103 hd_X7_removeAt ⟨by omega, by omega⟩ rfl [3, 4] rfl rfl 3 rfl rfl (w_Books_inRow G a_this a_crowd a_shelves a_numbers a_left a_result a_fillings a_spare a_rowCounts a_crowd_heights a_left_who a_rowCounts_e a_p1 a_p1_who size crowd_people crowd_heights left_length_15 left_who_16 rowCounts_e p1_length p1_who) [none, none, none, some 0, some 1, none, none, none, none, none, none, none, none, none, none, none, none, none] rfl (by decide +kernel) rfl rfl (Nat.le_of_ble_eq_true rfl) dX0_inRow_117 (fun hz_17 => ?_)
        refine z_istore F [(7, .int r_14), (5, .int (v5 - v10_11)), (0, .ref a_this), (4, .int v4), (6, .int v6_10), (8, .int v8), (9, .int ((f_Line_size left_length) - (1 : Int32))), (10, .int v10_11)] dX0_inRow_120 (by decide) rfl ?_
        refine z_iinc F [(8, .int (v8 + 1)), (7, .int r_14), (5, .int (v5 - v10_11)), (0, .ref a_this), (4, .int v4), (6, .int v6_10), (9, .int ((f_Line_size left_length) - (1 : Int32))), (10, .int v10_11)] dX0_inRow_122 5 rfl rfl (by decide) rfl ?_
        refine z_goto F 21 dX0_inRow_125 (by decide) ?_
        exact z_sub [3, 4, 2, 5, 1, 0] rfl (ih left_length_15 left_who_16 (v5 - v10_11) v6_10 r_14 (v8 + 1) hf)

set_option maxRecDepth 100000 in
set_option maxHeartbeats 4000000 in
theorem c_Books_inRow (l : Launch) (G : zG) (a_this : Nat) (a_crowd : Nat) (a_shelves : Nat) (a_numbers : Nat) (a_left : Nat) (a_result : Nat) (a_fillings : Nat) (a_spare : Nat) (a_rowCounts : Nat) (a_crowd_heights : Nat) (a_left_who : Nat) (a_rowCounts_e : Nat → Nat) (a_p1 : Nat) (a_p1_who : Nat) (size : Int32) (crowd_people : Int32) (crowd_heights : Nat → Int32) (left_length : Int32) (left_who : Nat → Int32) (rowCounts_e : Nat → (Nat → Int32)) (p1_length : Int32) (p1_who : Nat → Int32) (x2 : Int32) (x3 : Int32) (x4 : Int32) (r_ : Int32) (o_left_length : Int32) (o_left_who : Nat → Int32) (hf : f_Books_inRow crowd_people crowd_heights left_length left_who rowCounts_e p1_length p1_who x2 x3 x4 = some (r_, o_left_length, o_left_who)) : zM l yX0_inRow cX0_inRow 11 (some .int) 3 141 G [.ref a_this, .ref a_p1, .int x2, .int x3, .int x4] (w_Books_inRow G a_this a_crowd a_shelves a_numbers a_left a_result a_fillings a_spare a_rowCounts a_crowd_heights a_left_who a_rowCounts_e a_p1 a_p1_who size crowd_people crowd_heights left_length left_who rowCounts_e p1_length p1_who) (some (.int r_)) (w_Books_inRow G a_this a_crowd a_shelves a_numbers a_left a_result a_fillings a_spare a_rowCounts a_crowd_heights a_left_who a_rowCounts_e a_p1 a_p1_who size crowd_people crowd_heights o_left_length o_left_who rowCounts_e p1_length p1_who) := by
  refine zM.of [(0, .ref a_this), (1, .ref a_p1), (2, .int x2), (3, .int x3), (4, .int x4)] (own := RX0) rfl (by decide +kernel) (Nat.le_of_ble_eq_true rfl) rfl rfl fun X hX F => ?_
  subst hX
  replace hf := (f_Books_inRow.eq_1 ..).symm.trans hf
  refine z_aload_n F 0 dX0_inRow_0 rfl rfl ?_
  refine z_get F 0 0 4 inlX0 rfl rfl (by decide) fl_X0_26 rfl dX0_inRow_1 ?_
  refine z_aload_n F 1 dX0_inRow_4 rfl rfl ?_
  obtain ⟨left_length_1, left_who_2, hg, hf⟩ := zb2_some hf
  refine z_callVm (rest := []) F 7 (c_Line_copyFrom (xL X) G a_left a_left_who a_p1 a_p1_who left_length left_who p1_length p1_who left_length_1 left_who_2 hg) hy_X7_copyFrom ml_X0_96 hd_X7_copyFrom ⟨by omega, by omega⟩ rfl [3, 4, 16, 17] rfl rfl 3 rfl rfl (w_Books_inRow G a_this a_crowd a_shelves a_numbers a_left a_result a_fillings a_spare a_rowCounts a_crowd_heights a_left_who a_rowCounts_e a_p1 a_p1_who size crowd_people crowd_heights left_length_1 left_who_2 rowCounts_e p1_length p1_who) [none, none, none, some 0, some 1, none, none, none, none, none, none, none, none, none, none, none, some 2, some 3] rfl (by decide +kernel) rfl rfl (Nat.le_of_ble_eq_true rfl) dX0_inRow_5 (fun hz_3 => ?_)
  refine z_iload_n F 2 dX0_inRow_8 rfl rfl ?_
  refine z_istore F [(5, .int x2), (0, .ref a_this), (1, .ref a_p1), (2, .int x2), (3, .int x3), (4, .int x4)] dX0_inRow_9 (by decide) rfl ?_
  refine z_iload_n F 4 dX0_inRow_11 rfl rfl ?_
  refine z_istore F [(6, .int x3), (5, .int x2), (0, .ref a_this), (1, .ref a_p1), (2, .int x2), (3, .int x3), (4, .int x4)] dX0_inRow_12 (by decide) rfl ?_
  refine z_bipush F (-2) dX0_inRow_14 rfl ?_
  refine z_istore F [(7, .int (-2)), (6, .int x3), (5, .int x2), (0, .ref a_this), (1, .ref a_p1), (2, .int x2), (3, .int x3), (4, .int x4)] dX0_inRow_16 (by decide) rfl ?_
  refine z_iconst F (0) dX0_inRow_18 rfl ?_
  refine z_istore F [(8, .int 0), (7, .int (-2)), (6, .int x3), (5, .int x2), (0, .ref a_this), (1, .ref a_p1), (2, .int x2), (3, .int x3), (4, .int x4)] dX0_inRow_19 (by decide) rfl ?_
  obtain ⟨left_length_18, left_who_19, v7_20, hg, hf⟩ := zb3_some hf
  refine z_sub [4, 8, 3, 2, 1, 0] rfl ?_
  refine l_Books_inRow_21 G a_this a_crowd a_shelves a_numbers a_left a_result a_fillings a_spare a_rowCounts a_crowd_heights a_left_who a_rowCounts_e a_p1 a_p1_who size crowd_people crowd_heights rowCounts_e p1_length p1_who x4 F left_length_18 left_who_19 v7_20 ?_ FU left_length_1 left_who_2 x2 x3 (-2) 0 hg
  refine z_iload F 0 dX0_inRow_128 rfl ?_
  have eq1 := Option.some.inj hf
  obtain ⟨ee1, eq2⟩ := Prod.mk.inj eq1
  obtain ⟨ee2, ee3⟩ := Prod.mk.inj eq2
  subst ee1
  subst ee2
  subst ee3
  exact z_iret F rfl rfl rfl rfl dX0_inRow_130

abbrev w_Books_changesTo (G : zG) (a_this : Nat) (a_crowd : Nat) (a_shelves : Nat) (a_numbers : Nat) (a_left : Nat) (a_result : Nat) (a_fillings : Nat) (a_spare : Nat) (a_rowCounts : Nat) (a_shelves_sorts : Nat) (a_shelves_sizes : Nat) (a_shelves_held : Nat) (a_shelves_elements : Nat) (a_shelves_elements_e : Nat → Nat) (a_result_who : Nat) (a_p2 : Nat) (a_p2_who : Nat) (size : Int32) (shelves_sizes : Nat → Int32) (shelves_elements_e : Nat → (Nat → Int64)) (result_length : Int32) (result_who : Nat → Int32) (p2_length : Int32) (p2_who : Nat → Int32) : va_W := [(a_this, cO 0 [.ref a_crowd, .ref a_shelves, .ref a_numbers, .int size, .ref a_left, .ref a_result, .ref a_fillings, .ref a_spare, .ref a_rowCounts]), (a_shelves, cO 9 [.ref a_shelves_sorts, .ref a_shelves_sizes, .ref a_shelves_held, .ref a_shelves_elements]), (a_shelves_sizes, cI G 6 shelves_sizes), (a_shelves_elements, cJJ G 6 (fun j => some (a_shelves_elements_e j))), ((a_shelves_elements_e 0), cJ G 60 (shelves_elements_e 0)), ((a_shelves_elements_e 1), cJ G 60 (shelves_elements_e 1)), ((a_shelves_elements_e 2), cJ G 60 (shelves_elements_e 2)), ((a_shelves_elements_e 3), cJ G 60 (shelves_elements_e 3)), ((a_shelves_elements_e 4), cJ G 60 (shelves_elements_e 4)), ((a_shelves_elements_e 5), cJ G 60 (shelves_elements_e 5)), (a_result, cO 7 [.ref a_result_who, .int result_length]), (a_result_who, cI G 9 result_who), (a_p2, cO 7 [.ref a_p2_who, .int p2_length]), (a_p2_who, cI G 9 p2_who)]
def f_Books_changesTo_L27 (shelves_sizes : Nat → Int32) (shelves_elements_e : Nat → (Nat → Int64)) (p2_length : Int32) (p2_who : Nat → Int32) (v1 : Int32) : Nat → Int32 → (Nat → Int32) → Int32 → Option (((Int32 × (Nat → Int32)) ⊕ (Int32 × Int32 × (Nat → Int32))))
  | 0, _, _, _ => none
  | fuel + 1, result_length, result_who, v3 => (if (f_Line_size p2_length) ≤ v3 then (some (.inl (result_length, result_who))) else (zb1 (f_Shelves_valueAt shelves_sizes shelves_elements_e v1 v3) fun r_7 => (zb1 (f_Line_placeOf p2_length p2_who (Int64.toInt32 r_7)) fun r_9 => (if r_9 < 0 then (some (.inr ((-5), result_length, result_who))) else (zb1 (f_Line_placeOf result_length result_who (Int64.toInt32 r_7)) fun r_11 => (if r_11 < 0 then (zb2 (f_Line_insert result_length result_who (Int64.toInt32 r_7) v3) fun result_length_13 result_who_14 => (f_Books_changesTo_L27 shelves_sizes shelves_elements_e p2_length p2_who v1 fuel result_length_13 result_who_14 (v3 + 1))) else (some (.inr ((-5), result_length, result_who)))))))))
def f_Books_changesTo_L107 (result_length : Int32) (result_who : Nat → Int32) (p2_length : Int32) (p2_who : Nat → Int32) (v4 : Int32) : Nat → Int32 → Int32 → Option Int32
  | 0, _, _ => none
  | fuel + 1, v3, v5 => (if v4 ≤ v5 then (some v3) else (zb1 (f_Line_at result_length result_who v5) fun r_22 => (zb1 (f_Line_placeOf p2_length p2_who r_22) fun r_24 => (zb1 (f_Line_at result_length result_who v4) fun r_26 => (zb1 (f_Line_placeOf p2_length p2_who r_26) fun r_28 => (if r_24 ≤ r_28 then (f_Books_changesTo_L107 result_length result_who p2_length p2_who v4 fuel v3 (v5 + 1)) else (f_Books_changesTo_L107 result_length result_who p2_length p2_who v4 fuel (v3 + 1) (v5 + 1))))))))
def f_Books_changesTo_L92 (result_length : Int32) (result_who : Nat → Int32) (p2_length : Int32) (p2_who : Nat → Int32) : Nat → Int32 → Int32 → Option Int32
  | 0, _, _ => none
  | fuel + 1, v3, v4 => (if (f_Line_size result_length) ≤ v4 then (some v3) else (zb1 (f_Books_changesTo_L107 result_length result_who p2_length p2_who v4 FU v3 0) fun v3_30 => (f_Books_changesTo_L92 result_length result_who p2_length p2_who fuel v3_30 (v4 + 1))))
def f_Books_changesTo (shelves_sizes : Nat → Int32) (shelves_elements_e : Nat → (Nat → Int64)) (result_length : Int32) (result_who : Nat → Int32) (p2_length : Int32) (p2_who : Nat → Int32) (x1 : Int32) : Option (Int32 × Int32 × (Nat → Int32)) := (zb1 (f_Shelves_sizeOf shelves_sizes x1) fun r_1 => (if r_1 = (f_Line_size p2_length) then (zb1 (f_Line_clear result_length) fun result_length_4 => (zbs2 (f_Books_changesTo_L27 shelves_sizes shelves_elements_e p2_length p2_who x1 FU result_length_4 result_who 0) (fun result_length_16 result_who_17 => (zb1 (f_Books_changesTo_L92 result_length_16 result_who_17 p2_length p2_who FU 0 1) fun v3_31 => (some (v3_31, result_length_16, result_who_17)))) some)) else (some ((-5), result_length, result_who))))
set_option maxRecDepth 100000 in
set_option maxHeartbeats 4000000 in
theorem l_Books_changesTo_27 {X : zX} (G : zG) (a_this : Nat) (a_crowd : Nat) (a_shelves : Nat) (a_numbers : Nat) (a_left : Nat) (a_result : Nat) (a_fillings : Nat) (a_spare : Nat) (a_rowCounts : Nat) (a_shelves_sorts : Nat) (a_shelves_sizes : Nat) (a_shelves_held : Nat) (a_shelves_elements : Nat) (a_shelves_elements_e : Nat → Nat) (a_result_who : Nat) (a_p2 : Nat) (a_p2_who : Nat) (size : Int32) (shelves_sizes : Nat → Int32) (shelves_elements_e : Nat → (Nat → Int64)) (p2_length : Int32) (p2_who : Nat → Int32) (v1 : Int32) {v0 : Option Value} {w0 : va_W} (F : zF X G cX0_changesTo RX0 6 (some .int) 3 64 v0 w0) (out : ((Int32 × (Nat → Int32)) ⊕ (Int32 × Int32 × (Nat → Int32)))) (hk : ∀ (e_result_length : Int32) (e_result_who : Nat → Int32), out = .inl (e_result_length, e_result_who) → Z X G 6 (w_Books_changesTo G a_this a_crowd a_shelves a_numbers a_left a_result a_fillings a_spare a_rowCounts a_shelves_sorts a_shelves_sizes a_shelves_held a_shelves_elements a_shelves_elements_e a_result_who a_p2 a_p2_who size shelves_sizes shelves_elements_e e_result_length e_result_who p2_length p2_who) [(0, .ref a_this), (2, .ref a_p2)] 87 []) (hr : ∀ q : Int32 × Int32 × (Nat → Int32), out = .inr q → v0 = some (.int q.1) ∧ w0 = (w_Books_changesTo G a_this a_crowd a_shelves a_numbers a_left a_result a_fillings a_spare a_rowCounts a_shelves_sorts a_shelves_sizes a_shelves_held a_shelves_elements a_shelves_elements_e a_result_who a_p2 a_p2_who size shelves_sizes shelves_elements_e (q.2.1) (q.2.2) p2_length p2_who)) :
    ∀ (fuel : Nat) (result_length : Int32) (result_who : Nat → Int32) (v3 : Int32), f_Books_changesTo_L27 shelves_sizes shelves_elements_e p2_length p2_who v1 fuel result_length result_who v3 = some out → Z X G 6 (w_Books_changesTo G a_this a_crowd a_shelves a_numbers a_left a_result a_fillings a_spare a_rowCounts a_shelves_sorts a_shelves_sizes a_shelves_held a_shelves_elements a_shelves_elements_e a_result_who a_p2 a_p2_who size shelves_sizes shelves_elements_e result_length result_who p2_length p2_who) [(0, .ref a_this), (1, .int v1), (2, .ref a_p2), (3, .int v3)] 27 [] := by
  intro fuel
  induction fuel with
  | zero => intro result_length result_who v3 hf; exact absurd ((f_Books_changesTo_L27.eq_1 ..).symm.trans hf) (fun h => by cases h)
  | succ fuel ih =>
    intro result_length result_who v3 hf
    replace hf := (f_Books_changesTo_L27.eq_2 ..).symm.trans hf
    refine z_iload_n F 3 dX0_changesTo_27 rfl rfl ?_
    refine z_aload_n F 2 dX0_changesTo_28 rfl rfl ?_
    refine z_callVm (rest := [.int v3]) F 7 (c_Line_size (xL X) G a_p2 a_p2_who p2_length _ rfl) hy_X7_size ml_X0_53 hd_X7_size ⟨by omega, by omega⟩ rfl [12] rfl rfl 12 rfl rfl (w_Books_changesTo G a_this a_crowd a_shelves a_numbers a_left a_result a_fillings a_spare a_rowCounts a_shelves_sorts a_shelves_sizes a_shelves_held a_shelves_elements a_shelves_elements_e a_result_who a_p2 a_p2_who size shelves_sizes shelves_elements_e result_length result_who p2_length p2_who) [none, none, none, none, none, none, none, none, none, none, none, none, some 0, none] rfl (by decide +kernel) rfl rfl (Nat.le_of_ble_eq_true rfl) dX0_changesTo_29 (fun hz_6 => ?_)
    refine z_icmp_ge F 87 dX0_changesTo_32 (by decide) hf (fun hf _ => ?_) (fun hf _ => ?_)
    · exact z_sub [0, 2] rfl (hk _ _ (Option.some.inj hf).symm)
    · refine z_aload_n F 0 dX0_changesTo_35 rfl rfl ?_
      refine z_get F 0 0 1 inlX0 rfl rfl (by decide) fl_X0_15 rfl dX0_changesTo_36 ?_
      refine z_iload_n F 1 dX0_changesTo_39 rfl rfl ?_
      refine z_iload_n F 3 dX0_changesTo_40 rfl rfl ?_
      obtain ⟨r_7, hg, hf⟩ := zb1_some hf
      refine z_callVm (rest := []) F 9 (c_Shelves_valueAt (xL X) G a_shelves a_shelves_sorts a_shelves_sizes a_shelves_held a_shelves_elements a_shelves_elements_e shelves_sizes shelves_elements_e v1 v3 r_7 hg) hy_X9_valueAt ml_X0_66 hd_X9_valueAt ⟨by omega, by omega⟩ rfl [1, 2, 3, 4, 5, 6, 7, 8, 9] rfl rfl 1 rfl rfl (w_Books_changesTo G a_this a_crowd a_shelves a_numbers a_left a_result a_fillings a_spare a_rowCounts a_shelves_sorts a_shelves_sizes a_shelves_held a_shelves_elements a_shelves_elements_e a_result_who a_p2 a_p2_who size shelves_sizes shelves_elements_e result_length result_who p2_length p2_who) [none, some 0, some 1, some 2, some 3, some 4, some 5, some 6, some 7, some 8, none, none, none, none] rfl (by decide +kernel) rfl rfl (Nat.le_of_ble_eq_true rfl) dX0_changesTo_41 (fun hz_8 => ?_)
      refine z_l2i F dX0_changesTo_44 ?_
      refine z_istore F [(4, .int (Int64.toInt32 r_7)), (0, .ref a_this), (1, .int v1), (2, .ref a_p2), (3, .int v3)] dX0_changesTo_45 (by decide) rfl ?_
      refine z_aload_n F 3 dX0_changesTo_47 rfl rfl ?_
      refine z_iload F 0 dX0_changesTo_48 rfl ?_
      obtain ⟨r_9, hg, hf⟩ := zb1_some hf
      refine z_callVm (rest := []) F 7 (c_Line_placeOf (xL X) G a_p2 a_p2_who p2_length p2_who (Int64.toInt32 r_7) r_9 hg) hy_X7_placeOf ml_X0_139 hd_X7_placeOf ⟨by omega, by omega⟩ rfl [12, 13] rfl rfl 12 rfl rfl (w_Books_changesTo G a_this a_crowd a_shelves a_numbers a_left a_result a_fillings a_spare a_rowCounts a_shelves_sorts a_shelves_sizes a_shelves_held a_shelves_elements a_shelves_elements_e a_result_who a_p2 a_p2_who size shelves_sizes shelves_elements_e result_length result_who p2_length p2_who) [none, none, none, none, none, none, none, none, none, none, none, none, some 0, some 1] rfl (by decide +kernel) rfl rfl (Nat.le_of_ble_eq_true rfl) dX0_changesTo_50 (fun hz_10 => ?_)
      refine z_if_lt F 68 dX0_changesTo_53 (by decide) hf (fun hf _ => ?_) (fun hf _ => ?_)
      · refine z_bipush F (-5) dX0_changesTo_68 rfl ?_
        obtain ⟨e1, e2⟩ := hr _ (Option.some.inj hf).symm
        exact z_iret F rfl rfl e1.symm e2.symm dX0_changesTo_70
      · refine z_aload_n F 1 dX0_changesTo_56 rfl rfl ?_
        refine z_get F 0 0 5 inlX0 rfl rfl (by decide) fl_X0_30 rfl dX0_changesTo_57 ?_
        refine z_iload F 0 dX0_changesTo_60 rfl ?_
        obtain ⟨r_11, hg, hf⟩ := zb1_some hf
        refine z_callVm (rest := []) F 7 (c_Line_placeOf (xL X) G a_result a_result_who result_length result_who (Int64.toInt32 r_7) r_11 hg) hy_X7_placeOf ml_X0_139 hd_X7_placeOf ⟨by omega, by omega⟩ rfl [10, 11] rfl rfl 10 rfl rfl (w_Books_changesTo G a_this a_crowd a_shelves a_numbers a_left a_result a_fillings a_spare a_rowCounts a_shelves_sorts a_shelves_sizes a_shelves_held a_shelves_elements a_shelves_elements_e a_result_who a_p2 a_p2_who size shelves_sizes shelves_elements_e result_length result_who p2_length p2_who) [none, none, none, none, none, none, none, none, none, none, some 0, some 1, none, none] rfl (by decide +kernel) rfl rfl (Nat.le_of_ble_eq_true rfl) dX0_changesTo_62 (fun hz_12 => ?_)
        refine z_if_lt F 71 dX0_changesTo_65 (by decide) hf (fun hf _ => ?_) (fun hf _ => ?_)
        · refine z_aload_n F 1 dX0_changesTo_71 rfl rfl ?_
          refine z_get F 0 0 5 inlX0 rfl rfl (by decide) fl_X0_30 rfl dX0_changesTo_72 ?_
          refine z_iload F 0 dX0_changesTo_75 rfl ?_
          refine z_iload_n F 4 dX0_changesTo_77 rfl rfl ?_
          obtain ⟨result_length_13, result_who_14, hg, hf⟩ := zb2_some hf
          refine z_callVm (rest := []) F 7 (c_Line_insert (xL X) G a_result a_result_who result_length result_who (Int64.toInt32 r_7) v3 result_length_13 result_who_14 hg) hy_X7_insert ml_X0_142 hd_X7_insert ⟨by omega, by omega⟩ rfl [10, 11] rfl rfl 10 rfl rfl (w_Books_changesTo G a_this a_crowd a_shelves a_numbers a_left a_result a_fillings a_spare a_rowCounts a_shelves_sorts a_shelves_sizes a_shelves_held a_shelves_elements a_shelves_elements_e a_result_who a_p2 a_p2_who size shelves_sizes shelves_elements_e result_length_13 result_who_14 p2_length p2_who) [none, none, none, none, none, none, none, none, none, none, some 0, some 1, none, none] rfl (by decide +kernel) rfl rfl (Nat.le_of_ble_eq_true rfl) dX0_changesTo_78 (fun hz_15 => ?_)
          refine z_iinc F [(3, .int (v3 + 1)), (4, .int (Int64.toInt32 r_7)), (0, .ref a_this), (1, .int v1), (2, .ref a_p2)] dX0_changesTo_81 4 rfl rfl (by decide) rfl ?_
          refine z_goto F 27 dX0_changesTo_84 (by decide) ?_
          exact z_sub [2, 3, 4, 0] rfl (ih result_length_13 result_who_14 (v3 + 1) hf)
        · refine z_bipush F (-5) dX0_changesTo_68 rfl ?_
          obtain ⟨e1, e2⟩ := hr _ (Option.some.inj hf).symm
          exact z_iret F rfl rfl e1.symm e2.symm dX0_changesTo_70

set_option maxRecDepth 100000 in
set_option maxHeartbeats 4000000 in
theorem l_Books_changesTo_107 {X : zX} (G : zG) (a_this : Nat) (a_crowd : Nat) (a_shelves : Nat) (a_numbers : Nat) (a_left : Nat) (a_result : Nat) (a_fillings : Nat) (a_spare : Nat) (a_rowCounts : Nat) (a_shelves_sorts : Nat) (a_shelves_sizes : Nat) (a_shelves_held : Nat) (a_shelves_elements : Nat) (a_shelves_elements_e : Nat → Nat) (a_result_who : Nat) (a_p2 : Nat) (a_p2_who : Nat) (size : Int32) (shelves_sizes : Nat → Int32) (shelves_elements_e : Nat → (Nat → Int64)) (result_length : Int32) (result_who : Nat → Int32) (p2_length : Int32) (p2_who : Nat → Int32) (v4 : Int32) {v0 : Option Value} {w0 : va_W} (F : zF X G cX0_changesTo RX0 6 (some .int) 3 64 v0 w0) (e_v3 : Int32) (hk : Z X G 6 (w_Books_changesTo G a_this a_crowd a_shelves a_numbers a_left a_result a_fillings a_spare a_rowCounts a_shelves_sorts a_shelves_sizes a_shelves_held a_shelves_elements a_shelves_elements_e a_result_who a_p2 a_p2_who size shelves_sizes shelves_elements_e result_length result_who p2_length p2_who) [(0, .ref a_this), (2, .ref a_p2), (3, .int e_v3), (4, .int v4)] 152 []) :
    ∀ (fuel : Nat) (v3 : Int32) (v5 : Int32), f_Books_changesTo_L107 result_length result_who p2_length p2_who v4 fuel v3 v5 = some e_v3 → Z X G 6 (w_Books_changesTo G a_this a_crowd a_shelves a_numbers a_left a_result a_fillings a_spare a_rowCounts a_shelves_sorts a_shelves_sizes a_shelves_held a_shelves_elements a_shelves_elements_e a_result_who a_p2 a_p2_who size shelves_sizes shelves_elements_e result_length result_who p2_length p2_who) [(0, .ref a_this), (2, .ref a_p2), (3, .int v3), (4, .int v4), (5, .int v5)] 107 [] := by
  intro fuel
  induction fuel with
  | zero => intro v3 v5 hf; exact absurd ((f_Books_changesTo_L107.eq_1 ..).symm.trans hf) (fun h => by cases h)
  | succ fuel ih =>
    intro v3 v5 hf
    replace hf := (f_Books_changesTo_L107.eq_2 ..).symm.trans hf
    refine z_iload F 4 dX0_changesTo_107 rfl ?_
    refine z_iload F 3 dX0_changesTo_109 rfl ?_
    refine z_icmp_ge F 152 dX0_changesTo_111 (by decide) hf (fun hf _ => ?_) (fun hf _ => ?_)
    · have ee1 := Option.some.inj hf
      subst ee1
      exact z_sub [0, 1, 2, 3] rfl hk
    · refine z_aload_n F 1 dX0_changesTo_114 rfl rfl ?_
      refine z_aload_n F 0 dX0_changesTo_115 rfl rfl ?_
      refine z_get F 0 0 5 inlX0 rfl rfl (by decide) fl_X0_30 rfl dX0_changesTo_116 ?_
      refine z_iload F 4 dX0_changesTo_119 rfl ?_
      obtain ⟨r_22, hg, hf⟩ := zb1_some hf
      refine z_callVm (rest := [.ref a_p2]) F 7 (c_Line_at (xL X) G a_result a_result_who result_length result_who v5 r_22 hg) hy_X7_at ml_X0_145 hd_X7_at ⟨by omega, by omega⟩ rfl [10, 11] rfl rfl 10 rfl rfl (w_Books_changesTo G a_this a_crowd a_shelves a_numbers a_left a_result a_fillings a_spare a_rowCounts a_shelves_sorts a_shelves_sizes a_shelves_held a_shelves_elements a_shelves_elements_e a_result_who a_p2 a_p2_who size shelves_sizes shelves_elements_e result_length result_who p2_length p2_who) [none, none, none, none, none, none, none, none, none, none, some 0, some 1, none, none] rfl (by decide +kernel) rfl rfl (Nat.le_of_ble_eq_true rfl) dX0_changesTo_121 (fun hz_23 => ?_)
      obtain ⟨r_24, hg, hf⟩ := zb1_some hf
      refine z_callVm (rest := []) F 7 (c_Line_placeOf (xL X) G a_p2 a_p2_who p2_length p2_who r_22 r_24 hg) hy_X7_placeOf ml_X0_139 hd_X7_placeOf ⟨by omega, by omega⟩ rfl [12, 13] rfl rfl 12 rfl rfl (w_Books_changesTo G a_this a_crowd a_shelves a_numbers a_left a_result a_fillings a_spare a_rowCounts a_shelves_sorts a_shelves_sizes a_shelves_held a_shelves_elements a_shelves_elements_e a_result_who a_p2 a_p2_who size shelves_sizes shelves_elements_e result_length result_who p2_length p2_who) [none, none, none, none, none, none, none, none, none, none, none, none, some 0, some 1] rfl (by decide +kernel) rfl rfl (Nat.le_of_ble_eq_true rfl) dX0_changesTo_124 (fun hz_25 => ?_)
      refine z_aload_n F 1 dX0_changesTo_127 rfl rfl ?_
      refine z_aload_n F 0 dX0_changesTo_128 rfl rfl ?_
      refine z_get F 0 0 5 inlX0 rfl rfl (by decide) fl_X0_30 rfl dX0_changesTo_129 ?_
      refine z_iload F 3 dX0_changesTo_132 rfl ?_
      obtain ⟨r_26, hg, hf⟩ := zb1_some hf
      refine z_callVm (rest := [.ref a_p2, .int r_24]) F 7 (c_Line_at (xL X) G a_result a_result_who result_length result_who v4 r_26 hg) hy_X7_at ml_X0_145 hd_X7_at ⟨by omega, by omega⟩ rfl [10, 11] rfl rfl 10 rfl rfl (w_Books_changesTo G a_this a_crowd a_shelves a_numbers a_left a_result a_fillings a_spare a_rowCounts a_shelves_sorts a_shelves_sizes a_shelves_held a_shelves_elements a_shelves_elements_e a_result_who a_p2 a_p2_who size shelves_sizes shelves_elements_e result_length result_who p2_length p2_who) [none, none, none, none, none, none, none, none, none, none, some 0, some 1, none, none] rfl (by decide +kernel) rfl rfl (Nat.le_of_ble_eq_true rfl) dX0_changesTo_134 (fun hz_27 => ?_)
      obtain ⟨r_28, hg, hf⟩ := zb1_some hf
      refine z_callVm (rest := [.int r_24]) F 7 (c_Line_placeOf (xL X) G a_p2 a_p2_who p2_length p2_who r_26 r_28 hg) hy_X7_placeOf ml_X0_139 hd_X7_placeOf ⟨by omega, by omega⟩ rfl [12, 13] rfl rfl 12 rfl rfl (w_Books_changesTo G a_this a_crowd a_shelves a_numbers a_left a_result a_fillings a_spare a_rowCounts a_shelves_sorts a_shelves_sizes a_shelves_held a_shelves_elements a_shelves_elements_e a_result_who a_p2 a_p2_who size shelves_sizes shelves_elements_e result_length result_who p2_length p2_who) [none, none, none, none, none, none, none, none, none, none, none, none, some 0, some 1] rfl (by decide +kernel) rfl rfl (Nat.le_of_ble_eq_true rfl) dX0_changesTo_137 (fun hz_29 => ?_)
      refine z_icmp_le F 146 dX0_changesTo_140 (by decide) hf (fun hf _ => ?_) (fun hf _ => ?_)
      · refine z_iinc F [(5, .int (v5 + 1)), (0, .ref a_this), (2, .ref a_p2), (3, .int v3), (4, .int v4)] dX0_changesTo_146 4 rfl rfl (by decide) rfl ?_
        refine z_goto F 107 dX0_changesTo_149 (by decide) ?_
        exact z_sub [1, 2, 3, 4, 0] rfl (ih v3 (v5 + 1) hf)
      · refine z_iinc F [(3, .int (v3 + 1)), (0, .ref a_this), (2, .ref a_p2), (4, .int v4), (5, .int v5)] dX0_changesTo_143 2 rfl rfl (by decide) rfl ?_
        refine z_iinc F [(5, .int (v5 + 1)), (3, .int (v3 + 1)), (0, .ref a_this), (2, .ref a_p2), (4, .int v4)] dX0_changesTo_146 4 rfl rfl (by decide) rfl ?_
        refine z_goto F 107 dX0_changesTo_149 (by decide) ?_
        exact z_sub [2, 3, 1, 4, 0] rfl (ih (v3 + 1) (v5 + 1) hf)

set_option maxRecDepth 100000 in
set_option maxHeartbeats 4000000 in
theorem l_Books_changesTo_92 {X : zX} (G : zG) (a_this : Nat) (a_crowd : Nat) (a_shelves : Nat) (a_numbers : Nat) (a_left : Nat) (a_result : Nat) (a_fillings : Nat) (a_spare : Nat) (a_rowCounts : Nat) (a_shelves_sorts : Nat) (a_shelves_sizes : Nat) (a_shelves_held : Nat) (a_shelves_elements : Nat) (a_shelves_elements_e : Nat → Nat) (a_result_who : Nat) (a_p2 : Nat) (a_p2_who : Nat) (size : Int32) (shelves_sizes : Nat → Int32) (shelves_elements_e : Nat → (Nat → Int64)) (result_length : Int32) (result_who : Nat → Int32) (p2_length : Int32) (p2_who : Nat → Int32) {v0 : Option Value} {w0 : va_W} (F : zF X G cX0_changesTo RX0 6 (some .int) 3 64 v0 w0) (e_v3 : Int32) (hk : Z X G 6 (w_Books_changesTo G a_this a_crowd a_shelves a_numbers a_left a_result a_fillings a_spare a_rowCounts a_shelves_sorts a_shelves_sizes a_shelves_held a_shelves_elements a_shelves_elements_e a_result_who a_p2 a_p2_who size shelves_sizes shelves_elements_e result_length result_who p2_length p2_who) [(3, .int e_v3)] 158 []) :
    ∀ (fuel : Nat) (v3 : Int32) (v4 : Int32), f_Books_changesTo_L92 result_length result_who p2_length p2_who fuel v3 v4 = some e_v3 → Z X G 6 (w_Books_changesTo G a_this a_crowd a_shelves a_numbers a_left a_result a_fillings a_spare a_rowCounts a_shelves_sorts a_shelves_sizes a_shelves_held a_shelves_elements a_shelves_elements_e a_result_who a_p2 a_p2_who size shelves_sizes shelves_elements_e result_length result_who p2_length p2_who) [(0, .ref a_this), (2, .ref a_p2), (3, .int v3), (4, .int v4)] 92 [] := by
  intro fuel
  induction fuel with
  | zero => intro v3 v4 hf; exact absurd ((f_Books_changesTo_L92.eq_1 ..).symm.trans hf) (fun h => by cases h)
  | succ fuel ih =>
    intro v3 v4 hf
    replace hf := (f_Books_changesTo_L92.eq_2 ..).symm.trans hf
    refine z_iload F 3 dX0_changesTo_92 rfl ?_
    refine z_aload_n F 0 dX0_changesTo_94 rfl rfl ?_
    refine z_get F 0 0 5 inlX0 rfl rfl (by decide) fl_X0_30 rfl dX0_changesTo_95 ?_
    refine z_callVm (rest := [.int v4]) F 7 (c_Line_size (xL X) G a_result a_result_who result_length _ rfl) hy_X7_size ml_X0_53 hd_X7_size ⟨by omega, by omega⟩ rfl [10] rfl rfl 10 rfl rfl (w_Books_changesTo G a_this a_crowd a_shelves a_numbers a_left a_result a_fillings a_spare a_rowCounts a_shelves_sorts a_shelves_sizes a_shelves_held a_shelves_elements a_shelves_elements_e a_result_who a_p2 a_p2_who size shelves_sizes shelves_elements_e result_length result_who p2_length p2_who) [none, none, none, none, none, none, none, none, none, none, some 0, none, none, none] rfl (by decide +kernel) rfl rfl (Nat.le_of_ble_eq_true rfl) dX0_changesTo_98 (fun hz_21 => ?_)
    refine z_icmp_ge F 158 dX0_changesTo_101 (by decide) hf (fun hf _ => ?_) (fun hf _ => ?_)
    · have ee1 := Option.some.inj hf
      subst ee1
      exact z_sub [2] rfl hk
    · refine z_iconst F (0) dX0_changesTo_104 rfl ?_
      refine z_istore F [(5, .int 0), (0, .ref a_this), (2, .ref a_p2), (3, .int v3), (4, .int v4)] dX0_changesTo_105 (by decide) rfl ?_
      obtain ⟨v3_30, hg, hf⟩ := zb1_some hf
      refine z_sub [1, 2, 3, 4, 0] rfl ?_
      refine l_Books_changesTo_107 G a_this a_crowd a_shelves a_numbers a_left a_result a_fillings a_spare a_rowCounts a_shelves_sorts a_shelves_sizes a_shelves_held a_shelves_elements a_shelves_elements_e a_result_who a_p2 a_p2_who size shelves_sizes shelves_elements_e result_length result_who p2_length p2_who v4 F v3_30 ?_ FU v3 0 hg
      refine z_iinc F [(4, .int (v4 + 1)), (0, .ref a_this), (2, .ref a_p2), (3, .int v3_30)] dX0_changesTo_152 3 rfl rfl (by decide) rfl ?_
      refine z_goto F 92 dX0_changesTo_155 (by decide) ?_
      exact z_sub [1, 2, 3, 0] rfl (ih v3_30 (v4 + 1) hf)

set_option maxRecDepth 100000 in
set_option maxHeartbeats 4000000 in
theorem c_Books_changesTo (l : Launch) (G : zG) (a_this : Nat) (a_crowd : Nat) (a_shelves : Nat) (a_numbers : Nat) (a_left : Nat) (a_result : Nat) (a_fillings : Nat) (a_spare : Nat) (a_rowCounts : Nat) (a_shelves_sorts : Nat) (a_shelves_sizes : Nat) (a_shelves_held : Nat) (a_shelves_elements : Nat) (a_shelves_elements_e : Nat → Nat) (a_result_who : Nat) (a_p2 : Nat) (a_p2_who : Nat) (size : Int32) (shelves_sizes : Nat → Int32) (shelves_elements_e : Nat → (Nat → Int64)) (result_length : Int32) (result_who : Nat → Int32) (p2_length : Int32) (p2_who : Nat → Int32) (x1 : Int32) (r_ : Int32) (o_result_length : Int32) (o_result_who : Nat → Int32) (hf : f_Books_changesTo shelves_sizes shelves_elements_e result_length result_who p2_length p2_who x1 = some (r_, o_result_length, o_result_who)) : zM l yX0_changesTo cX0_changesTo 6 (some .int) 3 64 G [.ref a_this, .int x1, .ref a_p2] (w_Books_changesTo G a_this a_crowd a_shelves a_numbers a_left a_result a_fillings a_spare a_rowCounts a_shelves_sorts a_shelves_sizes a_shelves_held a_shelves_elements a_shelves_elements_e a_result_who a_p2 a_p2_who size shelves_sizes shelves_elements_e result_length result_who p2_length p2_who) (some (.int r_)) (w_Books_changesTo G a_this a_crowd a_shelves a_numbers a_left a_result a_fillings a_spare a_rowCounts a_shelves_sorts a_shelves_sizes a_shelves_held a_shelves_elements a_shelves_elements_e a_result_who a_p2 a_p2_who size shelves_sizes shelves_elements_e o_result_length o_result_who p2_length p2_who) := by
  refine zM.of [(0, .ref a_this), (1, .int x1), (2, .ref a_p2)] (own := RX0) rfl (by decide +kernel) (Nat.le_of_ble_eq_true rfl) rfl rfl fun X hX F => ?_
  subst hX
  replace hf := (f_Books_changesTo.eq_1 ..).symm.trans hf
  refine z_aload_n F 0 dX0_changesTo_0 rfl rfl ?_
  refine z_get F 0 0 1 inlX0 rfl rfl (by decide) fl_X0_15 rfl dX0_changesTo_1 ?_
  refine z_iload_n F 1 dX0_changesTo_4 rfl rfl ?_
  obtain ⟨r_1, hg, hf⟩ := zb1_some hf
  refine z_callVm (rest := []) F 9 (c_Shelves_sizeOf (xL X) G a_shelves a_shelves_sorts a_shelves_sizes a_shelves_held a_shelves_elements shelves_sizes x1 r_1 hg) hy_X9_sizeOf ml_X0_47 hd_X9_sizeOf ⟨by omega, by omega⟩ rfl [1, 2] rfl rfl 1 rfl rfl (w_Books_changesTo G a_this a_crowd a_shelves a_numbers a_left a_result a_fillings a_spare a_rowCounts a_shelves_sorts a_shelves_sizes a_shelves_held a_shelves_elements a_shelves_elements_e a_result_who a_p2 a_p2_who size shelves_sizes shelves_elements_e result_length result_who p2_length p2_who) [none, some 0, some 1, none, none, none, none, none, none, none, none, none, none, none] rfl (by decide +kernel) rfl rfl (Nat.le_of_ble_eq_true rfl) dX0_changesTo_5 (fun hz_2 => ?_)
  refine z_aload_n F 2 dX0_changesTo_8 rfl rfl ?_
  refine z_callVm (rest := [.int r_1]) F 7 (c_Line_size (xL X) G a_p2 a_p2_who p2_length _ rfl) hy_X7_size ml_X0_53 hd_X7_size ⟨by omega, by omega⟩ rfl [12] rfl rfl 12 rfl rfl (w_Books_changesTo G a_this a_crowd a_shelves a_numbers a_left a_result a_fillings a_spare a_rowCounts a_shelves_sorts a_shelves_sizes a_shelves_held a_shelves_elements a_shelves_elements_e a_result_who a_p2 a_p2_who size shelves_sizes shelves_elements_e result_length result_who p2_length p2_who) [none, none, none, none, none, none, none, none, none, none, none, none, some 0, none] rfl (by decide +kernel) rfl rfl (Nat.le_of_ble_eq_true rfl) dX0_changesTo_9 (fun hz_3 => ?_)
  refine z_icmp_eq F 18 dX0_changesTo_12 (by decide) hf (fun hf _ => ?_) (fun hf _ => ?_)
  · refine z_aload_n F 0 dX0_changesTo_18 rfl rfl ?_
    refine z_get F 0 0 5 inlX0 rfl rfl (by decide) fl_X0_30 rfl dX0_changesTo_19 ?_
    obtain ⟨result_length_4, hg, hf⟩ := zb1_some hf
    refine z_callVm (rest := []) F 7 (c_Line_clear (xL X) G a_result a_result_who result_length result_length_4 hg) hy_X7_clear ml_X0_136 hd_X7_clear ⟨by omega, by omega⟩ rfl [10] rfl rfl 10 rfl rfl (w_Books_changesTo G a_this a_crowd a_shelves a_numbers a_left a_result a_fillings a_spare a_rowCounts a_shelves_sorts a_shelves_sizes a_shelves_held a_shelves_elements a_shelves_elements_e a_result_who a_p2 a_p2_who size shelves_sizes shelves_elements_e result_length_4 result_who p2_length p2_who) [none, none, none, none, none, none, none, none, none, none, some 0, none, none, none] rfl (by decide +kernel) rfl rfl (Nat.le_of_ble_eq_true rfl) dX0_changesTo_22 (fun hz_5 => ?_)
    refine z_iconst F (0) dX0_changesTo_25 rfl ?_
    refine z_istore_n F [(3, .int 0), (0, .ref a_this), (1, .int x1), (2, .ref a_p2)] dX0_changesTo_26 rfl (by decide) rfl ?_
    obtain ⟨z_18, hg, hf1_19, hf2_20⟩ := zbs2_some hf
    refine z_sub [1, 2, 3, 0] rfl ?_
    refine l_Books_changesTo_27 G a_this a_crowd a_shelves a_numbers a_left a_result a_fillings a_spare a_rowCounts a_shelves_sorts a_shelves_sizes a_shelves_held a_shelves_elements a_shelves_elements_e a_result_who a_p2 a_p2_who size shelves_sizes shelves_elements_e p2_length p2_who x1 F z_18 (fun result_length_16 result_who_17 e => ?_) (fun q e => ?_) FU result_length_4 result_who 0 hg
    · have hf := hf1_19 _ _ e
      refine z_iconst F (0) dX0_changesTo_87 rfl ?_
      refine z_istore_n F [(3, .int 0), (0, .ref a_this), (2, .ref a_p2)] dX0_changesTo_88 rfl (by decide) rfl ?_
      refine z_iconst F (1) dX0_changesTo_89 rfl ?_
      refine z_istore F [(4, .int 1), (3, .int 0), (0, .ref a_this), (2, .ref a_p2)] dX0_changesTo_90 (by decide) rfl ?_
      obtain ⟨v3_31, hg, hf⟩ := zb1_some hf
      refine z_sub [2, 3, 1, 0] rfl ?_
      refine l_Books_changesTo_92 G a_this a_crowd a_shelves a_numbers a_left a_result a_fillings a_spare a_rowCounts a_shelves_sorts a_shelves_sizes a_shelves_held a_shelves_elements a_shelves_elements_e a_result_who a_p2 a_p2_who size shelves_sizes shelves_elements_e result_length_16 result_who_17 p2_length p2_who F v3_31 ?_ FU 0 1 hg
      refine z_iload_n F 0 dX0_changesTo_158 rfl rfl ?_
      have eq1 := Option.some.inj hf
      obtain ⟨ee1, eq2⟩ := Prod.mk.inj eq1
      obtain ⟨ee2, ee3⟩ := Prod.mk.inj eq2
      subst ee1
      subst ee2
      subst ee3
      exact z_iret F rfl rfl rfl rfl dX0_changesTo_159
    · have hf := hf2_20 _ e
      cases hf
      exact ⟨rfl, rfl⟩
  · refine z_bipush F (-5) dX0_changesTo_15 rfl ?_
    have eq1 := Option.some.inj hf
    obtain ⟨ee1, eq2⟩ := Prod.mk.inj eq1
    obtain ⟨ee2, ee3⟩ := Prod.mk.inj eq2
    subst ee1
    subst ee2
    subst ee3
    exact z_iret F rfl rfl rfl rfl dX0_changesTo_17

abbrev w_Books_countRows (G : zG) (a_this : Nat) (a_crowd : Nat) (a_shelves : Nat) (a_numbers : Nat) (a_left : Nat) (a_result : Nat) (a_fillings : Nat) (a_spare : Nat) (a_rowCounts : Nat) (a_rowCounts_e : Nat → Nat) (size : Int32) (rowCounts_e : Nat → (Nat → Int32)) : va_W := [(a_this, cO 0 [.ref a_crowd, .ref a_shelves, .ref a_numbers, .int size, .ref a_left, .ref a_result, .ref a_fillings, .ref a_spare, .ref a_rowCounts]), (a_rowCounts, cII G 10 (fun j => some (a_rowCounts_e j))), ((a_rowCounts_e 0), cI G 37 (rowCounts_e 0)), ((a_rowCounts_e 1), cI G 37 (rowCounts_e 1)), ((a_rowCounts_e 2), cI G 37 (rowCounts_e 2)), ((a_rowCounts_e 3), cI G 37 (rowCounts_e 3)), ((a_rowCounts_e 4), cI G 37 (rowCounts_e 4)), ((a_rowCounts_e 5), cI G 37 (rowCounts_e 5)), ((a_rowCounts_e 6), cI G 37 (rowCounts_e 6)), ((a_rowCounts_e 7), cI G 37 (rowCounts_e 7)), ((a_rowCounts_e 8), cI G 37 (rowCounts_e 8)), ((a_rowCounts_e 9), cI G 37 (rowCounts_e 9))]
def f_Books_countRows (rowCounts_e : Nat → (Nat → Int32)) : Option ((Nat → (Nat → Int32))) := (zs (rowCounts_e 0) 37 0 1 fun rowCounts_e_2 => (zb1 (f_Books_spread ((va_up rowCounts_e 0 rowCounts_e_2) 0) ((va_up rowCounts_e 0 rowCounts_e_2) 1) 0) fun rowCounts_e_5 => (zb1 (f_Books_spread ((va_up (va_up rowCounts_e 0 rowCounts_e_2) 1 rowCounts_e_5) 1) ((va_up (va_up rowCounts_e 0 rowCounts_e_2) 1 rowCounts_e_5) 2) 1) fun rowCounts_e_9 => (zb1 (f_Books_spread ((va_up (va_up (va_up rowCounts_e 0 rowCounts_e_2) 1 rowCounts_e_5) 2 rowCounts_e_9) 2) ((va_up (va_up (va_up rowCounts_e 0 rowCounts_e_2) 1 rowCounts_e_5) 2 rowCounts_e_9) 3) 2) fun rowCounts_e_13 => (zb1 (f_Books_spread ((va_up (va_up (va_up (va_up rowCounts_e 0 rowCounts_e_2) 1 rowCounts_e_5) 2 rowCounts_e_9) 3 rowCounts_e_13) 3) ((va_up (va_up (va_up (va_up rowCounts_e 0 rowCounts_e_2) 1 rowCounts_e_5) 2 rowCounts_e_9) 3 rowCounts_e_13) 4) 3) fun rowCounts_e_17 => (zb1 (f_Books_spread ((va_up (va_up (va_up (va_up (va_up rowCounts_e 0 rowCounts_e_2) 1 rowCounts_e_5) 2 rowCounts_e_9) 3 rowCounts_e_13) 4 rowCounts_e_17) 4) ((va_up (va_up (va_up (va_up (va_up rowCounts_e 0 rowCounts_e_2) 1 rowCounts_e_5) 2 rowCounts_e_9) 3 rowCounts_e_13) 4 rowCounts_e_17) 5) 4) fun rowCounts_e_21 => (zb1 (f_Books_spread ((va_up (va_up (va_up (va_up (va_up (va_up rowCounts_e 0 rowCounts_e_2) 1 rowCounts_e_5) 2 rowCounts_e_9) 3 rowCounts_e_13) 4 rowCounts_e_17) 5 rowCounts_e_21) 5) ((va_up (va_up (va_up (va_up (va_up (va_up rowCounts_e 0 rowCounts_e_2) 1 rowCounts_e_5) 2 rowCounts_e_9) 3 rowCounts_e_13) 4 rowCounts_e_17) 5 rowCounts_e_21) 6) 5) fun rowCounts_e_25 => (zb1 (f_Books_spread ((va_up (va_up (va_up (va_up (va_up (va_up (va_up rowCounts_e 0 rowCounts_e_2) 1 rowCounts_e_5) 2 rowCounts_e_9) 3 rowCounts_e_13) 4 rowCounts_e_17) 5 rowCounts_e_21) 6 rowCounts_e_25) 6) ((va_up (va_up (va_up (va_up (va_up (va_up (va_up rowCounts_e 0 rowCounts_e_2) 1 rowCounts_e_5) 2 rowCounts_e_9) 3 rowCounts_e_13) 4 rowCounts_e_17) 5 rowCounts_e_21) 6 rowCounts_e_25) 7) 6) fun rowCounts_e_29 => (zb1 (f_Books_spread ((va_up (va_up (va_up (va_up (va_up (va_up (va_up (va_up rowCounts_e 0 rowCounts_e_2) 1 rowCounts_e_5) 2 rowCounts_e_9) 3 rowCounts_e_13) 4 rowCounts_e_17) 5 rowCounts_e_21) 6 rowCounts_e_25) 7 rowCounts_e_29) 7) ((va_up (va_up (va_up (va_up (va_up (va_up (va_up (va_up rowCounts_e 0 rowCounts_e_2) 1 rowCounts_e_5) 2 rowCounts_e_9) 3 rowCounts_e_13) 4 rowCounts_e_17) 5 rowCounts_e_21) 6 rowCounts_e_25) 7 rowCounts_e_29) 8) 7) fun rowCounts_e_33 => (zb1 (f_Books_spread ((va_up (va_up (va_up (va_up (va_up (va_up (va_up (va_up (va_up rowCounts_e 0 rowCounts_e_2) 1 rowCounts_e_5) 2 rowCounts_e_9) 3 rowCounts_e_13) 4 rowCounts_e_17) 5 rowCounts_e_21) 6 rowCounts_e_25) 7 rowCounts_e_29) 8 rowCounts_e_33) 8) ((va_up (va_up (va_up (va_up (va_up (va_up (va_up (va_up (va_up rowCounts_e 0 rowCounts_e_2) 1 rowCounts_e_5) 2 rowCounts_e_9) 3 rowCounts_e_13) 4 rowCounts_e_17) 5 rowCounts_e_21) 6 rowCounts_e_25) 7 rowCounts_e_29) 8 rowCounts_e_33) 9) 8) fun rowCounts_e_37 => (some (va_up (va_up (va_up (va_up (va_up (va_up (va_up (va_up (va_up (va_up rowCounts_e 0 rowCounts_e_2) 1 rowCounts_e_5) 2 rowCounts_e_9) 3 rowCounts_e_13) 4 rowCounts_e_17) 5 rowCounts_e_21) 6 rowCounts_e_25) 7 rowCounts_e_29) 8 rowCounts_e_33) 9 rowCounts_e_37))))))))))))
set_option maxRecDepth 100000 in
set_option maxHeartbeats 4000000 in
theorem c_Books_countRows (l : Launch) (G : zG) (a_this : Nat) (a_crowd : Nat) (a_shelves : Nat) (a_numbers : Nat) (a_left : Nat) (a_result : Nat) (a_fillings : Nat) (a_spare : Nat) (a_rowCounts : Nat) (a_rowCounts_e : Nat → Nat) (size : Int32) (rowCounts_e : Nat → (Nat → Int32)) (o_rowCounts_e : Nat → (Nat → Int32)) (hf : f_Books_countRows rowCounts_e = some o_rowCounts_e) : zM l yX0_countRows cX0_countRows 2 none 1 24 G [.ref a_this] (w_Books_countRows G a_this a_crowd a_shelves a_numbers a_left a_result a_fillings a_spare a_rowCounts a_rowCounts_e size rowCounts_e) (none) (w_Books_countRows G a_this a_crowd a_shelves a_numbers a_left a_result a_fillings a_spare a_rowCounts a_rowCounts_e size o_rowCounts_e) := by
  refine zM.of [(0, .ref a_this)] (own := RX0) rfl (by decide +kernel) (Nat.le_of_ble_eq_true rfl) rfl rfl fun X hX F => ?_
  subst hX
  replace hf := (f_Books_countRows.eq_1 ..).symm.trans hf
  refine z_aload_n F 0 dX0_countRows_0 rfl rfl ?_
  refine z_get F 0 0 8 inlX0 rfl rfl (by decide) fl_X0_41 rfl dX0_countRows_1 ?_
  refine z_iconst F (0) dX0_countRows_4 rfl ?_
  refine z_aaldc F 1 5 0 rfl rfl rfl (by unfold vp_in; decide) rfl dX0_countRows_5 ?_
  refine z_iconst F (0) dX0_countRows_6 rfl ?_
  refine z_iconst F (1) dX0_countRows_7 rfl ?_
  refine z_iast F (2 + 1 * 0) (fun rowCounts_e_2 => (w_Books_countRows G a_this a_crowd a_shelves a_numbers a_left a_result a_fillings a_spare a_rowCounts a_rowCounts_e size (va_up rowCounts_e 0 rowCounts_e_2))) rfl hf (fun _ => rfl) dX0_countRows_8 (fun rowCounts_e_2 hf => ?_)
  refine z_iconst F (1) dX0_countRows_9 rfl ?_
  refine z_istore_n F [(1, .int 1), (0, .ref a_this)] dX0_countRows_10 rfl (by decide) rfl ?_
  refine z_iload_n F 0 dX0_countRows_11 rfl rfl ?_
  refine z_bipush F (9) dX0_countRows_12 rfl ?_
  refine z_icmp_gt_f F 43 dX0_countRows_14 (by decide) (by decide) ?_
  refine z_aload_n F 1 dX0_countRows_17 rfl rfl ?_
  refine z_get F 0 0 8 inlX0 rfl rfl (by decide) fl_X0_41 rfl dX0_countRows_18 ?_
  refine z_iload_n F 0 dX0_countRows_21 rfl rfl ?_
  refine z_iconst F (1) dX0_countRows_22 rfl ?_
  refine z_isub F dX0_countRows_23 ?_
  refine z_top (y := 0) rfl ?_
  refine z_aaldc F 1 5 0 rfl rfl rfl (by unfold vp_in; decide) rfl dX0_countRows_24 ?_
  refine z_aload_n F 1 dX0_countRows_25 rfl rfl ?_
  refine z_get F 0 0 8 inlX0 rfl rfl (by decide) fl_X0_41 rfl dX0_countRows_26 ?_
  refine z_iload_n F 0 dX0_countRows_29 rfl rfl ?_
  refine z_aaldc F 1 5 1 rfl rfl rfl (by unfold vp_in; decide) rfl dX0_countRows_30 ?_
  refine z_iload_n F 0 dX0_countRows_31 rfl rfl ?_
  refine z_iconst F (1) dX0_countRows_32 rfl ?_
  refine z_isub F dX0_countRows_33 ?_
  refine z_top (y := 0) rfl ?_
  obtain ⟨rowCounts_e_5, hg, hf⟩ := zb1_some hf
  refine z_callSm (rest := []) F (c_Books_spread (xL X) G (a_rowCounts_e 0) (a_rowCounts_e 1) ((va_up rowCounts_e 0 rowCounts_e_2) 0) ((va_up rowCounts_e 0 rowCounts_e_2) 1) 0 rowCounts_e_5 hg) hy_X0_spread ml_X0_125 hd_X0_spread ⟨by omega, by omega⟩ rfl [2, 3] rfl rfl (w_Books_countRows G a_this a_crowd a_shelves a_numbers a_left a_result a_fillings a_spare a_rowCounts a_rowCounts_e size (va_up (va_up rowCounts_e 0 rowCounts_e_2) 1 rowCounts_e_5)) [none, none, some 0, some 1, none, none, none, none, none, none, none, none] rfl (by decide +kernel) rfl rfl (Nat.le_of_ble_eq_true rfl) dX0_countRows_34 (fun hz_6 => ?_)
  refine z_iinc F [(1, .int 2), (0, .ref a_this)] dX0_countRows_37 0 rfl rfl (by decide) rfl ?_
  refine z_goto F 11 dX0_countRows_40 (by decide) ?_
  refine z_iload_n F 0 dX0_countRows_11 rfl rfl ?_
  refine z_bipush F (9) dX0_countRows_12 rfl ?_
  refine z_icmp_gt_f F 43 dX0_countRows_14 (by decide) (by decide) ?_
  refine z_aload_n F 1 dX0_countRows_17 rfl rfl ?_
  refine z_get F 0 0 8 inlX0 rfl rfl (by decide) fl_X0_41 rfl dX0_countRows_18 ?_
  refine z_iload_n F 0 dX0_countRows_21 rfl rfl ?_
  refine z_iconst F (1) dX0_countRows_22 rfl ?_
  refine z_isub F dX0_countRows_23 ?_
  refine z_top (y := 1) rfl ?_
  refine z_aaldc F 1 5 1 rfl rfl rfl (by unfold vp_in; decide) rfl dX0_countRows_24 ?_
  refine z_aload_n F 1 dX0_countRows_25 rfl rfl ?_
  refine z_get F 0 0 8 inlX0 rfl rfl (by decide) fl_X0_41 rfl dX0_countRows_26 ?_
  refine z_iload_n F 0 dX0_countRows_29 rfl rfl ?_
  refine z_aaldc F 1 5 2 rfl rfl rfl (by unfold vp_in; decide) rfl dX0_countRows_30 ?_
  refine z_iload_n F 0 dX0_countRows_31 rfl rfl ?_
  refine z_iconst F (1) dX0_countRows_32 rfl ?_
  refine z_isub F dX0_countRows_33 ?_
  refine z_top (y := 1) rfl ?_
  obtain ⟨rowCounts_e_9, hg, hf⟩ := zb1_some hf
  refine z_callSm (rest := []) F (c_Books_spread (xL X) G (a_rowCounts_e 1) (a_rowCounts_e 2) ((va_up (va_up rowCounts_e 0 rowCounts_e_2) 1 rowCounts_e_5) 1) ((va_up (va_up rowCounts_e 0 rowCounts_e_2) 1 rowCounts_e_5) 2) 1 rowCounts_e_9 hg) hy_X0_spread ml_X0_125 hd_X0_spread ⟨by omega, by omega⟩ rfl [3, 4] rfl rfl (w_Books_countRows G a_this a_crowd a_shelves a_numbers a_left a_result a_fillings a_spare a_rowCounts a_rowCounts_e size (va_up (va_up (va_up rowCounts_e 0 rowCounts_e_2) 1 rowCounts_e_5) 2 rowCounts_e_9)) [none, none, none, some 0, some 1, none, none, none, none, none, none, none] rfl (by decide +kernel) rfl rfl (Nat.le_of_ble_eq_true rfl) dX0_countRows_34 (fun hz_10 => ?_)
  refine z_iinc F [(1, .int 3), (0, .ref a_this)] dX0_countRows_37 0 rfl rfl (by decide) rfl ?_
  refine z_goto F 11 dX0_countRows_40 (by decide) ?_
  refine z_iload_n F 0 dX0_countRows_11 rfl rfl ?_
  refine z_bipush F (9) dX0_countRows_12 rfl ?_
  refine z_icmp_gt_f F 43 dX0_countRows_14 (by decide) (by decide) ?_
  refine z_aload_n F 1 dX0_countRows_17 rfl rfl ?_
  refine z_get F 0 0 8 inlX0 rfl rfl (by decide) fl_X0_41 rfl dX0_countRows_18 ?_
  refine z_iload_n F 0 dX0_countRows_21 rfl rfl ?_
  refine z_iconst F (1) dX0_countRows_22 rfl ?_
  refine z_isub F dX0_countRows_23 ?_
  refine z_top (y := 2) rfl ?_
  refine z_aaldc F 1 5 2 rfl rfl rfl (by unfold vp_in; decide) rfl dX0_countRows_24 ?_
  refine z_aload_n F 1 dX0_countRows_25 rfl rfl ?_
  refine z_get F 0 0 8 inlX0 rfl rfl (by decide) fl_X0_41 rfl dX0_countRows_26 ?_
  refine z_iload_n F 0 dX0_countRows_29 rfl rfl ?_
  refine z_aaldc F 1 5 3 rfl rfl rfl (by unfold vp_in; decide) rfl dX0_countRows_30 ?_
  refine z_iload_n F 0 dX0_countRows_31 rfl rfl ?_
  refine z_iconst F (1) dX0_countRows_32 rfl ?_
  refine z_isub F dX0_countRows_33 ?_
  refine z_top (y := 2) rfl ?_
  obtain ⟨rowCounts_e_13, hg, hf⟩ := zb1_some hf
  refine z_callSm (rest := []) F (c_Books_spread (xL X) G (a_rowCounts_e 2) (a_rowCounts_e 3) ((va_up (va_up (va_up rowCounts_e 0 rowCounts_e_2) 1 rowCounts_e_5) 2 rowCounts_e_9) 2) ((va_up (va_up (va_up rowCounts_e 0 rowCounts_e_2) 1 rowCounts_e_5) 2 rowCounts_e_9) 3) 2 rowCounts_e_13 hg) hy_X0_spread ml_X0_125 hd_X0_spread ⟨by omega, by omega⟩ rfl [4, 5] rfl rfl (w_Books_countRows G a_this a_crowd a_shelves a_numbers a_left a_result a_fillings a_spare a_rowCounts a_rowCounts_e size (va_up (va_up (va_up (va_up rowCounts_e 0 rowCounts_e_2) 1 rowCounts_e_5) 2 rowCounts_e_9) 3 rowCounts_e_13)) [none, none, none, none, some 0, some 1, none, none, none, none, none, none] rfl (by decide +kernel) rfl rfl (Nat.le_of_ble_eq_true rfl) dX0_countRows_34 (fun hz_14 => ?_)
  refine z_iinc F [(1, .int 4), (0, .ref a_this)] dX0_countRows_37 0 rfl rfl (by decide) rfl ?_
  refine z_goto F 11 dX0_countRows_40 (by decide) ?_
  refine z_iload_n F 0 dX0_countRows_11 rfl rfl ?_
  refine z_bipush F (9) dX0_countRows_12 rfl ?_
  refine z_icmp_gt_f F 43 dX0_countRows_14 (by decide) (by decide) ?_
  refine z_aload_n F 1 dX0_countRows_17 rfl rfl ?_
  refine z_get F 0 0 8 inlX0 rfl rfl (by decide) fl_X0_41 rfl dX0_countRows_18 ?_
  refine z_iload_n F 0 dX0_countRows_21 rfl rfl ?_
  refine z_iconst F (1) dX0_countRows_22 rfl ?_
  refine z_isub F dX0_countRows_23 ?_
  refine z_top (y := 3) rfl ?_
  refine z_aaldc F 1 5 3 rfl rfl rfl (by unfold vp_in; decide) rfl dX0_countRows_24 ?_
  refine z_aload_n F 1 dX0_countRows_25 rfl rfl ?_
  refine z_get F 0 0 8 inlX0 rfl rfl (by decide) fl_X0_41 rfl dX0_countRows_26 ?_
  refine z_iload_n F 0 dX0_countRows_29 rfl rfl ?_
  refine z_aaldc F 1 5 4 rfl rfl rfl (by unfold vp_in; decide) rfl dX0_countRows_30 ?_
  refine z_iload_n F 0 dX0_countRows_31 rfl rfl ?_
  refine z_iconst F (1) dX0_countRows_32 rfl ?_
  refine z_isub F dX0_countRows_33 ?_
  refine z_top (y := 3) rfl ?_
  obtain ⟨rowCounts_e_17, hg, hf⟩ := zb1_some hf
  refine z_callSm (rest := []) F (c_Books_spread (xL X) G (a_rowCounts_e 3) (a_rowCounts_e 4) ((va_up (va_up (va_up (va_up rowCounts_e 0 rowCounts_e_2) 1 rowCounts_e_5) 2 rowCounts_e_9) 3 rowCounts_e_13) 3) ((va_up (va_up (va_up (va_up rowCounts_e 0 rowCounts_e_2) 1 rowCounts_e_5) 2 rowCounts_e_9) 3 rowCounts_e_13) 4) 3 rowCounts_e_17 hg) hy_X0_spread ml_X0_125 hd_X0_spread ⟨by omega, by omega⟩ rfl [5, 6] rfl rfl (w_Books_countRows G a_this a_crowd a_shelves a_numbers a_left a_result a_fillings a_spare a_rowCounts a_rowCounts_e size (va_up (va_up (va_up (va_up (va_up rowCounts_e 0 rowCounts_e_2) 1 rowCounts_e_5) 2 rowCounts_e_9) 3 rowCounts_e_13) 4 rowCounts_e_17)) [none, none, none, none, none, some 0, some 1, none, none, none, none, none] rfl (by decide +kernel) rfl rfl (Nat.le_of_ble_eq_true rfl) dX0_countRows_34 (fun hz_18 => ?_)
  refine z_iinc F [(1, .int 5), (0, .ref a_this)] dX0_countRows_37 0 rfl rfl (by decide) rfl ?_
  refine z_goto F 11 dX0_countRows_40 (by decide) ?_
  refine z_iload_n F 0 dX0_countRows_11 rfl rfl ?_
  refine z_bipush F (9) dX0_countRows_12 rfl ?_
  refine z_icmp_gt_f F 43 dX0_countRows_14 (by decide) (by decide) ?_
  refine z_aload_n F 1 dX0_countRows_17 rfl rfl ?_
  refine z_get F 0 0 8 inlX0 rfl rfl (by decide) fl_X0_41 rfl dX0_countRows_18 ?_
  refine z_iload_n F 0 dX0_countRows_21 rfl rfl ?_
  refine z_iconst F (1) dX0_countRows_22 rfl ?_
  refine z_isub F dX0_countRows_23 ?_
  refine z_top (y := 4) rfl ?_
  refine z_aaldc F 1 5 4 rfl rfl rfl (by unfold vp_in; decide) rfl dX0_countRows_24 ?_
  refine z_aload_n F 1 dX0_countRows_25 rfl rfl ?_
  refine z_get F 0 0 8 inlX0 rfl rfl (by decide) fl_X0_41 rfl dX0_countRows_26 ?_
  refine z_iload_n F 0 dX0_countRows_29 rfl rfl ?_
  refine z_aaldc F 1 5 5 rfl rfl rfl (by unfold vp_in; decide) rfl dX0_countRows_30 ?_
  refine z_iload_n F 0 dX0_countRows_31 rfl rfl ?_
  refine z_iconst F (1) dX0_countRows_32 rfl ?_
  refine z_isub F dX0_countRows_33 ?_
  refine z_top (y := 4) rfl ?_
  obtain ⟨rowCounts_e_21, hg, hf⟩ := zb1_some hf
  refine z_callSm (rest := []) F (c_Books_spread (xL X) G (a_rowCounts_e 4) (a_rowCounts_e 5) ((va_up (va_up (va_up (va_up (va_up rowCounts_e 0 rowCounts_e_2) 1 rowCounts_e_5) 2 rowCounts_e_9) 3 rowCounts_e_13) 4 rowCounts_e_17) 4) ((va_up (va_up (va_up (va_up (va_up rowCounts_e 0 rowCounts_e_2) 1 rowCounts_e_5) 2 rowCounts_e_9) 3 rowCounts_e_13) 4 rowCounts_e_17) 5) 4 rowCounts_e_21 hg) hy_X0_spread ml_X0_125 hd_X0_spread ⟨by omega, by omega⟩ rfl [6, 7] rfl rfl (w_Books_countRows G a_this a_crowd a_shelves a_numbers a_left a_result a_fillings a_spare a_rowCounts a_rowCounts_e size (va_up (va_up (va_up (va_up (va_up (va_up rowCounts_e 0 rowCounts_e_2) 1 rowCounts_e_5) 2 rowCounts_e_9) 3 rowCounts_e_13) 4 rowCounts_e_17) 5 rowCounts_e_21)) [none, none, none, none, none, none, some 0, some 1, none, none, none, none] rfl (by decide +kernel) rfl rfl (Nat.le_of_ble_eq_true rfl) dX0_countRows_34 (fun hz_22 => ?_)
  refine z_iinc F [(1, .int 6), (0, .ref a_this)] dX0_countRows_37 0 rfl rfl (by decide) rfl ?_
  refine z_goto F 11 dX0_countRows_40 (by decide) ?_
  refine z_iload_n F 0 dX0_countRows_11 rfl rfl ?_
  refine z_bipush F (9) dX0_countRows_12 rfl ?_
  refine z_icmp_gt_f F 43 dX0_countRows_14 (by decide) (by decide) ?_
  refine z_aload_n F 1 dX0_countRows_17 rfl rfl ?_
  refine z_get F 0 0 8 inlX0 rfl rfl (by decide) fl_X0_41 rfl dX0_countRows_18 ?_
  refine z_iload_n F 0 dX0_countRows_21 rfl rfl ?_
  refine z_iconst F (1) dX0_countRows_22 rfl ?_
  refine z_isub F dX0_countRows_23 ?_
  refine z_top (y := 5) rfl ?_
  refine z_aaldc F 1 5 5 rfl rfl rfl (by unfold vp_in; decide) rfl dX0_countRows_24 ?_
  refine z_aload_n F 1 dX0_countRows_25 rfl rfl ?_
  refine z_get F 0 0 8 inlX0 rfl rfl (by decide) fl_X0_41 rfl dX0_countRows_26 ?_
  refine z_iload_n F 0 dX0_countRows_29 rfl rfl ?_
  refine z_aaldc F 1 5 6 rfl rfl rfl (by unfold vp_in; decide) rfl dX0_countRows_30 ?_
  refine z_iload_n F 0 dX0_countRows_31 rfl rfl ?_
  refine z_iconst F (1) dX0_countRows_32 rfl ?_
  refine z_isub F dX0_countRows_33 ?_
  refine z_top (y := 5) rfl ?_
  obtain ⟨rowCounts_e_25, hg, hf⟩ := zb1_some hf
  refine z_callSm (rest := []) F (c_Books_spread (xL X) G (a_rowCounts_e 5) (a_rowCounts_e 6) ((va_up (va_up (va_up (va_up (va_up (va_up rowCounts_e 0 rowCounts_e_2) 1 rowCounts_e_5) 2 rowCounts_e_9) 3 rowCounts_e_13) 4 rowCounts_e_17) 5 rowCounts_e_21) 5) ((va_up (va_up (va_up (va_up (va_up (va_up rowCounts_e 0 rowCounts_e_2) 1 rowCounts_e_5) 2 rowCounts_e_9) 3 rowCounts_e_13) 4 rowCounts_e_17) 5 rowCounts_e_21) 6) 5 rowCounts_e_25 hg) hy_X0_spread ml_X0_125 hd_X0_spread ⟨by omega, by omega⟩ rfl [7, 8] rfl rfl (w_Books_countRows G a_this a_crowd a_shelves a_numbers a_left a_result a_fillings a_spare a_rowCounts a_rowCounts_e size (va_up (va_up (va_up (va_up (va_up (va_up (va_up rowCounts_e 0 rowCounts_e_2) 1 rowCounts_e_5) 2 rowCounts_e_9) 3 rowCounts_e_13) 4 rowCounts_e_17) 5 rowCounts_e_21) 6 rowCounts_e_25)) [none, none, none, none, none, none, none, some 0, some 1, none, none, none] rfl (by decide +kernel) rfl rfl (Nat.le_of_ble_eq_true rfl) dX0_countRows_34 (fun hz_26 => ?_)
  refine z_iinc F [(1, .int 7), (0, .ref a_this)] dX0_countRows_37 0 rfl rfl (by decide) rfl ?_
  refine z_goto F 11 dX0_countRows_40 (by decide) ?_
  refine z_iload_n F 0 dX0_countRows_11 rfl rfl ?_
  refine z_bipush F (9) dX0_countRows_12 rfl ?_
  refine z_icmp_gt_f F 43 dX0_countRows_14 (by decide) (by decide) ?_
  refine z_aload_n F 1 dX0_countRows_17 rfl rfl ?_
  refine z_get F 0 0 8 inlX0 rfl rfl (by decide) fl_X0_41 rfl dX0_countRows_18 ?_
  refine z_iload_n F 0 dX0_countRows_21 rfl rfl ?_
  refine z_iconst F (1) dX0_countRows_22 rfl ?_
  refine z_isub F dX0_countRows_23 ?_
  refine z_top (y := 6) rfl ?_
  refine z_aaldc F 1 5 6 rfl rfl rfl (by unfold vp_in; decide) rfl dX0_countRows_24 ?_
  refine z_aload_n F 1 dX0_countRows_25 rfl rfl ?_
  refine z_get F 0 0 8 inlX0 rfl rfl (by decide) fl_X0_41 rfl dX0_countRows_26 ?_
  refine z_iload_n F 0 dX0_countRows_29 rfl rfl ?_
  refine z_aaldc F 1 5 7 rfl rfl rfl (by unfold vp_in; decide) rfl dX0_countRows_30 ?_
  refine z_iload_n F 0 dX0_countRows_31 rfl rfl ?_
  refine z_iconst F (1) dX0_countRows_32 rfl ?_
  refine z_isub F dX0_countRows_33 ?_
  refine z_top (y := 6) rfl ?_
  obtain ⟨rowCounts_e_29, hg, hf⟩ := zb1_some hf
  refine z_callSm (rest := []) F (c_Books_spread (xL X) G (a_rowCounts_e 6) (a_rowCounts_e 7) ((va_up (va_up (va_up (va_up (va_up (va_up (va_up rowCounts_e 0 rowCounts_e_2) 1 rowCounts_e_5) 2 rowCounts_e_9) 3 rowCounts_e_13) 4 rowCounts_e_17) 5 rowCounts_e_21) 6 rowCounts_e_25) 6) ((va_up (va_up (va_up (va_up (va_up (va_up (va_up rowCounts_e 0 rowCounts_e_2) 1 rowCounts_e_5) 2 rowCounts_e_9) 3 rowCounts_e_13) 4 rowCounts_e_17) 5 rowCounts_e_21) 6 rowCounts_e_25) 7) 6 rowCounts_e_29 hg) hy_X0_spread ml_X0_125 hd_X0_spread ⟨by omega, by omega⟩ rfl [8, 9] rfl rfl (w_Books_countRows G a_this a_crowd a_shelves a_numbers a_left a_result a_fillings a_spare a_rowCounts a_rowCounts_e size (va_up (va_up (va_up (va_up (va_up (va_up (va_up (va_up rowCounts_e 0 rowCounts_e_2) 1 rowCounts_e_5) 2 rowCounts_e_9) 3 rowCounts_e_13) 4 rowCounts_e_17) 5 rowCounts_e_21) 6 rowCounts_e_25) 7 rowCounts_e_29)) [none, none, none, none, none, none, none, none, some 0, some 1, none, none] rfl (by decide +kernel) rfl rfl (Nat.le_of_ble_eq_true rfl) dX0_countRows_34 (fun hz_30 => ?_)
  refine z_iinc F [(1, .int 8), (0, .ref a_this)] dX0_countRows_37 0 rfl rfl (by decide) rfl ?_
  refine z_goto F 11 dX0_countRows_40 (by decide) ?_
  refine z_iload_n F 0 dX0_countRows_11 rfl rfl ?_
  refine z_bipush F (9) dX0_countRows_12 rfl ?_
  refine z_icmp_gt_f F 43 dX0_countRows_14 (by decide) (by decide) ?_
  refine z_aload_n F 1 dX0_countRows_17 rfl rfl ?_
  refine z_get F 0 0 8 inlX0 rfl rfl (by decide) fl_X0_41 rfl dX0_countRows_18 ?_
  refine z_iload_n F 0 dX0_countRows_21 rfl rfl ?_
  refine z_iconst F (1) dX0_countRows_22 rfl ?_
  refine z_isub F dX0_countRows_23 ?_
  refine z_top (y := 7) rfl ?_
  refine z_aaldc F 1 5 7 rfl rfl rfl (by unfold vp_in; decide) rfl dX0_countRows_24 ?_
  refine z_aload_n F 1 dX0_countRows_25 rfl rfl ?_
  refine z_get F 0 0 8 inlX0 rfl rfl (by decide) fl_X0_41 rfl dX0_countRows_26 ?_
  refine z_iload_n F 0 dX0_countRows_29 rfl rfl ?_
  refine z_aaldc F 1 5 8 rfl rfl rfl (by unfold vp_in; decide) rfl dX0_countRows_30 ?_
  refine z_iload_n F 0 dX0_countRows_31 rfl rfl ?_
  refine z_iconst F (1) dX0_countRows_32 rfl ?_
  refine z_isub F dX0_countRows_33 ?_
  refine z_top (y := 7) rfl ?_
  obtain ⟨rowCounts_e_33, hg, hf⟩ := zb1_some hf
  refine z_callSm (rest := []) F (c_Books_spread (xL X) G (a_rowCounts_e 7) (a_rowCounts_e 8) ((va_up (va_up (va_up (va_up (va_up (va_up (va_up (va_up rowCounts_e 0 rowCounts_e_2) 1 rowCounts_e_5) 2 rowCounts_e_9) 3 rowCounts_e_13) 4 rowCounts_e_17) 5 rowCounts_e_21) 6 rowCounts_e_25) 7 rowCounts_e_29) 7) ((va_up (va_up (va_up (va_up (va_up (va_up (va_up (va_up rowCounts_e 0 rowCounts_e_2) 1 rowCounts_e_5) 2 rowCounts_e_9) 3 rowCounts_e_13) 4 rowCounts_e_17) 5 rowCounts_e_21) 6 rowCounts_e_25) 7 rowCounts_e_29) 8) 7 rowCounts_e_33 hg) hy_X0_spread ml_X0_125 hd_X0_spread ⟨by omega, by omega⟩ rfl [9, 10] rfl rfl (w_Books_countRows G a_this a_crowd a_shelves a_numbers a_left a_result a_fillings a_spare a_rowCounts a_rowCounts_e size (va_up (va_up (va_up (va_up (va_up (va_up (va_up (va_up (va_up rowCounts_e 0 rowCounts_e_2) 1 rowCounts_e_5) 2 rowCounts_e_9) 3 rowCounts_e_13) 4 rowCounts_e_17) 5 rowCounts_e_21) 6 rowCounts_e_25) 7 rowCounts_e_29) 8 rowCounts_e_33)) [none, none, none, none, none, none, none, none, none, some 0, some 1, none] rfl (by decide +kernel) rfl rfl (Nat.le_of_ble_eq_true rfl) dX0_countRows_34 (fun hz_34 => ?_)
  refine z_iinc F [(1, .int 9), (0, .ref a_this)] dX0_countRows_37 0 rfl rfl (by decide) rfl ?_
  refine z_goto F 11 dX0_countRows_40 (by decide) ?_
  refine z_iload_n F 0 dX0_countRows_11 rfl rfl ?_
  refine z_bipush F (9) dX0_countRows_12 rfl ?_
  refine z_icmp_gt_f F 43 dX0_countRows_14 (by decide) (by decide) ?_
  refine z_aload_n F 1 dX0_countRows_17 rfl rfl ?_
  refine z_get F 0 0 8 inlX0 rfl rfl (by decide) fl_X0_41 rfl dX0_countRows_18 ?_
  refine z_iload_n F 0 dX0_countRows_21 rfl rfl ?_
  refine z_iconst F (1) dX0_countRows_22 rfl ?_
  refine z_isub F dX0_countRows_23 ?_
  refine z_top (y := 8) rfl ?_
  refine z_aaldc F 1 5 8 rfl rfl rfl (by unfold vp_in; decide) rfl dX0_countRows_24 ?_
  refine z_aload_n F 1 dX0_countRows_25 rfl rfl ?_
  refine z_get F 0 0 8 inlX0 rfl rfl (by decide) fl_X0_41 rfl dX0_countRows_26 ?_
  refine z_iload_n F 0 dX0_countRows_29 rfl rfl ?_
  refine z_aaldc F 1 5 9 rfl rfl rfl (by unfold vp_in; decide) rfl dX0_countRows_30 ?_
  refine z_iload_n F 0 dX0_countRows_31 rfl rfl ?_
  refine z_iconst F (1) dX0_countRows_32 rfl ?_
  refine z_isub F dX0_countRows_33 ?_
  refine z_top (y := 8) rfl ?_
  obtain ⟨rowCounts_e_37, hg, hf⟩ := zb1_some hf
  refine z_callSm (rest := []) F (c_Books_spread (xL X) G (a_rowCounts_e 8) (a_rowCounts_e 9) ((va_up (va_up (va_up (va_up (va_up (va_up (va_up (va_up (va_up rowCounts_e 0 rowCounts_e_2) 1 rowCounts_e_5) 2 rowCounts_e_9) 3 rowCounts_e_13) 4 rowCounts_e_17) 5 rowCounts_e_21) 6 rowCounts_e_25) 7 rowCounts_e_29) 8 rowCounts_e_33) 8) ((va_up (va_up (va_up (va_up (va_up (va_up (va_up (va_up (va_up rowCounts_e 0 rowCounts_e_2) 1 rowCounts_e_5) 2 rowCounts_e_9) 3 rowCounts_e_13) 4 rowCounts_e_17) 5 rowCounts_e_21) 6 rowCounts_e_25) 7 rowCounts_e_29) 8 rowCounts_e_33) 9) 8 rowCounts_e_37 hg) hy_X0_spread ml_X0_125 hd_X0_spread ⟨by omega, by omega⟩ rfl [10, 11] rfl rfl (w_Books_countRows G a_this a_crowd a_shelves a_numbers a_left a_result a_fillings a_spare a_rowCounts a_rowCounts_e size (va_up (va_up (va_up (va_up (va_up (va_up (va_up (va_up (va_up (va_up rowCounts_e 0 rowCounts_e_2) 1 rowCounts_e_5) 2 rowCounts_e_9) 3 rowCounts_e_13) 4 rowCounts_e_17) 5 rowCounts_e_21) 6 rowCounts_e_25) 7 rowCounts_e_29) 8 rowCounts_e_33) 9 rowCounts_e_37)) [none, none, none, none, none, none, none, none, none, none, some 0, some 1] rfl (by decide +kernel) rfl rfl (Nat.le_of_ble_eq_true rfl) dX0_countRows_34 (fun hz_38 => ?_)
  refine z_iinc F [(1, .int 10), (0, .ref a_this)] dX0_countRows_37 0 rfl rfl (by decide) rfl ?_
  refine z_goto F 11 dX0_countRows_40 (by decide) ?_
  refine z_iload_n F 0 dX0_countRows_11 rfl rfl ?_
  refine z_bipush F (9) dX0_countRows_12 rfl ?_
  refine z_icmp_gt_t F 43 dX0_countRows_14 (by decide) (by decide) ?_
  have ee1 := Option.some.inj hf
  subst ee1
  exact z_vret F rfl rfl rfl dX0_countRows_43

