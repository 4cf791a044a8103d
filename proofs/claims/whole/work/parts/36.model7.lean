/-! by program (wip/whole/gen.py): pure functions and contracts -/
theorem dX12_image_0 : decode cX12_image 0 = .ok (.aload_n 0, 1) := by decide +kernel
theorem dX12_image_1 : decode cX12_image 1 = .ok (.iconst 1, 1) := by decide +kernel
theorem dX12_image_2 : decode cX12_image 2 = .ok (.putfield 323, 3) := by decide +kernel
theorem dX12_image_5 : decode cX12_image 5 = .ok (.aload_n 0, 1) := by decide +kernel
theorem dX12_image_6 : decode cX12_image 6 = .ok (.aload_n 0, 1) := by decide +kernel
theorem dX12_image_7 : decode cX12_image 7 = .ok (.getfield 100, 3) := by decide +kernel
theorem dX12_image_10 : decode cX12_image 10 = .ok (.putfield 327, 3) := by decide +kernel
theorem dX12_image_13 : decode cX12_image 13 = .ok (.iconst 0, 1) := by decide +kernel
theorem dX12_image_14 : decode cX12_image 14 = .ok (.istore_n 1, 1) := by decide +kernel
theorem dX12_image_15 : decode cX12_image 15 = .ok (.iload_n 1, 1) := by decide +kernel
theorem dX12_image_16 : decode cX12_image 16 = .ok (.aload_n 0, 1) := by decide +kernel
theorem dX12_image_17 : decode cX12_image 17 = .ok (.getfield 100, 3) := by decide +kernel
theorem dX12_image_20 : decode cX12_image 20 = .ok (.if_icmp .ge 21, 3) := by decide +kernel
theorem dX12_image_23 : decode cX12_image 23 = .ok (.aload_n 0, 1) := by decide +kernel
theorem dX12_image_24 : decode cX12_image 24 = .ok (.getfield 67, 3) := by decide +kernel
theorem dX12_image_27 : decode cX12_image 27 = .ok (.iload_n 1, 1) := by decide +kernel
theorem dX12_image_28 : decode cX12_image 28 = .ok (.aload_n 0, 1) := by decide +kernel
theorem dX12_image_29 : decode cX12_image 29 = .ok (.getfield 31, 3) := by decide +kernel
theorem dX12_image_32 : decode cX12_image 32 = .ok (.iload_n 1, 1) := by decide +kernel
theorem dX12_image_33 : decode cX12_image 33 = .ok (.iaload, 1) := by decide +kernel
theorem dX12_image_34 : decode cX12_image 34 = .ok (.iastore, 1) := by decide +kernel
theorem dX12_image_35 : decode cX12_image 35 = .ok (.iinc 1 1, 3) := by decide +kernel
theorem dX12_image_38 : decode cX12_image 38 = .ok (.goto (-23), 3) := by decide +kernel
theorem dX12_image_41 : decode cX12_image 41 = .ok (.aload_n 0, 1) := by decide +kernel
theorem dX12_image_42 : decode cX12_image 42 = .ok (.getfield 100, 3) := by decide +kernel
theorem dX12_image_45 : decode cX12_image 45 = .ok (.ireturn, 1) := by decide +kernel
theorem dX12_back_0 : decode cX12_back 0 = .ok (.aload_n 0, 1) := by decide +kernel
theorem dX12_back_1 : decode cX12_back 1 = .ok (.getfield 323, 3) := by decide +kernel
theorem dX12_back_4 : decode cX12_back 4 = .ok (.ifCond .ne 6, 3) := by decide +kernel
theorem dX12_back_7 : decode cX12_back 7 = .ok (.bipush (-5), 2) := by decide +kernel
theorem dX12_back_9 : decode cX12_back 9 = .ok (.ireturn, 1) := by decide +kernel
theorem dX12_back_10 : decode cX12_back 10 = .ok (.aload_n 0, 1) := by decide +kernel
theorem dX12_back_11 : decode cX12_back 11 = .ok (.aload_n 0, 1) := by decide +kernel
theorem dX12_back_12 : decode cX12_back 12 = .ok (.getfield 327, 3) := by decide +kernel
theorem dX12_back_15 : decode cX12_back 15 = .ok (.putfield 100, 3) := by decide +kernel
theorem dX12_back_18 : decode cX12_back 18 = .ok (.iconst 0, 1) := by decide +kernel
theorem dX12_back_19 : decode cX12_back 19 = .ok (.istore_n 1, 1) := by decide +kernel
theorem dX12_back_20 : decode cX12_back 20 = .ok (.iload_n 1, 1) := by decide +kernel
theorem dX12_back_21 : decode cX12_back 21 = .ok (.aload_n 0, 1) := by decide +kernel
theorem dX12_back_22 : decode cX12_back 22 = .ok (.getfield 100, 3) := by decide +kernel
theorem dX12_back_25 : decode cX12_back 25 = .ok (.if_icmp .ge 21, 3) := by decide +kernel
theorem dX12_back_28 : decode cX12_back 28 = .ok (.aload_n 0, 1) := by decide +kernel
theorem dX12_back_29 : decode cX12_back 29 = .ok (.getfield 31, 3) := by decide +kernel
theorem dX12_back_32 : decode cX12_back 32 = .ok (.iload_n 1, 1) := by decide +kernel
theorem dX12_back_33 : decode cX12_back 33 = .ok (.aload_n 0, 1) := by decide +kernel
theorem dX12_back_34 : decode cX12_back 34 = .ok (.getfield 67, 3) := by decide +kernel
theorem dX12_back_37 : decode cX12_back 37 = .ok (.iload_n 1, 1) := by decide +kernel
theorem dX12_back_38 : decode cX12_back 38 = .ok (.iaload, 1) := by decide +kernel
theorem dX12_back_39 : decode cX12_back 39 = .ok (.iastore, 1) := by decide +kernel
theorem dX12_back_40 : decode cX12_back 40 = .ok (.iinc 1 1, 3) := by decide +kernel
theorem dX12_back_43 : decode cX12_back 43 = .ok (.goto (-23), 3) := by decide +kernel
theorem dX12_back_46 : decode cX12_back 46 = .ok (.aload_n 0, 1) := by decide +kernel
theorem dX12_back_47 : decode cX12_back 47 = .ok (.getfield 100, 3) := by decide +kernel
theorem dX12_back_50 : decode cX12_back 50 = .ok (.ireturn, 1) := by decide +kernel
theorem dX12_isBody_0 : decode cX12_isBody 0 = .ok (.iload_n 1, 1) := by decide +kernel
theorem dX12_isBody_1 : decode cX12_isBody 1 = .ok (.i2l, 1) := by decide +kernel
theorem dX12_isBody_2 : decode cX12_isBody 2 = .ok (.lconst 0, 1) := by decide +kernel
theorem dX12_isBody_3 : decode cX12_isBody 3 = .ok (.aload_n 0, 1) := by decide +kernel
theorem dX12_isBody_4 : decode cX12_isBody 4 = .ok (.getfield 330, 3) := by decide +kernel
theorem dX12_isBody_7 : decode cX12_isBody 7 = .ok (.iconst 1, 1) := by decide +kernel
theorem dX12_isBody_8 : decode cX12_isBody 8 = .ok (.isub, 1) := by decide +kernel
theorem dX12_isBody_9 : decode cX12_isBody 9 = .ok (.i2l, 1) := by decide +kernel
theorem dX12_isBody_10 : decode cX12_isBody 10 = .ok (.invokestatic 96, 3) := by decide +kernel
theorem dX12_isBody_13 : decode cX12_isBody 13 = .ok (.ireturn, 1) := by decide +kernel
theorem dX12_kindOf_0 : decode cX12_kindOf 0 = .ok (.aload_n 0, 1) := by decide +kernel
theorem dX12_kindOf_1 : decode cX12_kindOf 1 = .ok (.getfield 70, 3) := by decide +kernel
theorem dX12_kindOf_4 : decode cX12_kindOf 4 = .ok (.iload_n 1, 1) := by decide +kernel
theorem dX12_kindOf_5 : decode cX12_kindOf 5 = .ok (.iaload, 1) := by decide +kernel
theorem dX12_kindOf_6 : decode cX12_kindOf 6 = .ok (.ireturn, 1) := by decide +kernel
theorem dX12_body_0 : decode cX12_body 0 = .ok (.iload_n 1, 1) := by decide +kernel
theorem dX12_body_1 : decode cX12_body 1 = .ok (.i2l, 1) := by decide +kernel
theorem dX12_body_2 : decode cX12_body 2 = .ok (.lconst 0, 1) := by decide +kernel
theorem dX12_body_3 : decode cX12_body 3 = .ok (.ldc2_w 333, 3) := by decide +kernel
theorem dX12_body_6 : decode cX12_body 6 = .ok (.invokestatic 96, 3) := by decide +kernel
theorem dX12_body_9 : decode cX12_body 9 = .ok (.ifCond .ne 5, 3) := by decide +kernel
theorem dX12_body_12 : decode cX12_body 12 = .ok (.iconst (-1), 1) := by decide +kernel
theorem dX12_body_13 : decode cX12_body 13 = .ok (.ireturn, 1) := by decide +kernel
theorem dX12_body_14 : decode cX12_body 14 = .ok (.aload_n 0, 1) := by decide +kernel
theorem dX12_body_15 : decode cX12_body 15 = .ok (.getfield 330, 3) := by decide +kernel
theorem dX12_body_18 : decode cX12_body 18 = .ok (.bipush 50, 2) := by decide +kernel
theorem dX12_body_20 : decode cX12_body 20 = .ok (.if_icmp .ne 6, 3) := by decide +kernel
theorem dX12_body_23 : decode cX12_body 23 = .ok (.bipush (-3), 2) := by decide +kernel
theorem dX12_body_25 : decode cX12_body 25 = .ok (.ireturn, 1) := by decide +kernel
theorem dX12_body_26 : decode cX12_body 26 = .ok (.aload_n 0, 1) := by decide +kernel
theorem dX12_body_27 : decode cX12_body 27 = .ok (.getfield 70, 3) := by decide +kernel
theorem dX12_body_30 : decode cX12_body 30 = .ok (.aload_n 0, 1) := by decide +kernel
theorem dX12_body_31 : decode cX12_body 31 = .ok (.getfield 330, 3) := by decide +kernel
theorem dX12_body_34 : decode cX12_body 34 = .ok (.iload_n 1, 1) := by decide +kernel
theorem dX12_body_35 : decode cX12_body 35 = .ok (.iastore, 1) := by decide +kernel
theorem dX12_body_36 : decode cX12_body 36 = .ok (.aload_n 0, 1) := by decide +kernel
theorem dX12_body_37 : decode cX12_body 37 = .ok (.dup, 1) := by decide +kernel
theorem dX12_body_38 : decode cX12_body 38 = .ok (.getfield 330, 3) := by decide +kernel
theorem dX12_body_41 : decode cX12_body 41 = .ok (.iconst 1, 1) := by decide +kernel
theorem dX12_body_42 : decode cX12_body 42 = .ok (.iadd, 1) := by decide +kernel
theorem dX12_body_43 : decode cX12_body 43 = .ok (.putfield 330, 3) := by decide +kernel
theorem dX12_body_46 : decode cX12_body 46 = .ok (.aload_n 0, 1) := by decide +kernel
theorem dX12_body_47 : decode cX12_body 47 = .ok (.getfield 330, 3) := by decide +kernel
theorem dX12_body_50 : decode cX12_body 50 = .ok (.iconst 1, 1) := by decide +kernel
theorem dX12_body_51 : decode cX12_body 51 = .ok (.isub, 1) := by decide +kernel
theorem dX12_body_52 : decode cX12_body 52 = .ok (.ireturn, 1) := by decide +kernel
theorem dX12_above_0 : decode cX12_above 0 = .ok (.iload_n 0, 1) := by decide +kernel
theorem dX12_above_1 : decode cX12_above 1 = .ok (.iconst 3, 1) := by decide +kernel
theorem dX12_above_2 : decode cX12_above 2 = .ok (.if_icmp .ne 7, 3) := by decide +kernel
theorem dX12_above_5 : decode cX12_above 5 = .ok (.iconst 2, 1) := by decide +kernel
theorem dX12_above_6 : decode cX12_above 6 = .ok (.goto 32, 3) := by decide +kernel
theorem dX12_above_9 : decode cX12_above 9 = .ok (.iload_n 0, 1) := by decide +kernel
theorem dX12_above_10 : decode cX12_above 10 = .ok (.iconst 4, 1) := by decide +kernel
theorem dX12_above_11 : decode cX12_above 11 = .ok (.if_icmp .ne 7, 3) := by decide +kernel
theorem dX12_above_14 : decode cX12_above 14 = .ok (.iconst 1, 1) := by decide +kernel
theorem dX12_above_15 : decode cX12_above 15 = .ok (.goto 23, 3) := by decide +kernel
theorem dX12_above_18 : decode cX12_above 18 = .ok (.iload_n 0, 1) := by decide +kernel
theorem dX12_above_19 : decode cX12_above 19 = .ok (.iconst 5, 1) := by decide +kernel
theorem dX12_above_20 : decode cX12_above 20 = .ok (.if_icmp .ne 7, 3) := by decide +kernel
theorem dX12_above_23 : decode cX12_above 23 = .ok (.iconst 3, 1) := by decide +kernel
theorem dX12_above_24 : decode cX12_above 24 = .ok (.goto 14, 3) := by decide +kernel
theorem dX12_above_27 : decode cX12_above 27 = .ok (.iload_n 0, 1) := by decide +kernel
theorem dX12_above_28 : decode cX12_above 28 = .ok (.bipush 7, 2) := by decide +kernel
theorem dX12_above_30 : decode cX12_above 30 = .ok (.if_icmp .ne 7, 3) := by decide +kernel
theorem dX12_above_33 : decode cX12_above 33 = .ok (.iconst 4, 1) := by decide +kernel
theorem dX12_above_34 : decode cX12_above 34 = .ok (.goto 4, 3) := by decide +kernel
theorem dX12_above_37 : decode cX12_above 37 = .ok (.iconst 0, 1) := by decide +kernel
theorem dX12_above_38 : decode cX12_above 38 = .ok (.ireturn, 1) := by decide +kernel
theorem dX12_begins_0 : decode cX12_begins 0 = .ok (.aload_n 0, 1) := by decide +kernel
theorem dX12_begins_1 : decode cX12_begins 1 = .ok (.getfield 335, 3) := by decide +kernel
theorem dX12_begins_4 : decode cX12_begins 4 = .ok (.bipush 24, 2) := by decide +kernel
theorem dX12_begins_6 : decode cX12_begins 6 = .ok (.if_icmp .ge 13, 3) := by decide +kernel
theorem dX12_begins_9 : decode cX12_begins 9 = .ok (.aload_n 0, 1) := by decide +kernel
theorem dX12_begins_10 : decode cX12_begins 10 = .ok (.getfield 73, 3) := by decide +kernel
theorem dX12_begins_13 : decode cX12_begins 13 = .ok (.aload_n 0, 1) := by decide +kernel
theorem dX12_begins_14 : decode cX12_begins 14 = .ok (.getfield 335, 3) := by decide +kernel
theorem dX12_begins_17 : decode cX12_begins 17 = .ok (.iload_n 1, 1) := by decide +kernel
theorem dX12_begins_18 : decode cX12_begins 18 = .ok (.iastore, 1) := by decide +kernel
theorem dX12_begins_19 : decode cX12_begins 19 = .ok (.aload_n 0, 1) := by decide +kernel
theorem dX12_begins_20 : decode cX12_begins 20 = .ok (.dup, 1) := by decide +kernel
theorem dX12_begins_21 : decode cX12_begins 21 = .ok (.getfield 335, 3) := by decide +kernel
theorem dX12_begins_24 : decode cX12_begins 24 = .ok (.iconst 1, 1) := by decide +kernel
theorem dX12_begins_25 : decode cX12_begins 25 = .ok (.iadd, 1) := by decide +kernel
theorem dX12_begins_26 : decode cX12_begins 26 = .ok (.putfield 335, 3) := by decide +kernel
theorem dX12_begins_29 : decode cX12_begins 29 = .ok (.return_, 1) := by decide +kernel
theorem dX12_saysAs_0 : decode cX12_saysAs 0 = .ok (.iload_n 1, 1) := by decide +kernel
theorem dX12_saysAs_1 : decode cX12_saysAs 1 = .ok (.iconst 1, 1) := by decide +kernel
theorem dX12_saysAs_2 : decode cX12_saysAs 2 = .ok (.if_icmp .eq 14, 3) := by decide +kernel
theorem dX12_saysAs_5 : decode cX12_saysAs 5 = .ok (.iload_n 1, 1) := by decide +kernel
theorem dX12_saysAs_6 : decode cX12_saysAs 6 = .ok (.iconst 4, 1) := by decide +kernel
theorem dX12_saysAs_7 : decode cX12_saysAs 7 = .ok (.if_icmp .eq 9, 3) := by decide +kernel
theorem dX12_saysAs_10 : decode cX12_saysAs 10 = .ok (.iload_n 1, 1) := by decide +kernel
theorem dX12_saysAs_11 : decode cX12_saysAs 11 = .ok (.bipush 7, 2) := by decide +kernel
theorem dX12_saysAs_13 : decode cX12_saysAs 13 = .ok (.if_icmp .ne 18, 3) := by decide +kernel
theorem dX12_saysAs_16 : decode cX12_saysAs 16 = .ok (.aload_n 0, 1) := by decide +kernel
theorem dX12_saysAs_17 : decode cX12_saysAs 17 = .ok (.bipush 20, 2) := by decide +kernel
theorem dX12_saysAs_19 : decode cX12_saysAs 19 = .ok (.invokevirtual 338, 3) := by decide +kernel
theorem dX12_saysAs_22 : decode cX12_saysAs 22 = .ok (.aload_n 0, 1) := by decide +kernel
theorem dX12_saysAs_23 : decode cX12_saysAs 23 = .ok (.iconst 0, 1) := by decide +kernel
theorem dX12_saysAs_24 : decode cX12_saysAs 24 = .ok (.iload_n 2, 1) := by decide +kernel
theorem dX12_saysAs_25 : decode cX12_saysAs 25 = .ok (.invokevirtual 341, 3) := by decide +kernel
theorem dX12_saysAs_28 : decode cX12_saysAs 28 = .ok (.iconst 3, 1) := by decide +kernel
theorem dX12_saysAs_29 : decode cX12_saysAs 29 = .ok (.iadd, 1) := by decide +kernel
theorem dX12_saysAs_30 : decode cX12_saysAs 30 = .ok (.ireturn, 1) := by decide +kernel
theorem dX12_saysAs_31 : decode cX12_saysAs 31 = .ok (.iload_n 1, 1) := by decide +kernel
theorem dX12_saysAs_32 : decode cX12_saysAs 32 = .ok (.bipush 6, 2) := by decide +kernel
theorem dX12_saysAs_34 : decode cX12_saysAs 34 = .ok (.if_icmp .ne 18, 3) := by decide +kernel
theorem dX12_saysAs_37 : decode cX12_saysAs 37 = .ok (.aload_n 0, 1) := by decide +kernel
theorem dX12_saysAs_38 : decode cX12_saysAs 38 = .ok (.bipush 70, 2) := by decide +kernel
theorem dX12_saysAs_40 : decode cX12_saysAs 40 = .ok (.invokevirtual 338, 3) := by decide +kernel
theorem dX12_saysAs_43 : decode cX12_saysAs 43 = .ok (.aload_n 0, 1) := by decide +kernel
theorem dX12_saysAs_44 : decode cX12_saysAs 44 = .ok (.iconst 0, 1) := by decide +kernel
theorem dX12_saysAs_45 : decode cX12_saysAs 45 = .ok (.iload_n 2, 1) := by decide +kernel
theorem dX12_saysAs_46 : decode cX12_saysAs 46 = .ok (.invokevirtual 341, 3) := by decide +kernel
theorem dX12_saysAs_49 : decode cX12_saysAs 49 = .ok (.iconst 2, 1) := by decide +kernel
theorem dX12_saysAs_50 : decode cX12_saysAs 50 = .ok (.imul, 1) := by decide +kernel
theorem dX12_saysAs_51 : decode cX12_saysAs 51 = .ok (.ireturn, 1) := by decide +kernel
theorem dX12_saysAs_52 : decode cX12_saysAs 52 = .ok (.aload_n 0, 1) := by decide +kernel
theorem dX12_saysAs_53 : decode cX12_saysAs 53 = .ok (.iconst 1, 1) := by decide +kernel
theorem dX12_saysAs_54 : decode cX12_saysAs 54 = .ok (.invokevirtual 338, 3) := by decide +kernel
theorem dX12_saysAs_57 : decode cX12_saysAs 57 = .ok (.iload_n 2, 1) := by decide +kernel
theorem dX12_saysAs_58 : decode cX12_saysAs 58 = .ok (.aload_n 0, 1) := by decide +kernel
theorem dX12_saysAs_59 : decode cX12_saysAs 59 = .ok (.getfield 344, 3) := by decide +kernel
theorem dX12_saysAs_62 : decode cX12_saysAs 62 = .ok (.iadd, 1) := by decide +kernel
theorem dX12_saysAs_63 : decode cX12_saysAs 63 = .ok (.ireturn, 1) := by decide +kernel
theorem dX12_movesAs_0 : decode cX12_movesAs 0 = .ok (.iload_n 1, 1) := by decide +kernel
theorem dX12_movesAs_1 : decode cX12_movesAs 1 = .ok (.iconst 3, 1) := by decide +kernel
theorem dX12_movesAs_2 : decode cX12_movesAs 2 = .ok (.if_icmp .eq 8, 3) := by decide +kernel
theorem dX12_movesAs_5 : decode cX12_movesAs 5 = .ok (.iload_n 1, 1) := by decide +kernel
theorem dX12_movesAs_6 : decode cX12_movesAs 6 = .ok (.iconst 5, 1) := by decide +kernel
theorem dX12_movesAs_7 : decode cX12_movesAs 7 = .ok (.if_icmp .ne 18, 3) := by decide +kernel
theorem dX12_movesAs_10 : decode cX12_movesAs 10 = .ok (.aload_n 0, 1) := by decide +kernel
theorem dX12_movesAs_11 : decode cX12_movesAs 11 = .ok (.bipush 40, 2) := by decide +kernel
theorem dX12_movesAs_13 : decode cX12_movesAs 13 = .ok (.invokevirtual 338, 3) := by decide +kernel
theorem dX12_movesAs_16 : decode cX12_movesAs 16 = .ok (.aload_n 0, 1) := by decide +kernel
theorem dX12_movesAs_17 : decode cX12_movesAs 17 = .ok (.iconst 2, 1) := by decide +kernel
theorem dX12_movesAs_18 : decode cX12_movesAs 18 = .ok (.iload_n 2, 1) := by decide +kernel
theorem dX12_movesAs_19 : decode cX12_movesAs 19 = .ok (.invokevirtual 353, 3) := by decide +kernel
theorem dX12_movesAs_22 : decode cX12_movesAs 22 = .ok (.iconst 3, 1) := by decide +kernel
theorem dX12_movesAs_23 : decode cX12_movesAs 23 = .ok (.imul, 1) := by decide +kernel
theorem dX12_movesAs_24 : decode cX12_movesAs 24 = .ok (.ireturn, 1) := by decide +kernel
theorem dX12_movesAs_25 : decode cX12_movesAs 25 = .ok (.iload_n 1, 1) := by decide +kernel
theorem dX12_movesAs_26 : decode cX12_movesAs 26 = .ok (.iconst 4, 1) := by decide +kernel
theorem dX12_movesAs_27 : decode cX12_movesAs 27 = .ok (.if_icmp .eq 9, 3) := by decide +kernel
theorem dX12_movesAs_30 : decode cX12_movesAs 30 = .ok (.iload_n 1, 1) := by decide +kernel
theorem dX12_movesAs_31 : decode cX12_movesAs 31 = .ok (.bipush 7, 2) := by decide +kernel
theorem dX12_movesAs_33 : decode cX12_movesAs 33 = .ok (.if_icmp .ne 28, 3) := by decide +kernel
theorem dX12_movesAs_36 : decode cX12_movesAs 36 = .ok (.aload_n 0, 1) := by decide +kernel
theorem dX12_movesAs_37 : decode cX12_movesAs 37 = .ok (.bipush 50, 2) := by decide +kernel
theorem dX12_movesAs_39 : decode cX12_movesAs 39 = .ok (.invokevirtual 338, 3) := by decide +kernel
theorem dX12_movesAs_42 : decode cX12_movesAs 42 = .ok (.aload_n 0, 1) := by decide +kernel
theorem dX12_movesAs_43 : decode cX12_movesAs 43 = .ok (.iconst 1, 1) := by decide +kernel
theorem dX12_movesAs_44 : decode cX12_movesAs 44 = .ok (.iload_n 2, 1) := by decide +kernel
theorem dX12_movesAs_45 : decode cX12_movesAs 45 = .ok (.invokevirtual 353, 3) := by decide +kernel
theorem dX12_movesAs_48 : decode cX12_movesAs 48 = .ok (.istore_n 3, 1) := by decide +kernel
theorem dX12_movesAs_49 : decode cX12_movesAs 49 = .ok (.iload_n 3, 1) := by decide +kernel
theorem dX12_movesAs_50 : decode cX12_movesAs 50 = .ok (.aload_n 0, 1) := by decide +kernel
theorem dX12_movesAs_51 : decode cX12_movesAs 51 = .ok (.aload_n 0, 1) := by decide +kernel
theorem dX12_movesAs_52 : decode cX12_movesAs 52 = .ok (.getfield 350, 3) := by decide +kernel
theorem dX12_movesAs_55 : decode cX12_movesAs 55 = .ok (.iconst 2, 1) := by decide +kernel
theorem dX12_movesAs_56 : decode cX12_movesAs 56 = .ok (.invokevirtual 341, 3) := by decide +kernel
theorem dX12_movesAs_59 : decode cX12_movesAs 59 = .ok (.isub, 1) := by decide +kernel
theorem dX12_movesAs_60 : decode cX12_movesAs 60 = .ok (.ireturn, 1) := by decide +kernel
theorem dX12_movesAs_61 : decode cX12_movesAs 61 = .ok (.aload_n 0, 1) := by decide +kernel
theorem dX12_movesAs_62 : decode cX12_movesAs 62 = .ok (.bipush 11, 2) := by decide +kernel
theorem dX12_movesAs_64 : decode cX12_movesAs 64 = .ok (.invokevirtual 338, 3) := by decide +kernel
theorem dX12_movesAs_67 : decode cX12_movesAs 67 = .ok (.iload_n 2, 1) := by decide +kernel
theorem dX12_movesAs_68 : decode cX12_movesAs 68 = .ok (.aload_n 0, 1) := by decide +kernel
theorem dX12_movesAs_69 : decode cX12_movesAs 69 = .ok (.getfield 344, 3) := by decide +kernel
theorem dX12_movesAs_72 : decode cX12_movesAs 72 = .ok (.ixor, 1) := by decide +kernel
theorem dX12_movesAs_73 : decode cX12_movesAs 73 = .ok (.ireturn, 1) := by decide +kernel
theorem dX12_standsAs_0 : decode cX12_standsAs 0 = .ok (.iload_n 1, 1) := by decide +kernel
theorem dX12_standsAs_1 : decode cX12_standsAs 1 = .ok (.iconst 3, 1) := by decide +kernel
theorem dX12_standsAs_2 : decode cX12_standsAs 2 = .ok (.if_icmp .eq 8, 3) := by decide +kernel
theorem dX12_standsAs_5 : decode cX12_standsAs 5 = .ok (.iload_n 1, 1) := by decide +kernel
theorem dX12_standsAs_6 : decode cX12_standsAs 6 = .ok (.iconst 5, 1) := by decide +kernel
theorem dX12_standsAs_7 : decode cX12_standsAs 7 = .ok (.if_icmp .ne 18, 3) := by decide +kernel
theorem dX12_standsAs_10 : decode cX12_standsAs 10 = .ok (.aload_n 0, 1) := by decide +kernel
theorem dX12_standsAs_11 : decode cX12_standsAs 11 = .ok (.bipush 41, 2) := by decide +kernel
theorem dX12_standsAs_13 : decode cX12_standsAs 13 = .ok (.invokevirtual 338, 3) := by decide +kernel
theorem dX12_standsAs_16 : decode cX12_standsAs 16 = .ok (.aload_n 0, 1) := by decide +kernel
theorem dX12_standsAs_17 : decode cX12_standsAs 17 = .ok (.iconst 2, 1) := by decide +kernel
theorem dX12_standsAs_18 : decode cX12_standsAs 18 = .ok (.iload_n 2, 1) := by decide +kernel
theorem dX12_standsAs_19 : decode cX12_standsAs 19 = .ok (.iconst 1, 1) := by decide +kernel
theorem dX12_standsAs_20 : decode cX12_standsAs 20 = .ok (.iadd, 1) := by decide +kernel
theorem dX12_standsAs_21 : decode cX12_standsAs 21 = .ok (.invokevirtual 347, 3) := by decide +kernel
theorem dX12_standsAs_24 : decode cX12_standsAs 24 = .ok (.ireturn, 1) := by decide +kernel
theorem dX12_standsAs_25 : decode cX12_standsAs 25 = .ok (.iload_n 1, 1) := by decide +kernel
theorem dX12_standsAs_26 : decode cX12_standsAs 26 = .ok (.iconst 2, 1) := by decide +kernel
theorem dX12_standsAs_27 : decode cX12_standsAs 27 = .ok (.if_icmp .ne 17, 3) := by decide +kernel
theorem dX12_standsAs_30 : decode cX12_standsAs 30 = .ok (.aload_n 0, 1) := by decide +kernel
theorem dX12_standsAs_31 : decode cX12_standsAs 31 = .ok (.bipush 30, 2) := by decide +kernel
theorem dX12_standsAs_33 : decode cX12_standsAs 33 = .ok (.invokevirtual 338, 3) := by decide +kernel
theorem dX12_standsAs_36 : decode cX12_standsAs 36 = .ok (.aload_n 0, 1) := by decide +kernel
theorem dX12_standsAs_37 : decode cX12_standsAs 37 = .ok (.iconst 0, 1) := by decide +kernel
theorem dX12_standsAs_38 : decode cX12_standsAs 38 = .ok (.iload_n 2, 1) := by decide +kernel
theorem dX12_standsAs_39 : decode cX12_standsAs 39 = .ok (.invokevirtual 347, 3) := by decide +kernel
theorem dX12_standsAs_42 : decode cX12_standsAs 42 = .ok (.ineg, 1) := by decide +kernel
theorem dX12_standsAs_43 : decode cX12_standsAs 43 = .ok (.ireturn, 1) := by decide +kernel
theorem dX12_standsAs_44 : decode cX12_standsAs 44 = .ok (.iload_n 1, 1) := by decide +kernel
theorem dX12_standsAs_45 : decode cX12_standsAs 45 = .ok (.bipush 7, 2) := by decide +kernel
theorem dX12_standsAs_47 : decode cX12_standsAs 47 = .ok (.if_icmp .ne 28, 3) := by decide +kernel
theorem dX12_standsAs_50 : decode cX12_standsAs 50 = .ok (.aload_n 0, 1) := by decide +kernel
theorem dX12_standsAs_51 : decode cX12_standsAs 51 = .ok (.bipush 80, 2) := by decide +kernel
theorem dX12_standsAs_53 : decode cX12_standsAs 53 = .ok (.invokevirtual 338, 3) := by decide +kernel
theorem dX12_standsAs_56 : decode cX12_standsAs 56 = .ok (.aload_n 0, 1) := by decide +kernel
theorem dX12_standsAs_57 : decode cX12_standsAs 57 = .ok (.iconst 4, 1) := by decide +kernel
theorem dX12_standsAs_58 : decode cX12_standsAs 58 = .ok (.iload_n 2, 1) := by decide +kernel
theorem dX12_standsAs_59 : decode cX12_standsAs 59 = .ok (.invokevirtual 347, 3) := by decide +kernel
theorem dX12_standsAs_62 : decode cX12_standsAs 62 = .ok (.istore_n 3, 1) := by decide +kernel
theorem dX12_standsAs_63 : decode cX12_standsAs 63 = .ok (.iload_n 3, 1) := by decide +kernel
theorem dX12_standsAs_64 : decode cX12_standsAs 64 = .ok (.aload_n 0, 1) := by decide +kernel
theorem dX12_standsAs_65 : decode cX12_standsAs 65 = .ok (.aload_n 0, 1) := by decide +kernel
theorem dX12_standsAs_66 : decode cX12_standsAs 66 = .ok (.getfield 350, 3) := by decide +kernel
theorem dX12_standsAs_69 : decode cX12_standsAs 69 = .ok (.iconst 2, 1) := by decide +kernel
theorem dX12_standsAs_70 : decode cX12_standsAs 70 = .ok (.invokevirtual 353, 3) := by decide +kernel
theorem dX12_standsAs_73 : decode cX12_standsAs 73 = .ok (.iadd, 1) := by decide +kernel
theorem dX12_standsAs_74 : decode cX12_standsAs 74 = .ok (.ireturn, 1) := by decide +kernel
theorem dX12_standsAs_75 : decode cX12_standsAs 75 = .ok (.aload_n 0, 1) := by decide +kernel
theorem dX12_standsAs_76 : decode cX12_standsAs 76 = .ok (.bipush 10, 2) := by decide +kernel
theorem dX12_standsAs_78 : decode cX12_standsAs 78 = .ok (.invokevirtual 338, 3) := by decide +kernel
theorem dX12_standsAs_81 : decode cX12_standsAs 81 = .ok (.aload_n 0, 1) := by decide +kernel
theorem dX12_standsAs_82 : decode cX12_standsAs 82 = .ok (.aload_n 0, 1) := by decide +kernel
theorem dX12_standsAs_83 : decode cX12_standsAs 83 = .ok (.getfield 350, 3) := by decide +kernel
theorem dX12_standsAs_86 : decode cX12_standsAs 86 = .ok (.iload_n 2, 1) := by decide +kernel
theorem dX12_standsAs_87 : decode cX12_standsAs 87 = .ok (.invokevirtual 341, 3) := by decide +kernel
theorem dX12_standsAs_90 : decode cX12_standsAs 90 = .ok (.iconst 2, 1) := by decide +kernel
theorem dX12_standsAs_91 : decode cX12_standsAs 91 = .ok (.imul, 1) := by decide +kernel
theorem dX12_standsAs_92 : decode cX12_standsAs 92 = .ok (.ireturn, 1) := by decide +kernel
theorem dX12_tellsAs_0 : decode cX12_tellsAs 0 = .ok (.iload_n 1, 1) := by decide +kernel
theorem dX12_tellsAs_1 : decode cX12_tellsAs 1 = .ok (.iconst 5, 1) := by decide +kernel
theorem dX12_tellsAs_2 : decode cX12_tellsAs 2 = .ok (.if_icmp .ne 18, 3) := by decide +kernel
theorem dX12_tellsAs_5 : decode cX12_tellsAs 5 = .ok (.aload_n 0, 1) := by decide +kernel
theorem dX12_tellsAs_6 : decode cX12_tellsAs 6 = .ok (.bipush 60, 2) := by decide +kernel
theorem dX12_tellsAs_8 : decode cX12_tellsAs 8 = .ok (.invokevirtual 338, 3) := by decide +kernel
theorem dX12_tellsAs_11 : decode cX12_tellsAs 11 = .ok (.aload_n 0, 1) := by decide +kernel
theorem dX12_tellsAs_12 : decode cX12_tellsAs 12 = .ok (.iconst 3, 1) := by decide +kernel
theorem dX12_tellsAs_13 : decode cX12_tellsAs 13 = .ok (.iload_n 2, 1) := by decide +kernel
theorem dX12_tellsAs_14 : decode cX12_tellsAs 14 = .ok (.invokevirtual 356, 3) := by decide +kernel
theorem dX12_tellsAs_17 : decode cX12_tellsAs 17 = .ok (.iconst 5, 1) := by decide +kernel
theorem dX12_tellsAs_18 : decode cX12_tellsAs 18 = .ok (.ixor, 1) := by decide +kernel
theorem dX12_tellsAs_19 : decode cX12_tellsAs 19 = .ok (.ireturn, 1) := by decide +kernel
theorem dX12_tellsAs_20 : decode cX12_tellsAs 20 = .ok (.iload_n 1, 1) := by decide +kernel
theorem dX12_tellsAs_21 : decode cX12_tellsAs 21 = .ok (.bipush 7, 2) := by decide +kernel
theorem dX12_tellsAs_23 : decode cX12_tellsAs 23 = .ok (.if_icmp .ne 18, 3) := by decide +kernel
theorem dX12_tellsAs_26 : decode cX12_tellsAs 26 = .ok (.aload_n 0, 1) := by decide +kernel
theorem dX12_tellsAs_27 : decode cX12_tellsAs 27 = .ok (.bipush 81, 2) := by decide +kernel
theorem dX12_tellsAs_29 : decode cX12_tellsAs 29 = .ok (.invokevirtual 338, 3) := by decide +kernel
theorem dX12_tellsAs_32 : decode cX12_tellsAs 32 = .ok (.aload_n 0, 1) := by decide +kernel
theorem dX12_tellsAs_33 : decode cX12_tellsAs 33 = .ok (.iconst 4, 1) := by decide +kernel
theorem dX12_tellsAs_34 : decode cX12_tellsAs 34 = .ok (.iload_n 2, 1) := by decide +kernel
theorem dX12_tellsAs_35 : decode cX12_tellsAs 35 = .ok (.invokevirtual 356, 3) := by decide +kernel
theorem dX12_tellsAs_38 : decode cX12_tellsAs 38 = .ok (.iconst 1, 1) := by decide +kernel
theorem dX12_tellsAs_39 : decode cX12_tellsAs 39 = .ok (.isub, 1) := by decide +kernel
theorem dX12_tellsAs_40 : decode cX12_tellsAs 40 = .ok (.ireturn, 1) := by decide +kernel
theorem dX12_tellsAs_41 : decode cX12_tellsAs 41 = .ok (.aload_n 0, 1) := by decide +kernel
theorem dX12_tellsAs_42 : decode cX12_tellsAs 42 = .ok (.iconst 2, 1) := by decide +kernel
theorem dX12_tellsAs_43 : decode cX12_tellsAs 43 = .ok (.invokevirtual 338, 3) := by decide +kernel
theorem dX12_tellsAs_46 : decode cX12_tellsAs 46 = .ok (.aload_n 0, 1) := by decide +kernel
theorem dX12_tellsAs_47 : decode cX12_tellsAs 47 = .ok (.aload_n 0, 1) := by decide +kernel
theorem dX12_tellsAs_48 : decode cX12_tellsAs 48 = .ok (.getfield 350, 3) := by decide +kernel
theorem dX12_tellsAs_51 : decode cX12_tellsAs 51 = .ok (.iload_n 2, 1) := by decide +kernel
theorem dX12_tellsAs_52 : decode cX12_tellsAs 52 = .ok (.invokevirtual 347, 3) := by decide +kernel
theorem dX12_tellsAs_55 : decode cX12_tellsAs 55 = .ok (.istore_n 3, 1) := by decide +kernel
theorem dX12_tellsAs_56 : decode cX12_tellsAs 56 = .ok (.iload_n 3, 1) := by decide +kernel
theorem dX12_tellsAs_57 : decode cX12_tellsAs 57 = .ok (.aload_n 0, 1) := by decide +kernel
theorem dX12_tellsAs_58 : decode cX12_tellsAs 58 = .ok (.aload_n 0, 1) := by decide +kernel
theorem dX12_tellsAs_59 : decode cX12_tellsAs 59 = .ok (.getfield 350, 3) := by decide +kernel
theorem dX12_tellsAs_62 : decode cX12_tellsAs 62 = .ok (.iconst 1, 1) := by decide +kernel
theorem dX12_tellsAs_63 : decode cX12_tellsAs 63 = .ok (.invokevirtual 353, 3) := by decide +kernel
theorem dX12_tellsAs_66 : decode cX12_tellsAs 66 = .ok (.isub, 1) := by decide +kernel
theorem dX12_tellsAs_67 : decode cX12_tellsAs 67 = .ok (.ireturn, 1) := by decide +kernel
theorem dX12_act_0 : decode cX12_act 0 = .ok (.aload_n 0, 1) := by decide +kernel
theorem dX12_act_1 : decode cX12_act 1 = .ok (.iconst 0, 1) := by decide +kernel
theorem dX12_act_2 : decode cX12_act 2 = .ok (.putfield 335, 3) := by decide +kernel
theorem dX12_act_5 : decode cX12_act 5 = .ok (.aload_n 0, 1) := by decide +kernel
theorem dX12_act_6 : decode cX12_act 6 = .ok (.iload_n 1, 1) := by decide +kernel
theorem dX12_act_7 : decode cX12_act 7 = .ok (.invokevirtual 359, 3) := by decide +kernel
theorem dX12_act_10 : decode cX12_act 10 = .ok (.ifCond .ne 5, 3) := by decide +kernel
theorem dX12_act_13 : decode cX12_act 13 = .ok (.iconst 0, 1) := by decide +kernel
theorem dX12_act_14 : decode cX12_act 14 = .ok (.ireturn, 1) := by decide +kernel
theorem dX12_act_15 : decode cX12_act 15 = .ok (.aload_n 0, 1) := by decide +kernel
theorem dX12_act_16 : decode cX12_act 16 = .ok (.aload_n 0, 1) := by decide +kernel
theorem dX12_act_17 : decode cX12_act 17 = .ok (.getfield 70, 3) := by decide +kernel
theorem dX12_act_20 : decode cX12_act 20 = .ok (.iload_n 1, 1) := by decide +kernel
theorem dX12_act_21 : decode cX12_act 21 = .ok (.iaload, 1) := by decide +kernel
theorem dX12_act_22 : decode cX12_act 22 = .ok (.putfield 350, 3) := by decide +kernel
theorem dX12_act_25 : decode cX12_act 25 = .ok (.aload_n 0, 1) := by decide +kernel
theorem dX12_act_26 : decode cX12_act 26 = .ok (.iload_n 1, 1) := by decide +kernel
theorem dX12_act_27 : decode cX12_act 27 = .ok (.putfield 344, 3) := by decide +kernel
theorem dX12_act_30 : decode cX12_act 30 = .ok (.iload_n 2, 1) := by decide +kernel
theorem dX12_act_31 : decode cX12_act 31 = .ok (.tableswitch 69 0 3 #[29, 39, 49, 59], 29) := by decide +kernel
theorem dX12_act_60 : decode cX12_act 60 = .ok (.aload_n 0, 1) := by decide +kernel
theorem dX12_act_61 : decode cX12_act 61 = .ok (.aload_n 0, 1) := by decide +kernel
theorem dX12_act_62 : decode cX12_act 62 = .ok (.getfield 350, 3) := by decide +kernel
theorem dX12_act_65 : decode cX12_act 65 = .ok (.iload_n 3, 1) := by decide +kernel
theorem dX12_act_66 : decode cX12_act 66 = .ok (.invokevirtual 341, 3) := by decide +kernel
theorem dX12_act_69 : decode cX12_act 69 = .ok (.ireturn, 1) := by decide +kernel
theorem dX12_act_70 : decode cX12_act 70 = .ok (.aload_n 0, 1) := by decide +kernel
theorem dX12_act_71 : decode cX12_act 71 = .ok (.aload_n 0, 1) := by decide +kernel
theorem dX12_act_72 : decode cX12_act 72 = .ok (.getfield 350, 3) := by decide +kernel
theorem dX12_act_75 : decode cX12_act 75 = .ok (.iload_n 3, 1) := by decide +kernel
theorem dX12_act_76 : decode cX12_act 76 = .ok (.invokevirtual 347, 3) := by decide +kernel
theorem dX12_act_79 : decode cX12_act 79 = .ok (.ireturn, 1) := by decide +kernel
theorem dX12_act_80 : decode cX12_act 80 = .ok (.aload_n 0, 1) := by decide +kernel
theorem dX12_act_81 : decode cX12_act 81 = .ok (.aload_n 0, 1) := by decide +kernel
theorem dX12_act_82 : decode cX12_act 82 = .ok (.getfield 350, 3) := by decide +kernel
theorem dX12_act_85 : decode cX12_act 85 = .ok (.iload_n 3, 1) := by decide +kernel
theorem dX12_act_86 : decode cX12_act 86 = .ok (.invokevirtual 353, 3) := by decide +kernel
theorem dX12_act_89 : decode cX12_act 89 = .ok (.ireturn, 1) := by decide +kernel
theorem dX12_act_90 : decode cX12_act 90 = .ok (.aload_n 0, 1) := by decide +kernel
theorem dX12_act_91 : decode cX12_act 91 = .ok (.aload_n 0, 1) := by decide +kernel
theorem dX12_act_92 : decode cX12_act 92 = .ok (.getfield 350, 3) := by decide +kernel
theorem dX12_act_95 : decode cX12_act 95 = .ok (.iload_n 3, 1) := by decide +kernel
theorem dX12_act_96 : decode cX12_act 96 = .ok (.invokevirtual 356, 3) := by decide +kernel
theorem dX12_act_99 : decode cX12_act 99 = .ok (.ireturn, 1) := by decide +kernel
theorem dX12_act_100 : decode cX12_act 100 = .ok (.iconst 0, 1) := by decide +kernel
theorem dX12_act_101 : decode cX12_act 101 = .ok (.ireturn, 1) := by decide +kernel
theorem dX12_trace_0 : decode cX12_trace 0 = .ok (.iload_n 1, 1) := by decide +kernel
theorem dX12_trace_1 : decode cX12_trace 1 = .ok (.ifCond .lt 26, 3) := by decide +kernel
theorem dX12_trace_4 : decode cX12_trace 4 = .ok (.iload_n 1, 1) := by decide +kernel
theorem dX12_trace_5 : decode cX12_trace 5 = .ok (.aload_n 0, 1) := by decide +kernel
theorem dX12_trace_6 : decode cX12_trace 6 = .ok (.getfield 335, 3) := by decide +kernel
theorem dX12_trace_9 : decode cX12_trace 9 = .ok (.if_icmp .ge 18, 3) := by decide +kernel
theorem dX12_trace_12 : decode cX12_trace 12 = .ok (.iload_n 1, 1) := by decide +kernel
theorem dX12_trace_13 : decode cX12_trace 13 = .ok (.bipush 24, 2) := by decide +kernel
theorem dX12_trace_15 : decode cX12_trace 15 = .ok (.if_icmp .ge 12, 3) := by decide +kernel
theorem dX12_trace_18 : decode cX12_trace 18 = .ok (.aload_n 0, 1) := by decide +kernel
theorem dX12_trace_19 : decode cX12_trace 19 = .ok (.getfield 73, 3) := by decide +kernel
theorem dX12_trace_22 : decode cX12_trace 22 = .ok (.iload_n 1, 1) := by decide +kernel
theorem dX12_trace_23 : decode cX12_trace 23 = .ok (.iaload, 1) := by decide +kernel
theorem dX12_trace_24 : decode cX12_trace 24 = .ok (.goto 4, 3) := by decide +kernel
theorem dX12_trace_27 : decode cX12_trace 27 = .ok (.iconst (-1), 1) := by decide +kernel
theorem dX12_trace_28 : decode cX12_trace 28 = .ok (.ireturn, 1) := by decide +kernel
theorem dX12_keep_0 : decode cX12_keep 0 = .ok (.iload_n 1, 1) := by decide +kernel
theorem dX12_keep_1 : decode cX12_keep 1 = .ok (.invokestatic 113, 3) := by decide +kernel
theorem dX12_keep_4 : decode cX12_keep 4 = .ok (.ifCond .eq 16, 3) := by decide +kernel
theorem dX12_keep_7 : decode cX12_keep 7 = .ok (.iload_n 2, 1) := by decide +kernel
theorem dX12_keep_8 : decode cX12_keep 8 = .ok (.iconst (-1), 1) := by decide +kernel
theorem dX12_keep_9 : decode cX12_keep 9 = .ok (.if_icmp .eq 13, 3) := by decide +kernel
theorem dX12_keep_12 : decode cX12_keep 12 = .ok (.aload_n 0, 1) := by decide +kernel
theorem dX12_keep_13 : decode cX12_keep 13 = .ok (.iload_n 2, 1) := by decide +kernel
theorem dX12_keep_14 : decode cX12_keep 14 = .ok (.invokevirtual 359, 3) := by decide +kernel
theorem dX12_keep_17 : decode cX12_keep 17 = .ok (.ifCond .ne 5, 3) := by decide +kernel
theorem dX12_keep_20 : decode cX12_keep 20 = .ok (.iconst (-1), 1) := by decide +kernel
theorem dX12_keep_21 : decode cX12_keep 21 = .ok (.ireturn, 1) := by decide +kernel
theorem dX12_keep_22 : decode cX12_keep 22 = .ok (.aload_n 0, 1) := by decide +kernel
theorem dX12_keep_23 : decode cX12_keep 23 = .ok (.getfield 76, 3) := by decide +kernel
theorem dX12_keep_26 : decode cX12_keep 26 = .ok (.iload_n 1, 1) := by decide +kernel
theorem dX12_keep_27 : decode cX12_keep 27 = .ok (.iload_n 2, 1) := by decide +kernel
theorem dX12_keep_28 : decode cX12_keep 28 = .ok (.iastore, 1) := by decide +kernel
theorem dX12_keep_29 : decode cX12_keep 29 = .ok (.aload_n 0, 1) := by decide +kernel
theorem dX12_keep_30 : decode cX12_keep 30 = .ok (.getfield 79, 3) := by decide +kernel
theorem dX12_keep_33 : decode cX12_keep 33 = .ok (.iload_n 1, 1) := by decide +kernel
theorem dX12_keep_34 : decode cX12_keep 34 = .ok (.iconst 0, 1) := by decide +kernel
theorem dX12_keep_35 : decode cX12_keep 35 = .ok (.iastore, 1) := by decide +kernel
theorem dX12_keep_36 : decode cX12_keep 36 = .ok (.iconst 1, 1) := by decide +kernel
theorem dX12_keep_37 : decode cX12_keep 37 = .ok (.ireturn, 1) := by decide +kernel
theorem dX12_row_0 : decode cX12_row 0 = .ok (.iload_n 1, 1) := by decide +kernel
theorem dX12_row_1 : decode cX12_row 1 = .ok (.invokestatic 113, 3) := by decide +kernel
theorem dX12_row_4 : decode cX12_row 4 = .ok (.ifCond .eq 21, 3) := by decide +kernel
theorem dX12_row_7 : decode cX12_row 7 = .ok (.iload_n 2, 1) := by decide +kernel
theorem dX12_row_8 : decode cX12_row 8 = .ok (.i2l, 1) := by decide +kernel
theorem dX12_row_9 : decode cX12_row 9 = .ok (.lconst 0, 1) := by decide +kernel
theorem dX12_row_10 : decode cX12_row 10 = .ok (.ldc2_w 230, 3) := by decide +kernel
theorem dX12_row_13 : decode cX12_row 13 = .ok (.invokestatic 96, 3) := by decide +kernel
theorem dX12_row_16 : decode cX12_row 16 = .ok (.ifCond .eq 9, 3) := by decide +kernel
theorem dX12_row_19 : decode cX12_row 19 = .ok (.iload_n 3, 1) := by decide +kernel
theorem dX12_row_20 : decode cX12_row 20 = .ok (.bipush 60, 2) := by decide +kernel
theorem dX12_row_22 : decode cX12_row 22 = .ok (.if_icmp .le 5, 3) := by decide +kernel
theorem dX12_row_25 : decode cX12_row 25 = .ok (.iconst (-1), 1) := by decide +kernel
theorem dX12_row_26 : decode cX12_row 26 = .ok (.ireturn, 1) := by decide +kernel
theorem dX12_row_27 : decode cX12_row 27 = .ok (.iload_n 3, 1) := by decide +kernel
theorem dX12_row_28 : decode cX12_row 28 = .ok (.ifCond .ge 6, 3) := by decide +kernel
theorem dX12_row_31 : decode cX12_row 31 = .ok (.bipush (-14), 2) := by decide +kernel
theorem dX12_row_33 : decode cX12_row 33 = .ok (.ireturn, 1) := by decide +kernel
theorem dX12_row_34 : decode cX12_row 34 = .ok (.aload_n 0, 1) := by decide +kernel
theorem dX12_row_35 : decode cX12_row 35 = .ok (.getfield 76, 3) := by decide +kernel
theorem dX12_row_38 : decode cX12_row 38 = .ok (.iload_n 1, 1) := by decide +kernel
theorem dX12_row_39 : decode cX12_row 39 = .ok (.bipush 50, 2) := by decide +kernel
theorem dX12_row_41 : decode cX12_row 41 = .ok (.iload_n 2, 1) := by decide +kernel
theorem dX12_row_42 : decode cX12_row 42 = .ok (.iadd, 1) := by decide +kernel
theorem dX12_row_43 : decode cX12_row 43 = .ok (.iastore, 1) := by decide +kernel
theorem dX12_row_44 : decode cX12_row 44 = .ok (.aload_n 0, 1) := by decide +kernel
theorem dX12_row_45 : decode cX12_row 45 = .ok (.getfield 79, 3) := by decide +kernel
theorem dX12_row_48 : decode cX12_row 48 = .ok (.iload_n 1, 1) := by decide +kernel
theorem dX12_row_49 : decode cX12_row 49 = .ok (.iload_n 3, 1) := by decide +kernel
theorem dX12_row_50 : decode cX12_row 50 = .ok (.iastore, 1) := by decide +kernel
theorem dX12_row_51 : decode cX12_row 51 = .ok (.bipush 60, 2) := by decide +kernel
theorem dX12_row_53 : decode cX12_row 53 = .ok (.iload_n 1, 1) := by decide +kernel
theorem dX12_row_54 : decode cX12_row 54 = .ok (.imul, 1) := by decide +kernel
theorem dX12_row_55 : decode cX12_row 55 = .ok (.istore 4, 2) := by decide +kernel
theorem dX12_row_57 : decode cX12_row 57 = .ok (.iload 4, 2) := by decide +kernel
theorem dX12_row_59 : decode cX12_row 59 = .ok (.bipush 60, 2) := by decide +kernel
theorem dX12_row_61 : decode cX12_row 61 = .ok (.iload_n 1, 1) := by decide +kernel
theorem dX12_row_62 : decode cX12_row 62 = .ok (.imul, 1) := by decide +kernel
theorem dX12_row_63 : decode cX12_row 63 = .ok (.bipush 60, 2) := by decide +kernel
theorem dX12_row_65 : decode cX12_row 65 = .ok (.iadd, 1) := by decide +kernel
theorem dX12_row_66 : decode cX12_row 66 = .ok (.if_icmp .ge 17, 3) := by decide +kernel
theorem dX12_row_69 : decode cX12_row 69 = .ok (.aload_n 0, 1) := by decide +kernel
theorem dX12_row_70 : decode cX12_row 70 = .ok (.getfield 82, 3) := by decide +kernel
theorem dX12_row_73 : decode cX12_row 73 = .ok (.iload 4, 2) := by decide +kernel
theorem dX12_row_75 : decode cX12_row 75 = .ok (.lconst 0, 1) := by decide +kernel
theorem dX12_row_76 : decode cX12_row 76 = .ok (.lastore, 1) := by decide +kernel
theorem dX12_row_77 : decode cX12_row 77 = .ok (.iinc 4 1, 3) := by decide +kernel
theorem dX12_row_80 : decode cX12_row 80 = .ok (.goto (-23), 3) := by decide +kernel
theorem dX12_row_83 : decode cX12_row 83 = .ok (.iconst 1, 1) := by decide +kernel
theorem dX12_row_84 : decode cX12_row 84 = .ok (.ireturn, 1) := by decide +kernel
theorem dX12_refusal_0 : decode cX12_refusal 0 = .ok (.iload_n 1, 1) := by decide +kernel
theorem dX12_refusal_1 : decode cX12_refusal 1 = .ok (.invokestatic 113, 3) := by decide +kernel
theorem dX12_refusal_4 : decode cX12_refusal 4 = .ok (.ifCond .ne 5, 3) := by decide +kernel
theorem dX12_refusal_7 : decode cX12_refusal 7 = .ok (.iconst (-1), 1) := by decide +kernel
theorem dX12_refusal_8 : decode cX12_refusal 8 = .ok (.ireturn, 1) := by decide +kernel
theorem dX12_refusal_9 : decode cX12_refusal 9 = .ok (.aload_n 0, 1) := by decide +kernel
theorem dX12_refusal_10 : decode cX12_refusal 10 = .ok (.getfield 76, 3) := by decide +kernel
theorem dX12_refusal_13 : decode cX12_refusal 13 = .ok (.iload_n 1, 1) := by decide +kernel
theorem dX12_refusal_14 : decode cX12_refusal 14 = .ok (.iaload, 1) := by decide +kernel
theorem dX12_refusal_15 : decode cX12_refusal 15 = .ok (.ifCond .ge 6, 3) := by decide +kernel
theorem dX12_refusal_18 : decode cX12_refusal 18 = .ok (.bipush (-11), 2) := by decide +kernel
theorem dX12_refusal_20 : decode cX12_refusal 20 = .ok (.ireturn, 1) := by decide +kernel
theorem dX12_refusal_21 : decode cX12_refusal 21 = .ok (.aload_n 0, 1) := by decide +kernel
theorem dX12_refusal_22 : decode cX12_refusal 22 = .ok (.getfield 76, 3) := by decide +kernel
theorem dX12_refusal_25 : decode cX12_refusal 25 = .ok (.iload_n 1, 1) := by decide +kernel
theorem dX12_refusal_26 : decode cX12_refusal 26 = .ok (.iaload, 1) := by decide +kernel
theorem dX12_refusal_27 : decode cX12_refusal 27 = .ok (.bipush 50, 2) := by decide +kernel
theorem dX12_refusal_29 : decode cX12_refusal 29 = .ok (.if_icmp .ge 6, 3) := by decide +kernel
theorem dX12_refusal_32 : decode cX12_refusal 32 = .ok (.bipush (-12), 2) := by decide +kernel
theorem dX12_refusal_34 : decode cX12_refusal 34 = .ok (.ireturn, 1) := by decide +kernel
theorem dX12_refusal_35 : decode cX12_refusal 35 = .ok (.iload_n 2, 1) := by decide +kernel
theorem dX12_refusal_36 : decode cX12_refusal 36 = .ok (.ifCond .lt 17, 3) := by decide +kernel
theorem dX12_refusal_39 : decode cX12_refusal 39 = .ok (.iload_n 2, 1) := by decide +kernel
theorem dX12_refusal_40 : decode cX12_refusal 40 = .ok (.aload_n 0, 1) := by decide +kernel
theorem dX12_refusal_41 : decode cX12_refusal 41 = .ok (.getfield 79, 3) := by decide +kernel
theorem dX12_refusal_44 : decode cX12_refusal 44 = .ok (.iload_n 1, 1) := by decide +kernel
theorem dX12_refusal_45 : decode cX12_refusal 45 = .ok (.iaload, 1) := by decide +kernel
theorem dX12_refusal_46 : decode cX12_refusal 46 = .ok (.if_icmp .ge 7, 3) := by decide +kernel
theorem dX12_refusal_49 : decode cX12_refusal 49 = .ok (.iconst 0, 1) := by decide +kernel
theorem dX12_refusal_50 : decode cX12_refusal 50 = .ok (.goto 5, 3) := by decide +kernel
theorem dX12_refusal_53 : decode cX12_refusal 53 = .ok (.bipush (-13), 2) := by decide +kernel
theorem dX12_refusal_55 : decode cX12_refusal 55 = .ok (.ireturn, 1) := by decide +kernel
theorem dX12_asSort_0 : decode cX12_asSort 0 = .ok (.iload_n 0, 1) := by decide +kernel
theorem dX12_asSort_1 : decode cX12_asSort 1 = .ok (.ifCond .ne 10, 3) := by decide +kernel
theorem dX12_asSort_4 : decode cX12_asSort 4 = .ok (.lload_n 1, 1) := by decide +kernel
theorem dX12_asSort_5 : decode cX12_asSort 5 = .ok (.l2i, 1) := by decide +kernel
theorem dX12_asSort_6 : decode cX12_asSort 6 = .ok (.i2b, 1) := by decide +kernel
theorem dX12_asSort_7 : decode cX12_asSort 7 = .ok (.i2l, 1) := by decide +kernel
theorem dX12_asSort_8 : decode cX12_asSort 8 = .ok (.goto 46, 3) := by decide +kernel
theorem dX12_asSort_11 : decode cX12_asSort 11 = .ok (.iload_n 0, 1) := by decide +kernel
theorem dX12_asSort_12 : decode cX12_asSort 12 = .ok (.iconst 1, 1) := by decide +kernel
theorem dX12_asSort_13 : decode cX12_asSort 13 = .ok (.if_icmp .ne 10, 3) := by decide +kernel
theorem dX12_asSort_16 : decode cX12_asSort 16 = .ok (.lload_n 1, 1) := by decide +kernel
theorem dX12_asSort_17 : decode cX12_asSort 17 = .ok (.l2i, 1) := by decide +kernel
theorem dX12_asSort_18 : decode cX12_asSort 18 = .ok (.i2s, 1) := by decide +kernel
theorem dX12_asSort_19 : decode cX12_asSort 19 = .ok (.i2l, 1) := by decide +kernel
theorem dX12_asSort_20 : decode cX12_asSort 20 = .ok (.goto 34, 3) := by decide +kernel
theorem dX12_asSort_23 : decode cX12_asSort 23 = .ok (.iload_n 0, 1) := by decide +kernel
theorem dX12_asSort_24 : decode cX12_asSort 24 = .ok (.iconst 2, 1) := by decide +kernel
theorem dX12_asSort_25 : decode cX12_asSort 25 = .ok (.if_icmp .ne 9, 3) := by decide +kernel
theorem dX12_asSort_28 : decode cX12_asSort 28 = .ok (.lload_n 1, 1) := by decide +kernel
theorem dX12_asSort_29 : decode cX12_asSort 29 = .ok (.l2i, 1) := by decide +kernel
theorem dX12_asSort_30 : decode cX12_asSort 30 = .ok (.i2l, 1) := by decide +kernel
theorem dX12_asSort_31 : decode cX12_asSort 31 = .ok (.goto 23, 3) := by decide +kernel
theorem dX12_asSort_34 : decode cX12_asSort 34 = .ok (.iload_n 0, 1) := by decide +kernel
theorem dX12_asSort_35 : decode cX12_asSort 35 = .ok (.iconst 4, 1) := by decide +kernel
theorem dX12_asSort_36 : decode cX12_asSort 36 = .ok (.if_icmp .ne 17, 3) := by decide +kernel
theorem dX12_asSort_39 : decode cX12_asSort 39 = .ok (.lload_n 1, 1) := by decide +kernel
theorem dX12_asSort_40 : decode cX12_asSort 40 = .ok (.lconst 0, 1) := by decide +kernel
theorem dX12_asSort_41 : decode cX12_asSort 41 = .ok (.lcmp, 1) := by decide +kernel
theorem dX12_asSort_42 : decode cX12_asSort 42 = .ok (.ifCond .eq 7, 3) := by decide +kernel
theorem dX12_asSort_45 : decode cX12_asSort 45 = .ok (.lconst 1, 1) := by decide +kernel
theorem dX12_asSort_46 : decode cX12_asSort 46 = .ok (.goto 8, 3) := by decide +kernel
theorem dX12_asSort_49 : decode cX12_asSort 49 = .ok (.lconst 0, 1) := by decide +kernel
theorem dX12_asSort_50 : decode cX12_asSort 50 = .ok (.goto 4, 3) := by decide +kernel
theorem dX12_asSort_53 : decode cX12_asSort 53 = .ok (.lload_n 1, 1) := by decide +kernel
theorem dX12_asSort_54 : decode cX12_asSort 54 = .ok (.lreturn, 1) := by decide +kernel
theorem dX12_put_0 : decode cX12_put 0 = .ok (.aload_n 0, 1) := by decide +kernel
theorem dX12_put_1 : decode cX12_put 1 = .ok (.iload_n 1, 1) := by decide +kernel
theorem dX12_put_2 : decode cX12_put 2 = .ok (.iload_n 2, 1) := by decide +kernel
theorem dX12_put_3 : decode cX12_put 3 = .ok (.invokevirtual 364, 3) := by decide +kernel
theorem dX12_put_6 : decode cX12_put 6 = .ok (.istore 5, 2) := by decide +kernel
theorem dX12_put_8 : decode cX12_put 8 = .ok (.iload 5, 2) := by decide +kernel
theorem dX12_put_10 : decode cX12_put 10 = .ok (.ifCond .ne 27, 3) := by decide +kernel
theorem dX12_put_13 : decode cX12_put 13 = .ok (.aload_n 0, 1) := by decide +kernel
theorem dX12_put_14 : decode cX12_put 14 = .ok (.getfield 82, 3) := by decide +kernel
theorem dX12_put_17 : decode cX12_put 17 = .ok (.bipush 60, 2) := by decide +kernel
theorem dX12_put_19 : decode cX12_put 19 = .ok (.iload_n 1, 1) := by decide +kernel
theorem dX12_put_20 : decode cX12_put 20 = .ok (.imul, 1) := by decide +kernel
theorem dX12_put_21 : decode cX12_put 21 = .ok (.iload_n 2, 1) := by decide +kernel
theorem dX12_put_22 : decode cX12_put 22 = .ok (.iadd, 1) := by decide +kernel
theorem dX12_put_23 : decode cX12_put 23 = .ok (.aload_n 0, 1) := by decide +kernel
theorem dX12_put_24 : decode cX12_put 24 = .ok (.getfield 76, 3) := by decide +kernel
theorem dX12_put_27 : decode cX12_put 27 = .ok (.iload_n 1, 1) := by decide +kernel
theorem dX12_put_28 : decode cX12_put 28 = .ok (.iaload, 1) := by decide +kernel
theorem dX12_put_29 : decode cX12_put 29 = .ok (.bipush 50, 2) := by decide +kernel
theorem dX12_put_31 : decode cX12_put 31 = .ok (.isub, 1) := by decide +kernel
theorem dX12_put_32 : decode cX12_put 32 = .ok (.lload_n 3, 1) := by decide +kernel
theorem dX12_put_33 : decode cX12_put 33 = .ok (.invokestatic 367, 3) := by decide +kernel
theorem dX12_put_36 : decode cX12_put 36 = .ok (.lastore, 1) := by decide +kernel
theorem dX12_put_37 : decode cX12_put 37 = .ok (.iload 5, 2) := by decide +kernel
theorem dX12_put_39 : decode cX12_put 39 = .ok (.ifCond .ne 7, 3) := by decide +kernel
theorem dX12_put_42 : decode cX12_put 42 = .ok (.iconst 1, 1) := by decide +kernel
theorem dX12_put_43 : decode cX12_put 43 = .ok (.goto 5, 3) := by decide +kernel
theorem dX12_put_46 : decode cX12_put 46 = .ok (.iload 5, 2) := by decide +kernel
theorem dX12_put_48 : decode cX12_put 48 = .ok (.ireturn, 1) := by decide +kernel
theorem dX12_element_0 : decode cX12_element 0 = .ok (.aload_n 0, 1) := by decide +kernel
theorem dX12_element_1 : decode cX12_element 1 = .ok (.iload_n 1, 1) := by decide +kernel
theorem dX12_element_2 : decode cX12_element 2 = .ok (.iload_n 2, 1) := by decide +kernel
theorem dX12_element_3 : decode cX12_element 3 = .ok (.invokevirtual 364, 3) := by decide +kernel
theorem dX12_element_6 : decode cX12_element 6 = .ok (.ifCond .eq 9, 3) := by decide +kernel
theorem dX12_element_9 : decode cX12_element 9 = .ok (.ldc2_w 373, 3) := by decide +kernel
theorem dX12_element_12 : decode cX12_element 12 = .ok (.goto 14, 3) := by decide +kernel
theorem dX12_element_15 : decode cX12_element 15 = .ok (.aload_n 0, 1) := by decide +kernel
theorem dX12_element_16 : decode cX12_element 16 = .ok (.getfield 82, 3) := by decide +kernel
theorem dX12_element_19 : decode cX12_element 19 = .ok (.bipush 60, 2) := by decide +kernel
theorem dX12_element_21 : decode cX12_element 21 = .ok (.iload_n 1, 1) := by decide +kernel
theorem dX12_element_22 : decode cX12_element 22 = .ok (.imul, 1) := by decide +kernel
theorem dX12_element_23 : decode cX12_element 23 = .ok (.iload_n 2, 1) := by decide +kernel
theorem dX12_element_24 : decode cX12_element 24 = .ok (.iadd, 1) := by decide +kernel
theorem dX12_element_25 : decode cX12_element 25 = .ok (.laload, 1) := by decide +kernel
theorem dX12_element_26 : decode cX12_element 26 = .ok (.lreturn, 1) := by decide +kernel
theorem dX12_shift_0 : decode cX12_shift 0 = .ok (.iload_n 1, 1) := by decide +kernel
theorem dX12_shift_1 : decode cX12_shift 1 = .ok (.invokestatic 113, 3) := by decide +kernel
theorem dX12_shift_4 : decode cX12_shift 4 = .ok (.ifCond .eq 10, 3) := by decide +kernel
theorem dX12_shift_7 : decode cX12_shift 7 = .ok (.iload_n 3, 1) := by decide +kernel
theorem dX12_shift_8 : decode cX12_shift 8 = .ok (.invokestatic 113, 3) := by decide +kernel
theorem dX12_shift_11 : decode cX12_shift 11 = .ok (.ifCond .ne 5, 3) := by decide +kernel
theorem dX12_shift_14 : decode cX12_shift 14 = .ok (.iconst (-1), 1) := by decide +kernel
theorem dX12_shift_15 : decode cX12_shift 15 = .ok (.ireturn, 1) := by decide +kernel
theorem dX12_shift_16 : decode cX12_shift 16 = .ok (.aload_n 0, 1) := by decide +kernel
theorem dX12_shift_17 : decode cX12_shift 17 = .ok (.getfield 76, 3) := by decide +kernel
theorem dX12_shift_20 : decode cX12_shift 20 = .ok (.iload_n 1, 1) := by decide +kernel
theorem dX12_shift_21 : decode cX12_shift 21 = .ok (.iaload, 1) := by decide +kernel
theorem dX12_shift_22 : decode cX12_shift 22 = .ok (.ifCond .lt 12, 3) := by decide +kernel
theorem dX12_shift_25 : decode cX12_shift 25 = .ok (.aload_n 0, 1) := by decide +kernel
theorem dX12_shift_26 : decode cX12_shift 26 = .ok (.getfield 76, 3) := by decide +kernel
theorem dX12_shift_29 : decode cX12_shift 29 = .ok (.iload_n 3, 1) := by decide +kernel
theorem dX12_shift_30 : decode cX12_shift 30 = .ok (.iaload, 1) := by decide +kernel
theorem dX12_shift_31 : decode cX12_shift 31 = .ok (.ifCond .ge 6, 3) := by decide +kernel
theorem dX12_shift_34 : decode cX12_shift 34 = .ok (.bipush (-11), 2) := by decide +kernel
theorem dX12_shift_36 : decode cX12_shift 36 = .ok (.ireturn, 1) := by decide +kernel
theorem dX12_shift_37 : decode cX12_shift 37 = .ok (.aload_n 0, 1) := by decide +kernel
theorem dX12_shift_38 : decode cX12_shift 38 = .ok (.getfield 76, 3) := by decide +kernel
theorem dX12_shift_41 : decode cX12_shift 41 = .ok (.iload_n 1, 1) := by decide +kernel
theorem dX12_shift_42 : decode cX12_shift 42 = .ok (.iaload, 1) := by decide +kernel
theorem dX12_shift_43 : decode cX12_shift 43 = .ok (.bipush 50, 2) := by decide +kernel
theorem dX12_shift_45 : decode cX12_shift 45 = .ok (.if_icmp .lt 18, 3) := by decide +kernel
theorem dX12_shift_48 : decode cX12_shift 48 = .ok (.aload_n 0, 1) := by decide +kernel
theorem dX12_shift_49 : decode cX12_shift 49 = .ok (.getfield 76, 3) := by decide +kernel
theorem dX12_shift_52 : decode cX12_shift 52 = .ok (.iload_n 1, 1) := by decide +kernel
theorem dX12_shift_53 : decode cX12_shift 53 = .ok (.iaload, 1) := by decide +kernel
theorem dX12_shift_54 : decode cX12_shift 54 = .ok (.aload_n 0, 1) := by decide +kernel
theorem dX12_shift_55 : decode cX12_shift 55 = .ok (.getfield 76, 3) := by decide +kernel
theorem dX12_shift_58 : decode cX12_shift 58 = .ok (.iload_n 3, 1) := by decide +kernel
theorem dX12_shift_59 : decode cX12_shift 59 = .ok (.iaload, 1) := by decide +kernel
theorem dX12_shift_60 : decode cX12_shift 60 = .ok (.if_icmp .eq 6, 3) := by decide +kernel
theorem dX12_shift_63 : decode cX12_shift 63 = .ok (.bipush (-12), 2) := by decide +kernel
theorem dX12_shift_65 : decode cX12_shift 65 = .ok (.ireturn, 1) := by decide +kernel
theorem dX12_shift_66 : decode cX12_shift 66 = .ok (.iload 5, 2) := by decide +kernel
theorem dX12_shift_68 : decode cX12_shift 68 = .ok (.ifCond .lt 39, 3) := by decide +kernel
theorem dX12_shift_71 : decode cX12_shift 71 = .ok (.iload_n 2, 1) := by decide +kernel
theorem dX12_shift_72 : decode cX12_shift 72 = .ok (.ifCond .lt 35, 3) := by decide +kernel
theorem dX12_shift_75 : decode cX12_shift 75 = .ok (.iload 4, 2) := by decide +kernel
theorem dX12_shift_77 : decode cX12_shift 77 = .ok (.ifCond .lt 30, 3) := by decide +kernel
theorem dX12_shift_80 : decode cX12_shift 80 = .ok (.iload_n 2, 1) := by decide +kernel
theorem dX12_shift_81 : decode cX12_shift 81 = .ok (.aload_n 0, 1) := by decide +kernel
theorem dX12_shift_82 : decode cX12_shift 82 = .ok (.getfield 79, 3) := by decide +kernel
theorem dX12_shift_85 : decode cX12_shift 85 = .ok (.iload_n 1, 1) := by decide +kernel
theorem dX12_shift_86 : decode cX12_shift 86 = .ok (.iaload, 1) := by decide +kernel
theorem dX12_shift_87 : decode cX12_shift 87 = .ok (.iload 5, 2) := by decide +kernel
theorem dX12_shift_89 : decode cX12_shift 89 = .ok (.isub, 1) := by decide +kernel
theorem dX12_shift_90 : decode cX12_shift 90 = .ok (.if_icmp .gt 17, 3) := by decide +kernel
theorem dX12_shift_93 : decode cX12_shift 93 = .ok (.iload 4, 2) := by decide +kernel
theorem dX12_shift_95 : decode cX12_shift 95 = .ok (.aload_n 0, 1) := by decide +kernel
theorem dX12_shift_96 : decode cX12_shift 96 = .ok (.getfield 79, 3) := by decide +kernel
theorem dX12_shift_99 : decode cX12_shift 99 = .ok (.iload_n 3, 1) := by decide +kernel
theorem dX12_shift_100 : decode cX12_shift 100 = .ok (.iaload, 1) := by decide +kernel
theorem dX12_shift_101 : decode cX12_shift 101 = .ok (.iload 5, 2) := by decide +kernel
theorem dX12_shift_103 : decode cX12_shift 103 = .ok (.isub, 1) := by decide +kernel
theorem dX12_shift_104 : decode cX12_shift 104 = .ok (.if_icmp .le 6, 3) := by decide +kernel
theorem dX12_shift_107 : decode cX12_shift 107 = .ok (.bipush (-13), 2) := by decide +kernel
theorem dX12_shift_109 : decode cX12_shift 109 = .ok (.ireturn, 1) := by decide +kernel
theorem dX12_shift_110 : decode cX12_shift 110 = .ok (.iconst 0, 1) := by decide +kernel
theorem dX12_shift_111 : decode cX12_shift 111 = .ok (.istore 6, 2) := by decide +kernel
theorem dX12_shift_113 : decode cX12_shift 113 = .ok (.iload 6, 2) := by decide +kernel
theorem dX12_shift_115 : decode cX12_shift 115 = .ok (.iload 5, 2) := by decide +kernel
theorem dX12_shift_117 : decode cX12_shift 117 = .ok (.if_icmp .ge 30, 3) := by decide +kernel
theorem dX12_shift_120 : decode cX12_shift 120 = .ok (.aload_n 0, 1) := by decide +kernel
theorem dX12_shift_121 : decode cX12_shift 121 = .ok (.getfield 86, 3) := by decide +kernel
theorem dX12_shift_124 : decode cX12_shift 124 = .ok (.iload 6, 2) := by decide +kernel
theorem dX12_shift_126 : decode cX12_shift 126 = .ok (.aload_n 0, 1) := by decide +kernel
theorem dX12_shift_127 : decode cX12_shift 127 = .ok (.getfield 82, 3) := by decide +kernel
theorem dX12_shift_130 : decode cX12_shift 130 = .ok (.bipush 60, 2) := by decide +kernel
theorem dX12_shift_132 : decode cX12_shift 132 = .ok (.iload_n 1, 1) := by decide +kernel
theorem dX12_shift_133 : decode cX12_shift 133 = .ok (.imul, 1) := by decide +kernel
theorem dX12_shift_134 : decode cX12_shift 134 = .ok (.iload_n 2, 1) := by decide +kernel
theorem dX12_shift_135 : decode cX12_shift 135 = .ok (.iadd, 1) := by decide +kernel
theorem dX12_shift_136 : decode cX12_shift 136 = .ok (.iload 6, 2) := by decide +kernel
theorem dX12_shift_138 : decode cX12_shift 138 = .ok (.iadd, 1) := by decide +kernel
theorem dX12_shift_139 : decode cX12_shift 139 = .ok (.laload, 1) := by decide +kernel
theorem dX12_shift_140 : decode cX12_shift 140 = .ok (.lastore, 1) := by decide +kernel
theorem dX12_shift_141 : decode cX12_shift 141 = .ok (.iinc 6 1, 3) := by decide +kernel
theorem dX12_shift_144 : decode cX12_shift 144 = .ok (.goto (-31), 3) := by decide +kernel
theorem dX12_shift_147 : decode cX12_shift 147 = .ok (.iconst 0, 1) := by decide +kernel
theorem dX12_shift_148 : decode cX12_shift 148 = .ok (.istore 6, 2) := by decide +kernel
theorem dX12_shift_150 : decode cX12_shift 150 = .ok (.iload 6, 2) := by decide +kernel
theorem dX12_shift_152 : decode cX12_shift 152 = .ok (.iload 5, 2) := by decide +kernel
theorem dX12_shift_154 : decode cX12_shift 154 = .ok (.if_icmp .ge 31, 3) := by decide +kernel
theorem dX12_shift_157 : decode cX12_shift 157 = .ok (.aload_n 0, 1) := by decide +kernel
theorem dX12_shift_158 : decode cX12_shift 158 = .ok (.getfield 82, 3) := by decide +kernel
theorem dX12_shift_161 : decode cX12_shift 161 = .ok (.bipush 60, 2) := by decide +kernel
theorem dX12_shift_163 : decode cX12_shift 163 = .ok (.iload_n 3, 1) := by decide +kernel
theorem dX12_shift_164 : decode cX12_shift 164 = .ok (.imul, 1) := by decide +kernel
theorem dX12_shift_165 : decode cX12_shift 165 = .ok (.iload 4, 2) := by decide +kernel
theorem dX12_shift_167 : decode cX12_shift 167 = .ok (.iadd, 1) := by decide +kernel
theorem dX12_shift_168 : decode cX12_shift 168 = .ok (.iload 6, 2) := by decide +kernel
theorem dX12_shift_170 : decode cX12_shift 170 = .ok (.iadd, 1) := by decide +kernel
theorem dX12_shift_171 : decode cX12_shift 171 = .ok (.aload_n 0, 1) := by decide +kernel
theorem dX12_shift_172 : decode cX12_shift 172 = .ok (.getfield 86, 3) := by decide +kernel
theorem dX12_shift_175 : decode cX12_shift 175 = .ok (.iload 6, 2) := by decide +kernel
theorem dX12_shift_177 : decode cX12_shift 177 = .ok (.laload, 1) := by decide +kernel
theorem dX12_shift_178 : decode cX12_shift 178 = .ok (.lastore, 1) := by decide +kernel
theorem dX12_shift_179 : decode cX12_shift 179 = .ok (.iinc 6 1, 3) := by decide +kernel
theorem dX12_shift_182 : decode cX12_shift 182 = .ok (.goto (-32), 3) := by decide +kernel
theorem dX12_shift_185 : decode cX12_shift 185 = .ok (.iload 5, 2) := by decide +kernel
theorem dX12_shift_187 : decode cX12_shift 187 = .ok (.ireturn, 1) := by decide +kernel
theorem fl_X12_323 : Cond.fieldLink RX12 323 (TX12 34).1 (TX12 34).2.1 (TX12 34).2.2.1 ∈ wsL_law := (uw47 _ (List.mem_of_getElem? (i := 16) rfl))
theorem fl_X12_327 : Cond.fieldLink RX12 327 (TX12 35).1 (TX12 35).2.1 (TX12 35).2.2.1 ∈ wsL_law := (uw47 _ (List.mem_of_getElem? (i := 17) rfl))
theorem fl_X12_330 : Cond.fieldLink RX12 330 (TX12 37).1 (TX12 37).2.1 (TX12 37).2.2.1 ∈ wsL_law := (uw50 _ (List.mem_of_getElem? (i := 19) rfl))
theorem fl_X12_335 : Cond.fieldLink RX12 335 (TX12 40).1 (TX12 40).2.1 (TX12 40).2.2.1 ∈ wsL_law := (uw52 _ (List.mem_of_getElem? (i := 13) rfl))
theorem fl_X12_344 : Cond.fieldLink RX12 344 (TX12 42).1 (TX12 42).2.1 (TX12 42).2.2.1 ∈ wsL_law := (uw52 _ (List.mem_of_getElem? (i := 15) rfl))
theorem fl_X12_350 : Cond.fieldLink RX12 350 (TX12 41).1 (TX12 41).2.1 (TX12 41).2.2.1 ∈ wsL_law := (uw52 _ (List.mem_of_getElem? (i := 14) rfl))
theorem fl_X12_67 : Cond.fieldLink RX12 67 (TX12 36).1 (TX12 36).2.1 (TX12 36).2.2.1 ∈ wsL_law := (uw8 _ (List.mem_of_getElem? (i := 17) rfl))
theorem fl_X12_70 : Cond.fieldLink RX12 70 (TX12 38).1 (TX12 38).2.1 (TX12 38).2.2.1 ∈ wsL_law := (uw8 _ (List.mem_of_getElem? (i := 18) rfl))
theorem fl_X12_73 : Cond.fieldLink RX12 73 (TX12 39).1 (TX12 39).2.1 (TX12 39).2.2.1 ∈ wsL_law := (uw8 _ (List.mem_of_getElem? (i := 19) rfl))
theorem fl_X12_86 : Cond.fieldLink RX12 86 (TX12 46).1 (TX12 46).2.1 (TX12 46).2.2.1 ∈ wsL_law := (uw8 _ (List.mem_of_getElem? (i := 23) rfl))
theorem hy_X12_asSort : Cond.code yX12_asSort cX12_asSort 3 (some .long) ∈ wsL_law ∧ Cond.initialized yX12_asSort.cls ∈ wsL_law ∧ Cond.static yX12_asSort ∈ wsL_law := ⟨(uw56 _ (List.mem_of_getElem? (i := 14) rfl)), (uw1 _ (List.mem_of_getElem? (i := 5) rfl)), (uw56 _ (List.mem_of_getElem? (i := 13) rfl))⟩
theorem hd_X12_asSort : yX12_asSort.cls ≠ "java/lang/invoke/MethodHandle" ∧ yX12_asSort.cls ≠ "java/lang/invoke/VarHandle" ∧ (parseMethodDescriptor yX12_asSort.desc).map (fun d => d.parameters.length) = some 2 := ⟨by decide +kernel, by decide +kernel, by decide +kernel⟩
theorem hy_X12_begins : Cond.code yX12_begins cX12_begins 2 none ∈ wsL_law ∧ Cond.initialized yX12_begins.cls ∈ wsL_law ∧ Cond.instanceMethod yX12_begins ∈ wsL_law ∧ Cond.selects yX12_begins.cls yX12_begins yX12_begins ∈ wsL_law := ⟨(uw53 _ (List.mem_of_getElem? (i := 3) rfl)), (uw1 _ (List.mem_of_getElem? (i := 5) rfl)), (uw53 _ (List.mem_of_getElem? (i := 1) rfl)), (uw53 _ (List.mem_of_getElem? (i := 2) rfl))⟩
theorem hd_X12_begins : yX12_begins.cls ≠ "java/lang/invoke/MethodHandle" ∧ yX12_begins.cls ≠ "java/lang/invoke/VarHandle" ∧ (parseMethodDescriptor yX12_begins.desc).map (fun d => d.parameters.length) = some 1 := ⟨by decide +kernel, by decide +kernel, by decide +kernel⟩
theorem hy_X12_isBody : Cond.code yX12_isBody cX12_isBody 2 (some .boolean) ∈ wsL_law ∧ Cond.initialized yX12_isBody.cls ∈ wsL_law ∧ Cond.instanceMethod yX12_isBody ∈ wsL_law ∧ Cond.selects yX12_isBody.cls yX12_isBody yX12_isBody ∈ wsL_law := ⟨(uw52 _ (List.mem_of_getElem? (i := 19) rfl)), (uw1 _ (List.mem_of_getElem? (i := 5) rfl)), (uw52 _ (List.mem_of_getElem? (i := 17) rfl)), (uw52 _ (List.mem_of_getElem? (i := 18) rfl))⟩
theorem hd_X12_isBody : yX12_isBody.cls ≠ "java/lang/invoke/MethodHandle" ∧ yX12_isBody.cls ≠ "java/lang/invoke/VarHandle" ∧ (parseMethodDescriptor yX12_isBody.desc).map (fun d => d.parameters.length) = some 1 := ⟨by decide +kernel, by decide +kernel, by decide +kernel⟩
theorem hy_X12_movesAs : Cond.code yX12_movesAs cX12_movesAs 4 (some .int) ∈ wsL_law ∧ Cond.initialized yX12_movesAs.cls ∈ wsL_law ∧ Cond.instanceMethod yX12_movesAs ∈ wsL_law ∧ Cond.selects yX12_movesAs.cls yX12_movesAs yX12_movesAs ∈ wsL_law := ⟨(uw53 _ (List.mem_of_getElem? (i := 11) rfl)), (uw1 _ (List.mem_of_getElem? (i := 5) rfl)), (uw53 _ (List.mem_of_getElem? (i := 9) rfl)), (uw53 _ (List.mem_of_getElem? (i := 10) rfl))⟩
theorem hd_X12_movesAs : yX12_movesAs.cls ≠ "java/lang/invoke/MethodHandle" ∧ yX12_movesAs.cls ≠ "java/lang/invoke/VarHandle" ∧ (parseMethodDescriptor yX12_movesAs.desc).map (fun d => d.parameters.length) = some 2 := ⟨by decide +kernel, by decide +kernel, by decide +kernel⟩
theorem hy_X12_refusal : Cond.code yX12_refusal cX12_refusal 3 (some .int) ∈ wsL_law ∧ Cond.initialized yX12_refusal.cls ∈ wsL_law ∧ Cond.instanceMethod yX12_refusal ∈ wsL_law ∧ Cond.selects yX12_refusal.cls yX12_refusal yX12_refusal ∈ wsL_law := ⟨(uw56 _ (List.mem_of_getElem? (i := 11) rfl)), (uw1 _ (List.mem_of_getElem? (i := 5) rfl)), (uw56 _ (List.mem_of_getElem? (i := 9) rfl)), (uw56 _ (List.mem_of_getElem? (i := 10) rfl))⟩
theorem hd_X12_refusal : yX12_refusal.cls ≠ "java/lang/invoke/MethodHandle" ∧ yX12_refusal.cls ≠ "java/lang/invoke/VarHandle" ∧ (parseMethodDescriptor yX12_refusal.desc).map (fun d => d.parameters.length) = some 2 := ⟨by decide +kernel, by decide +kernel, by decide +kernel⟩
theorem hy_X12_saysAs : Cond.code yX12_saysAs cX12_saysAs 3 (some .int) ∈ wsL_law ∧ Cond.initialized yX12_saysAs.cls ∈ wsL_law ∧ Cond.instanceMethod yX12_saysAs ∈ wsL_law ∧ Cond.selects yX12_saysAs.cls yX12_saysAs yX12_saysAs ∈ wsL_law := ⟨(uw52 _ (List.mem_of_getElem? (i := 23) rfl)), (uw1 _ (List.mem_of_getElem? (i := 5) rfl)), (uw52 _ (List.mem_of_getElem? (i := 21) rfl)), (uw52 _ (List.mem_of_getElem? (i := 22) rfl))⟩
theorem hd_X12_saysAs : yX12_saysAs.cls ≠ "java/lang/invoke/MethodHandle" ∧ yX12_saysAs.cls ≠ "java/lang/invoke/VarHandle" ∧ (parseMethodDescriptor yX12_saysAs.desc).map (fun d => d.parameters.length) = some 2 := ⟨by decide +kernel, by decide +kernel, by decide +kernel⟩
theorem hy_X12_standsAs : Cond.code yX12_standsAs cX12_standsAs 4 (some .int) ∈ wsL_law ∧ Cond.initialized yX12_standsAs.cls ∈ wsL_law ∧ Cond.instanceMethod yX12_standsAs ∈ wsL_law ∧ Cond.selects yX12_standsAs.cls yX12_standsAs yX12_standsAs ∈ wsL_law := ⟨(uw53 _ (List.mem_of_getElem? (i := 7) rfl)), (uw1 _ (List.mem_of_getElem? (i := 5) rfl)), (uw53 _ (List.mem_of_getElem? (i := 5) rfl)), (uw53 _ (List.mem_of_getElem? (i := 6) rfl))⟩
theorem hd_X12_standsAs : yX12_standsAs.cls ≠ "java/lang/invoke/MethodHandle" ∧ yX12_standsAs.cls ≠ "java/lang/invoke/VarHandle" ∧ (parseMethodDescriptor yX12_standsAs.desc).map (fun d => d.parameters.length) = some 2 := ⟨by decide +kernel, by decide +kernel, by decide +kernel⟩
theorem hy_X12_tellsAs : Cond.code yX12_tellsAs cX12_tellsAs 4 (some .int) ∈ wsL_law ∧ Cond.initialized yX12_tellsAs.cls ∈ wsL_law ∧ Cond.instanceMethod yX12_tellsAs ∈ wsL_law ∧ Cond.selects yX12_tellsAs.cls yX12_tellsAs yX12_tellsAs ∈ wsL_law := ⟨(uw53 _ (List.mem_of_getElem? (i := 15) rfl)), (uw1 _ (List.mem_of_getElem? (i := 5) rfl)), (uw53 _ (List.mem_of_getElem? (i := 13) rfl)), (uw53 _ (List.mem_of_getElem? (i := 14) rfl))⟩
theorem hd_X12_tellsAs : yX12_tellsAs.cls ≠ "java/lang/invoke/MethodHandle" ∧ yX12_tellsAs.cls ≠ "java/lang/invoke/VarHandle" ∧ (parseMethodDescriptor yX12_tellsAs.desc).map (fun d => d.parameters.length) = some 2 := ⟨by decide +kernel, by decide +kernel, by decide +kernel⟩
theorem ml_X12_338 : Cond.methodLink RX12 338 yX12_begins ∈ wsL_law := (uw53 _ (List.mem_of_getElem? (i := 0) rfl))
theorem ml_X12_341 : Cond.methodLink RX12 341 yX12_saysAs ∈ wsL_law := (uw52 _ (List.mem_of_getElem? (i := 20) rfl))
theorem ml_X12_347 : Cond.methodLink RX12 347 yX12_standsAs ∈ wsL_law := (uw53 _ (List.mem_of_getElem? (i := 4) rfl))
theorem ml_X12_353 : Cond.methodLink RX12 353 yX12_movesAs ∈ wsL_law := (uw53 _ (List.mem_of_getElem? (i := 8) rfl))
theorem ml_X12_356 : Cond.methodLink RX12 356 yX12_tellsAs ∈ wsL_law := (uw53 _ (List.mem_of_getElem? (i := 12) rfl))
theorem ml_X12_359 : Cond.methodLink RX12 359 yX12_isBody ∈ wsL_law := (uw52 _ (List.mem_of_getElem? (i := 16) rfl))
theorem ml_X12_364 : Cond.methodLink RX12 364 yX12_refusal ∈ wsL_law := (uw56 _ (List.mem_of_getElem? (i := 8) rfl))
theorem ml_X12_367 : Cond.methodLink RX12 367 yX12_asSort ∈ wsL_law := (uw56 _ (List.mem_of_getElem? (i := 12) rfl))
abbrev w_M_image (G : zG) (a_this : Nat) (a_height : Nat) (a_changeAt : Nat) (a_changeWas : Nat) (a_changeIs : Nat) (a_tape : Nat) (a_text : Nat) (a_names : Nat) (a_line : Nat) (a_row : Nat) (a_pastMany : Nat) (a_past : Nat) (a_changed : Nat) (a_greatest : Nat) (a_numbersWere : Nat) (a_told : Nat) (a_waysOf : Nat) (a_waysWere : Nat) (a_blocks : Nat) (a_ordersOf : Nat) (a_imageLine : Nat) (a_bodyKind : Nat) (a_trace : Nat) (a_shelf : Nat) (a_many : Nat) (a_items : Nat) (a_carried : Nat) (people : Int32) (keptMany : Int32) (done : Int32) (tapeMany : Int32) (textMany : Int32) (base : Int32) (at_ : Int32) (ends : Int32) (fault : Int32) (opened : Int32) (lineMany : Int32) (rowMany : Int32) (taller : Int32) (tallerBy : Int32) (pasts : Int32) (isKept : Int32) (imageMany : Int32) (bodies : Int32) (ran : Int32) (ownKind : Int32) (ownNumber : Int32) (line : Nat → Int32) (imageLine : Nat → Int32) : va_W := [(a_this, cO 12 [.int people, .ref a_height, .ref a_changeAt, .ref a_changeWas, .ref a_changeIs, .int keptMany, .int done, .ref a_tape, .int tapeMany, .ref a_text, .int textMany, .int base, .int at_, .int ends, .int fault, .int opened, .ref a_names, .ref a_line, .int lineMany, .ref a_row, .int rowMany, .int taller, .int tallerBy, .ref a_pastMany, .ref a_past, .int pasts, .ref a_changed, .ref a_greatest, .ref a_numbersWere, .ref a_told, .ref a_waysOf, .ref a_waysWere, .ref a_blocks, .ref a_ordersOf, .int isKept, .int imageMany, .ref a_imageLine, .int bodies, .ref a_bodyKind, .ref a_trace, .int ran, .int ownKind, .int ownNumber, .ref a_shelf, .ref a_many, .ref a_items, .ref a_carried]), (a_line, cI G 9 line), (a_imageLine, cI G 9 imageLine)]
def f_M_image_L15 (lineMany : Int32) (line : Nat → Int32) : Nat → (Nat → Int32) → Int32 → Option ((Nat → Int32))
  | 0, _, _ => none
  | fuel + 1, imageLine, v1 => (if lineMany ≤ v1 then (some imageLine) else (zg line 9 v1 fun v_1 => (zs imageLine 9 v1 v_1 fun imageLine_2 => (f_M_image_L15 lineMany line fuel imageLine_2 (v1 + 1)))))
def f_M_image (lineMany : Int32) (isKept : Int32) (imageMany : Int32) (line : Nat → Int32) (imageLine : Nat → Int32) : Option (Int32 × Int32 × Int32 × (Nat → Int32)) := (zb1 (f_M_image_L15 lineMany line FU imageLine 0) fun imageLine_3 => (some (lineMany, 1, lineMany, imageLine_3)))
set_option maxRecDepth 100000 in
set_option maxHeartbeats 4000000 in
theorem l_M_image_15 {X : zX} (G : zG) (a_this : Nat) (a_height : Nat) (a_changeAt : Nat) (a_changeWas : Nat) (a_changeIs : Nat) (a_tape : Nat) (a_text : Nat) (a_names : Nat) (a_line : Nat) (a_row : Nat) (a_pastMany : Nat) (a_past : Nat) (a_changed : Nat) (a_greatest : Nat) (a_numbersWere : Nat) (a_told : Nat) (a_waysOf : Nat) (a_waysWere : Nat) (a_blocks : Nat) (a_ordersOf : Nat) (a_imageLine : Nat) (a_bodyKind : Nat) (a_trace : Nat) (a_shelf : Nat) (a_many : Nat) (a_items : Nat) (a_carried : Nat) (people : Int32) (keptMany : Int32) (done : Int32) (tapeMany : Int32) (textMany : Int32) (base : Int32) (at_ : Int32) (ends : Int32) (fault : Int32) (opened : Int32) (lineMany : Int32) (rowMany : Int32) (taller : Int32) (tallerBy : Int32) (pasts : Int32) (isKept : Int32) (imageMany : Int32) (bodies : Int32) (ran : Int32) (ownKind : Int32) (ownNumber : Int32) (line : Nat → Int32) {v0 : Option Value} {w0 : va_W} (F : zF X G cX12_image RX12 2 (some .int) 0 0 v0 w0) (e_imageLine : Nat → Int32) (hk : Z X G 2 (w_M_image G a_this a_height a_changeAt a_changeWas a_changeIs a_tape a_text a_names a_line a_row a_pastMany a_past a_changed a_greatest a_numbersWere a_told a_waysOf a_waysWere a_blocks a_ordersOf a_imageLine a_bodyKind a_trace a_shelf a_many a_items a_carried people keptMany done tapeMany textMany base at_ ends fault opened lineMany rowMany taller tallerBy pasts isKept imageMany bodies ran ownKind ownNumber line e_imageLine) [(0, .ref a_this)] 41 []) :
    ∀ (fuel : Nat) (imageLine : Nat → Int32) (v1 : Int32), f_M_image_L15 lineMany line fuel imageLine v1 = some e_imageLine → Z X G 2 (w_M_image G a_this a_height a_changeAt a_changeWas a_changeIs a_tape a_text a_names a_line a_row a_pastMany a_past a_changed a_greatest a_numbersWere a_told a_waysOf a_waysWere a_blocks a_ordersOf a_imageLine a_bodyKind a_trace a_shelf a_many a_items a_carried people keptMany done tapeMany textMany base at_ ends fault opened lineMany rowMany taller tallerBy pasts isKept imageMany bodies ran ownKind ownNumber line imageLine) [(0, .ref a_this), (1, .int v1)] 15 [] := by
  intro fuel
  induction fuel with
  | zero => intro imageLine v1 hf; exact absurd ((f_M_image_L15.eq_1 ..).symm.trans hf) (fun h => by cases h)
  | succ fuel ih =>
    intro imageLine v1 hf
    replace hf := (f_M_image_L15.eq_2 ..).symm.trans hf
    refine z_iload_n F 1 dX12_image_15 rfl rfl ?_
    refine z_aload_n F 0 dX12_image_16 rfl rfl ?_
    refine z_get F 0 12 18 inlX12 rfl rfl (by decide) fl_X12_100 rfl dX12_image_17 ?_
    refine z_icmp_ge F 41 dX12_image_20 (by decide) hf (fun hf _ => ?_) (fun hf _ => ?_)
    · have ee1 := Option.some.inj hf
      subst ee1
      exact z_sub [0] rfl hk
    · refine z_aload_n F 0 dX12_image_23 rfl rfl ?_
      refine z_get F 0 12 36 inlX12 rfl rfl (by decide) fl_X12_67 rfl dX12_image_24 ?_
      refine z_iload_n F 1 dX12_image_27 rfl rfl ?_
      refine z_aload_n F 0 dX12_image_28 rfl rfl ?_
      refine z_get F 0 12 17 inlX12 rfl rfl (by decide) fl_X12_31 rfl dX12_image_29 ?_
      refine z_iload_n F 1 dX12_image_32 rfl rfl ?_
      refine z_iald F 1 rfl hf dX12_image_33 (fun v_1 hf => ?_)
      refine z_iast F 2 (fun imageLine_2 => (w_M_image G a_this a_height a_changeAt a_changeWas a_changeIs a_tape a_text a_names a_line a_row a_pastMany a_past a_changed a_greatest a_numbersWere a_told a_waysOf a_waysWere a_blocks a_ordersOf a_imageLine a_bodyKind a_trace a_shelf a_many a_items a_carried people keptMany done tapeMany textMany base at_ ends fault opened lineMany rowMany taller tallerBy pasts isKept imageMany bodies ran ownKind ownNumber line imageLine_2)) rfl hf (fun _ => rfl) dX12_image_34 (fun imageLine_2 hf => ?_)
      refine z_iinc F [(1, .int (v1 + 1)), (0, .ref a_this)] dX12_image_35 1 rfl rfl (by decide) rfl ?_
      refine z_goto F 15 dX12_image_38 (by decide) ?_
      exact z_sub [1, 0] rfl (ih imageLine_2 (v1 + 1) hf)

set_option maxRecDepth 100000 in
set_option maxHeartbeats 4000000 in
theorem c_M_image (l : Launch) (G : zG) (a_this : Nat) (a_height : Nat) (a_changeAt : Nat) (a_changeWas : Nat) (a_changeIs : Nat) (a_tape : Nat) (a_text : Nat) (a_names : Nat) (a_line : Nat) (a_row : Nat) (a_pastMany : Nat) (a_past : Nat) (a_changed : Nat) (a_greatest : Nat) (a_numbersWere : Nat) (a_told : Nat) (a_waysOf : Nat) (a_waysWere : Nat) (a_blocks : Nat) (a_ordersOf : Nat) (a_imageLine : Nat) (a_bodyKind : Nat) (a_trace : Nat) (a_shelf : Nat) (a_many : Nat) (a_items : Nat) (a_carried : Nat) (people : Int32) (keptMany : Int32) (done : Int32) (tapeMany : Int32) (textMany : Int32) (base : Int32) (at_ : Int32) (ends : Int32) (fault : Int32) (opened : Int32) (lineMany : Int32) (rowMany : Int32) (taller : Int32) (tallerBy : Int32) (pasts : Int32) (isKept : Int32) (imageMany : Int32) (bodies : Int32) (ran : Int32) (ownKind : Int32) (ownNumber : Int32) (line : Nat → Int32) (imageLine : Nat → Int32) (r_ : Int32) (o_isKept : Int32) (o_imageMany : Int32) (o_imageLine : Nat → Int32) (hf : f_M_image lineMany isKept imageMany line imageLine = some (r_, o_isKept, o_imageMany, o_imageLine)) : zM l yX12_image cX12_image 2 (some .int) 0 0 G [.ref a_this] (w_M_image G a_this a_height a_changeAt a_changeWas a_changeIs a_tape a_text a_names a_line a_row a_pastMany a_past a_changed a_greatest a_numbersWere a_told a_waysOf a_waysWere a_blocks a_ordersOf a_imageLine a_bodyKind a_trace a_shelf a_many a_items a_carried people keptMany done tapeMany textMany base at_ ends fault opened lineMany rowMany taller tallerBy pasts isKept imageMany bodies ran ownKind ownNumber line imageLine) (some (.int r_)) (w_M_image G a_this a_height a_changeAt a_changeWas a_changeIs a_tape a_text a_names a_line a_row a_pastMany a_past a_changed a_greatest a_numbersWere a_told a_waysOf a_waysWere a_blocks a_ordersOf a_imageLine a_bodyKind a_trace a_shelf a_many a_items a_carried people keptMany done tapeMany textMany base at_ ends fault opened lineMany rowMany taller tallerBy pasts o_isKept o_imageMany bodies ran ownKind ownNumber line o_imageLine) := by
  refine zM.of [(0, .ref a_this)] (own := RX12) rfl (by decide +kernel) (Nat.le_of_ble_eq_true rfl) rfl rfl fun X hX F => ?_
  subst hX
  replace hf := (f_M_image.eq_1 ..).symm.trans hf
  refine z_aload_n F 0 dX12_image_0 rfl rfl ?_
  refine z_iconst F (1) dX12_image_1 rfl ?_
  refine z_put F 0 12 34 (w_M_image G a_this a_height a_changeAt a_changeWas a_changeIs a_tape a_text a_names a_line a_row a_pastMany a_past a_changed a_greatest a_numbersWere a_told a_waysOf a_waysWere a_blocks a_ordersOf a_imageLine a_bodyKind a_trace a_shelf a_many a_items a_carried people keptMany done tapeMany textMany base at_ ends fault opened lineMany rowMany taller tallerBy pasts 1 imageMany bodies ran ownKind ownNumber line imageLine) inlX12 tyX12 tyX12_ok nmX12 rfl rfl (by decide) fl_X12_323 rfl rfl rfl (Nat.le_of_ble_eq_true rfl) rfl dX12_image_2 ?_
  refine z_aload_n F 0 dX12_image_5 rfl rfl ?_
  refine z_aload_n F 0 dX12_image_6 rfl rfl ?_
  refine z_get F 0 12 18 inlX12 rfl rfl (by decide) fl_X12_100 rfl dX12_image_7 ?_
  refine z_put F 0 12 35 (w_M_image G a_this a_height a_changeAt a_changeWas a_changeIs a_tape a_text a_names a_line a_row a_pastMany a_past a_changed a_greatest a_numbersWere a_told a_waysOf a_waysWere a_blocks a_ordersOf a_imageLine a_bodyKind a_trace a_shelf a_many a_items a_carried people keptMany done tapeMany textMany base at_ ends fault opened lineMany rowMany taller tallerBy pasts 1 lineMany bodies ran ownKind ownNumber line imageLine) inlX12 tyX12 tyX12_ok nmX12 rfl rfl (by decide) fl_X12_327 rfl rfl rfl (Nat.le_of_ble_eq_true rfl) rfl dX12_image_10 ?_
  refine z_iconst F (0) dX12_image_13 rfl ?_
  refine z_istore_n F [(1, .int 0), (0, .ref a_this)] dX12_image_14 rfl (by decide) rfl ?_
  obtain ⟨imageLine_3, hg, hf⟩ := zb1_some hf
  refine z_sub [1, 0] rfl ?_
  refine l_M_image_15 G a_this a_height a_changeAt a_changeWas a_changeIs a_tape a_text a_names a_line a_row a_pastMany a_past a_changed a_greatest a_numbersWere a_told a_waysOf a_waysWere a_blocks a_ordersOf a_imageLine a_bodyKind a_trace a_shelf a_many a_items a_carried people keptMany done tapeMany textMany base at_ ends fault opened lineMany rowMany taller tallerBy pasts 1 lineMany bodies ran ownKind ownNumber line F imageLine_3 ?_ FU imageLine 0 hg
  refine z_aload_n F 0 dX12_image_41 rfl rfl ?_
  refine z_get F 0 12 18 inlX12 rfl rfl (by decide) fl_X12_100 rfl dX12_image_42 ?_
  have eq1 := Option.some.inj hf
  obtain ⟨ee1, eq2⟩ := Prod.mk.inj eq1
  obtain ⟨ee2, eq3⟩ := Prod.mk.inj eq2
  obtain ⟨ee3, ee4⟩ := Prod.mk.inj eq3
  subst ee1
  subst ee2
  subst ee3
  subst ee4
  exact z_iret F rfl rfl rfl rfl dX12_image_45

abbrev w_M_back (G : zG) (a_this : Nat) (a_height : Nat) (a_changeAt : Nat) (a_changeWas : Nat) (a_changeIs : Nat) (a_tape : Nat) (a_text : Nat) (a_names : Nat) (a_line : Nat) (a_row : Nat) (a_pastMany : Nat) (a_past : Nat) (a_changed : Nat) (a_greatest : Nat) (a_numbersWere : Nat) (a_told : Nat) (a_waysOf : Nat) (a_waysWere : Nat) (a_blocks : Nat) (a_ordersOf : Nat) (a_imageLine : Nat) (a_bodyKind : Nat) (a_trace : Nat) (a_shelf : Nat) (a_many : Nat) (a_items : Nat) (a_carried : Nat) (people : Int32) (keptMany : Int32) (done : Int32) (tapeMany : Int32) (textMany : Int32) (base : Int32) (at_ : Int32) (ends : Int32) (fault : Int32) (opened : Int32) (lineMany : Int32) (rowMany : Int32) (taller : Int32) (tallerBy : Int32) (pasts : Int32) (isKept : Int32) (imageMany : Int32) (bodies : Int32) (ran : Int32) (ownKind : Int32) (ownNumber : Int32) (line : Nat → Int32) (imageLine : Nat → Int32) : va_W := [(a_this, cO 12 [.int people, .ref a_height, .ref a_changeAt, .ref a_changeWas, .ref a_changeIs, .int keptMany, .int done, .ref a_tape, .int tapeMany, .ref a_text, .int textMany, .int base, .int at_, .int ends, .int fault, .int opened, .ref a_names, .ref a_line, .int lineMany, .ref a_row, .int rowMany, .int taller, .int tallerBy, .ref a_pastMany, .ref a_past, .int pasts, .ref a_changed, .ref a_greatest, .ref a_numbersWere, .ref a_told, .ref a_waysOf, .ref a_waysWere, .ref a_blocks, .ref a_ordersOf, .int isKept, .int imageMany, .ref a_imageLine, .int bodies, .ref a_bodyKind, .ref a_trace, .int ran, .int ownKind, .int ownNumber, .ref a_shelf, .ref a_many, .ref a_items, .ref a_carried]), (a_line, cI G 9 line), (a_imageLine, cI G 9 imageLine)]
def f_M_back_L20 (lineMany : Int32) (imageLine : Nat → Int32) : Nat → (Nat → Int32) → Int32 → Option ((Nat → Int32))
  | 0, _, _ => none
  | fuel + 1, line, v1 => (if lineMany ≤ v1 then (some line) else (zg imageLine 9 v1 fun v_1 => (zs line 9 v1 v_1 fun line_2 => (f_M_back_L20 lineMany imageLine fuel line_2 (v1 + 1)))))
def f_M_back (lineMany : Int32) (isKept : Int32) (imageMany : Int32) (line : Nat → Int32) (imageLine : Nat → Int32) : Option (Int32 × Int32 × (Nat → Int32)) := (if isKept = 0 then (some ((-5), lineMany, line)) else (zb1 (f_M_back_L20 imageMany imageLine FU line 0) fun line_3 => (some (imageMany, imageMany, line_3))))
set_option maxRecDepth 100000 in
set_option maxHeartbeats 4000000 in
theorem l_M_back_20 {X : zX} (G : zG) (a_this : Nat) (a_height : Nat) (a_changeAt : Nat) (a_changeWas : Nat) (a_changeIs : Nat) (a_tape : Nat) (a_text : Nat) (a_names : Nat) (a_line : Nat) (a_row : Nat) (a_pastMany : Nat) (a_past : Nat) (a_changed : Nat) (a_greatest : Nat) (a_numbersWere : Nat) (a_told : Nat) (a_waysOf : Nat) (a_waysWere : Nat) (a_blocks : Nat) (a_ordersOf : Nat) (a_imageLine : Nat) (a_bodyKind : Nat) (a_trace : Nat) (a_shelf : Nat) (a_many : Nat) (a_items : Nat) (a_carried : Nat) (people : Int32) (keptMany : Int32) (done : Int32) (tapeMany : Int32) (textMany : Int32) (base : Int32) (at_ : Int32) (ends : Int32) (fault : Int32) (opened : Int32) (lineMany : Int32) (rowMany : Int32) (taller : Int32) (tallerBy : Int32) (pasts : Int32) (isKept : Int32) (imageMany : Int32) (bodies : Int32) (ran : Int32) (ownKind : Int32) (ownNumber : Int32) (imageLine : Nat → Int32) {v0 : Option Value} {w0 : va_W} (F : zF X G cX12_back RX12 2 (some .int) 0 0 v0 w0) (e_line : Nat → Int32) (hk : Z X G 2 (w_M_back G a_this a_height a_changeAt a_changeWas a_changeIs a_tape a_text a_names a_line a_row a_pastMany a_past a_changed a_greatest a_numbersWere a_told a_waysOf a_waysWere a_blocks a_ordersOf a_imageLine a_bodyKind a_trace a_shelf a_many a_items a_carried people keptMany done tapeMany textMany base at_ ends fault opened lineMany rowMany taller tallerBy pasts isKept imageMany bodies ran ownKind ownNumber e_line imageLine) [(0, .ref a_this)] 46 []) :
    ∀ (fuel : Nat) (line : Nat → Int32) (v1 : Int32), f_M_back_L20 lineMany imageLine fuel line v1 = some e_line → Z X G 2 (w_M_back G a_this a_height a_changeAt a_changeWas a_changeIs a_tape a_text a_names a_line a_row a_pastMany a_past a_changed a_greatest a_numbersWere a_told a_waysOf a_waysWere a_blocks a_ordersOf a_imageLine a_bodyKind a_trace a_shelf a_many a_items a_carried people keptMany done tapeMany textMany base at_ ends fault opened lineMany rowMany taller tallerBy pasts isKept imageMany bodies ran ownKind ownNumber line imageLine) [(0, .ref a_this), (1, .int v1)] 20 [] := by
  intro fuel
  induction fuel with
  | zero => intro line v1 hf; exact absurd ((f_M_back_L20.eq_1 ..).symm.trans hf) (fun h => by cases h)
  | succ fuel ih =>
    intro line v1 hf
    replace hf := (f_M_back_L20.eq_2 ..).symm.trans hf
    refine z_iload_n F 1 dX12_back_20 rfl rfl ?_
    refine z_aload_n F 0 dX12_back_21 rfl rfl ?_
    refine z_get F 0 12 18 inlX12 rfl rfl (by decide) fl_X12_100 rfl dX12_back_22 ?_
    refine z_icmp_ge F 46 dX12_back_25 (by decide) hf (fun hf _ => ?_) (fun hf _ => ?_)
    · have ee1 := Option.some.inj hf
      subst ee1
      exact z_sub [0] rfl hk
    · refine z_aload_n F 0 dX12_back_28 rfl rfl ?_
      refine z_get F 0 12 17 inlX12 rfl rfl (by decide) fl_X12_31 rfl dX12_back_29 ?_
      refine z_iload_n F 1 dX12_back_32 rfl rfl ?_
      refine z_aload_n F 0 dX12_back_33 rfl rfl ?_
      refine z_get F 0 12 36 inlX12 rfl rfl (by decide) fl_X12_67 rfl dX12_back_34 ?_
      refine z_iload_n F 1 dX12_back_37 rfl rfl ?_
      refine z_iald F 2 rfl hf dX12_back_38 (fun v_1 hf => ?_)
      refine z_iast F 1 (fun line_2 => (w_M_back G a_this a_height a_changeAt a_changeWas a_changeIs a_tape a_text a_names a_line a_row a_pastMany a_past a_changed a_greatest a_numbersWere a_told a_waysOf a_waysWere a_blocks a_ordersOf a_imageLine a_bodyKind a_trace a_shelf a_many a_items a_carried people keptMany done tapeMany textMany base at_ ends fault opened lineMany rowMany taller tallerBy pasts isKept imageMany bodies ran ownKind ownNumber line_2 imageLine)) rfl hf (fun _ => rfl) dX12_back_39 (fun line_2 hf => ?_)
      refine z_iinc F [(1, .int (v1 + 1)), (0, .ref a_this)] dX12_back_40 1 rfl rfl (by decide) rfl ?_
      refine z_goto F 20 dX12_back_43 (by decide) ?_
      exact z_sub [1, 0] rfl (ih line_2 (v1 + 1) hf)

set_option maxRecDepth 100000 in
set_option maxHeartbeats 4000000 in
theorem c_M_back (l : Launch) (G : zG) (a_this : Nat) (a_height : Nat) (a_changeAt : Nat) (a_changeWas : Nat) (a_changeIs : Nat) (a_tape : Nat) (a_text : Nat) (a_names : Nat) (a_line : Nat) (a_row : Nat) (a_pastMany : Nat) (a_past : Nat) (a_changed : Nat) (a_greatest : Nat) (a_numbersWere : Nat) (a_told : Nat) (a_waysOf : Nat) (a_waysWere : Nat) (a_blocks : Nat) (a_ordersOf : Nat) (a_imageLine : Nat) (a_bodyKind : Nat) (a_trace : Nat) (a_shelf : Nat) (a_many : Nat) (a_items : Nat) (a_carried : Nat) (people : Int32) (keptMany : Int32) (done : Int32) (tapeMany : Int32) (textMany : Int32) (base : Int32) (at_ : Int32) (ends : Int32) (fault : Int32) (opened : Int32) (lineMany : Int32) (rowMany : Int32) (taller : Int32) (tallerBy : Int32) (pasts : Int32) (isKept : Int32) (imageMany : Int32) (bodies : Int32) (ran : Int32) (ownKind : Int32) (ownNumber : Int32) (line : Nat → Int32) (imageLine : Nat → Int32) (r_ : Int32) (o_lineMany : Int32) (o_line : Nat → Int32) (hf : f_M_back lineMany isKept imageMany line imageLine = some (r_, o_lineMany, o_line)) : zM l yX12_back cX12_back 2 (some .int) 0 0 G [.ref a_this] (w_M_back G a_this a_height a_changeAt a_changeWas a_changeIs a_tape a_text a_names a_line a_row a_pastMany a_past a_changed a_greatest a_numbersWere a_told a_waysOf a_waysWere a_blocks a_ordersOf a_imageLine a_bodyKind a_trace a_shelf a_many a_items a_carried people keptMany done tapeMany textMany base at_ ends fault opened lineMany rowMany taller tallerBy pasts isKept imageMany bodies ran ownKind ownNumber line imageLine) (some (.int r_)) (w_M_back G a_this a_height a_changeAt a_changeWas a_changeIs a_tape a_text a_names a_line a_row a_pastMany a_past a_changed a_greatest a_numbersWere a_told a_waysOf a_waysWere a_blocks a_ordersOf a_imageLine a_bodyKind a_trace a_shelf a_many a_items a_carried people keptMany done tapeMany textMany base at_ ends fault opened o_lineMany rowMany taller tallerBy pasts isKept imageMany bodies ran ownKind ownNumber o_line imageLine) := by
  refine zM.of [(0, .ref a_this)] (own := RX12) rfl (by decide +kernel) (Nat.le_of_ble_eq_true rfl) rfl rfl fun X hX F => ?_
  subst hX
  replace hf := (f_M_back.eq_1 ..).symm.trans hf
  refine z_aload_n F 0 dX12_back_0 rfl rfl ?_
  refine z_get F 0 12 34 inlX12 rfl rfl (by decide) fl_X12_323 rfl dX12_back_1 ?_
  refine z_if_ne F 10 dX12_back_4 (by decide) hf (fun hf _ => ?_) (fun hf _ => ?_)
  · refine z_aload_n F 0 dX12_back_10 rfl rfl ?_
    refine z_aload_n F 0 dX12_back_11 rfl rfl ?_
    refine z_get F 0 12 35 inlX12 rfl rfl (by decide) fl_X12_327 rfl dX12_back_12 ?_
    refine z_put F 0 12 18 (w_M_back G a_this a_height a_changeAt a_changeWas a_changeIs a_tape a_text a_names a_line a_row a_pastMany a_past a_changed a_greatest a_numbersWere a_told a_waysOf a_waysWere a_blocks a_ordersOf a_imageLine a_bodyKind a_trace a_shelf a_many a_items a_carried people keptMany done tapeMany textMany base at_ ends fault opened imageMany rowMany taller tallerBy pasts isKept imageMany bodies ran ownKind ownNumber line imageLine) inlX12 tyX12 tyX12_ok nmX12 rfl rfl (by decide) fl_X12_100 rfl rfl rfl (Nat.le_of_ble_eq_true rfl) rfl dX12_back_15 ?_
    refine z_iconst F (0) dX12_back_18 rfl ?_
    refine z_istore_n F [(1, .int 0), (0, .ref a_this)] dX12_back_19 rfl (by decide) rfl ?_
    obtain ⟨line_3, hg, hf⟩ := zb1_some hf
    refine z_sub [1, 0] rfl ?_
    refine l_M_back_20 G a_this a_height a_changeAt a_changeWas a_changeIs a_tape a_text a_names a_line a_row a_pastMany a_past a_changed a_greatest a_numbersWere a_told a_waysOf a_waysWere a_blocks a_ordersOf a_imageLine a_bodyKind a_trace a_shelf a_many a_items a_carried people keptMany done tapeMany textMany base at_ ends fault opened imageMany rowMany taller tallerBy pasts isKept imageMany bodies ran ownKind ownNumber imageLine F line_3 ?_ FU line 0 hg
    refine z_aload_n F 0 dX12_back_46 rfl rfl ?_
    refine z_get F 0 12 18 inlX12 rfl rfl (by decide) fl_X12_100 rfl dX12_back_47 ?_
    have eq1 := Option.some.inj hf
    obtain ⟨ee1, eq2⟩ := Prod.mk.inj eq1
    obtain ⟨ee2, ee3⟩ := Prod.mk.inj eq2
    subst ee1
    subst ee2
    subst ee3
    exact z_iret F rfl rfl rfl rfl dX12_back_50
  · refine z_bipush F (-5) dX12_back_7 rfl ?_
    have eq1 := Option.some.inj hf
    obtain ⟨ee1, eq2⟩ := Prod.mk.inj eq1
    obtain ⟨ee2, ee3⟩ := Prod.mk.inj eq2
    subst ee1
    subst ee2
    subst ee3
    exact z_iret F rfl rfl rfl rfl dX12_back_9

abbrev w_M_isBody (G : zG) (a_this : Nat) (a_height : Nat) (a_changeAt : Nat) (a_changeWas : Nat) (a_changeIs : Nat) (a_tape : Nat) (a_text : Nat) (a_names : Nat) (a_line : Nat) (a_row : Nat) (a_pastMany : Nat) (a_past : Nat) (a_changed : Nat) (a_greatest : Nat) (a_numbersWere : Nat) (a_told : Nat) (a_waysOf : Nat) (a_waysWere : Nat) (a_blocks : Nat) (a_ordersOf : Nat) (a_imageLine : Nat) (a_bodyKind : Nat) (a_trace : Nat) (a_shelf : Nat) (a_many : Nat) (a_items : Nat) (a_carried : Nat) (people : Int32) (keptMany : Int32) (done : Int32) (tapeMany : Int32) (textMany : Int32) (base : Int32) (at_ : Int32) (ends : Int32) (fault : Int32) (opened : Int32) (lineMany : Int32) (rowMany : Int32) (taller : Int32) (tallerBy : Int32) (pasts : Int32) (isKept : Int32) (imageMany : Int32) (bodies : Int32) (ran : Int32) (ownKind : Int32) (ownNumber : Int32) : va_W := [(a_this, cO 12 [.int people, .ref a_height, .ref a_changeAt, .ref a_changeWas, .ref a_changeIs, .int keptMany, .int done, .ref a_tape, .int tapeMany, .ref a_text, .int textMany, .int base, .int at_, .int ends, .int fault, .int opened, .ref a_names, .ref a_line, .int lineMany, .ref a_row, .int rowMany, .int taller, .int tallerBy, .ref a_pastMany, .ref a_past, .int pasts, .ref a_changed, .ref a_greatest, .ref a_numbersWere, .ref a_told, .ref a_waysOf, .ref a_waysWere, .ref a_blocks, .ref a_ordersOf, .int isKept, .int imageMany, .ref a_imageLine, .int bodies, .ref a_bodyKind, .ref a_trace, .int ran, .int ownKind, .int ownNumber, .ref a_shelf, .ref a_many, .ref a_items, .ref a_carried])]
def f_M_isBody (bodies : Int32) (x1 : Int32) : Int32 := (f_M_within (Int32.toInt64 x1) 0 (Int32.toInt64 (bodies - (1 : Int32))))
set_option maxRecDepth 100000 in
set_option maxHeartbeats 4000000 in
theorem c_M_isBody (l : Launch) (G : zG) (a_this : Nat) (a_height : Nat) (a_changeAt : Nat) (a_changeWas : Nat) (a_changeIs : Nat) (a_tape : Nat) (a_text : Nat) (a_names : Nat) (a_line : Nat) (a_row : Nat) (a_pastMany : Nat) (a_past : Nat) (a_changed : Nat) (a_greatest : Nat) (a_numbersWere : Nat) (a_told : Nat) (a_waysOf : Nat) (a_waysWere : Nat) (a_blocks : Nat) (a_ordersOf : Nat) (a_imageLine : Nat) (a_bodyKind : Nat) (a_trace : Nat) (a_shelf : Nat) (a_many : Nat) (a_items : Nat) (a_carried : Nat) (people : Int32) (keptMany : Int32) (done : Int32) (tapeMany : Int32) (textMany : Int32) (base : Int32) (at_ : Int32) (ends : Int32) (fault : Int32) (opened : Int32) (lineMany : Int32) (rowMany : Int32) (taller : Int32) (tallerBy : Int32) (pasts : Int32) (isKept : Int32) (imageMany : Int32) (bodies : Int32) (ran : Int32) (ownKind : Int32) (ownNumber : Int32) (x1 : Int32) (r_ : Int32) (hf : f_M_isBody bodies x1 = r_) : zM l yX12_isBody cX12_isBody 2 (some .boolean) 1 25 G [.ref a_this, .int x1] (w_M_isBody G a_this a_height a_changeAt a_changeWas a_changeIs a_tape a_text a_names a_line a_row a_pastMany a_past a_changed a_greatest a_numbersWere a_told a_waysOf a_waysWere a_blocks a_ordersOf a_imageLine a_bodyKind a_trace a_shelf a_many a_items a_carried people keptMany done tapeMany textMany base at_ ends fault opened lineMany rowMany taller tallerBy pasts isKept imageMany bodies ran ownKind ownNumber) (some (.int r_)) (w_M_isBody G a_this a_height a_changeAt a_changeWas a_changeIs a_tape a_text a_names a_line a_row a_pastMany a_past a_changed a_greatest a_numbersWere a_told a_waysOf a_waysWere a_blocks a_ordersOf a_imageLine a_bodyKind a_trace a_shelf a_many a_items a_carried people keptMany done tapeMany textMany base at_ ends fault opened lineMany rowMany taller tallerBy pasts isKept imageMany bodies ran ownKind ownNumber) := by
  refine zM.of [(0, .ref a_this), (1, .int x1)] (own := RX12) rfl (by decide +kernel) (Nat.le_of_ble_eq_true rfl) rfl rfl fun X hX F => ?_
  subst hX
  replace hf := (f_M_isBody.eq_1 ..).symm.trans hf
  refine z_iload_n F 1 dX12_isBody_0 rfl rfl ?_
  refine z_i2l F dX12_isBody_1 ?_
  refine z_lconst F (0) dX12_isBody_2 rfl ?_
  refine z_aload_n F 0 dX12_isBody_3 rfl rfl ?_
  refine z_get F 0 12 37 inlX12 rfl rfl (by decide) fl_X12_330 rfl dX12_isBody_4 ?_
  refine z_iconst F (1) dX12_isBody_7 rfl ?_
  refine z_isub F dX12_isBody_8 ?_
  refine z_i2l F dX12_isBody_9 ?_
  refine z_callSm (rest := []) F (c_M_within (xL X) G (Int32.toInt64 x1) 0 (Int32.toInt64 (bodies - (1 : Int32))) _ rfl) hy_X12_within ml_X12_96 hd_X12_within ⟨by omega, by omega⟩ rfl [] rfl rfl (w_M_isBody G a_this a_height a_changeAt a_changeWas a_changeIs a_tape a_text a_names a_line a_row a_pastMany a_past a_changed a_greatest a_numbersWere a_told a_waysOf a_waysWere a_blocks a_ordersOf a_imageLine a_bodyKind a_trace a_shelf a_many a_items a_carried people keptMany done tapeMany textMany base at_ ends fault opened lineMany rowMany taller tallerBy pasts isKept imageMany bodies ran ownKind ownNumber) [none] rfl (by decide +kernel) rfl rfl (Nat.le_of_ble_eq_true rfl) dX12_isBody_10 (fun hz_1 => ?_)
  subst hf
  exact z_iret F rfl (hz_1 _ _ rfl rfl) rfl rfl dX12_isBody_13

abbrev w_M_kindOf (G : zG) (a_this : Nat) (a_height : Nat) (a_changeAt : Nat) (a_changeWas : Nat) (a_changeIs : Nat) (a_tape : Nat) (a_text : Nat) (a_names : Nat) (a_line : Nat) (a_row : Nat) (a_pastMany : Nat) (a_past : Nat) (a_changed : Nat) (a_greatest : Nat) (a_numbersWere : Nat) (a_told : Nat) (a_waysOf : Nat) (a_waysWere : Nat) (a_blocks : Nat) (a_ordersOf : Nat) (a_imageLine : Nat) (a_bodyKind : Nat) (a_trace : Nat) (a_shelf : Nat) (a_many : Nat) (a_items : Nat) (a_carried : Nat) (people : Int32) (keptMany : Int32) (done : Int32) (tapeMany : Int32) (textMany : Int32) (base : Int32) (at_ : Int32) (ends : Int32) (fault : Int32) (opened : Int32) (lineMany : Int32) (rowMany : Int32) (taller : Int32) (tallerBy : Int32) (pasts : Int32) (isKept : Int32) (imageMany : Int32) (bodies : Int32) (ran : Int32) (ownKind : Int32) (ownNumber : Int32) (bodyKind : Nat → Int32) : va_W := [(a_this, cO 12 [.int people, .ref a_height, .ref a_changeAt, .ref a_changeWas, .ref a_changeIs, .int keptMany, .int done, .ref a_tape, .int tapeMany, .ref a_text, .int textMany, .int base, .int at_, .int ends, .int fault, .int opened, .ref a_names, .ref a_line, .int lineMany, .ref a_row, .int rowMany, .int taller, .int tallerBy, .ref a_pastMany, .ref a_past, .int pasts, .ref a_changed, .ref a_greatest, .ref a_numbersWere, .ref a_told, .ref a_waysOf, .ref a_waysWere, .ref a_blocks, .ref a_ordersOf, .int isKept, .int imageMany, .ref a_imageLine, .int bodies, .ref a_bodyKind, .ref a_trace, .int ran, .int ownKind, .int ownNumber, .ref a_shelf, .ref a_many, .ref a_items, .ref a_carried]), (a_bodyKind, cI G 50 bodyKind)]
def f_M_kindOf (bodyKind : Nat → Int32) (x1 : Int32) : Option Int32 := (zg bodyKind 50 x1 fun v_1 => (some v_1))
set_option maxRecDepth 100000 in
set_option maxHeartbeats 4000000 in
theorem c_M_kindOf (l : Launch) (G : zG) (a_this : Nat) (a_height : Nat) (a_changeAt : Nat) (a_changeWas : Nat) (a_changeIs : Nat) (a_tape : Nat) (a_text : Nat) (a_names : Nat) (a_line : Nat) (a_row : Nat) (a_pastMany : Nat) (a_past : Nat) (a_changed : Nat) (a_greatest : Nat) (a_numbersWere : Nat) (a_told : Nat) (a_waysOf : Nat) (a_waysWere : Nat) (a_blocks : Nat) (a_ordersOf : Nat) (a_imageLine : Nat) (a_bodyKind : Nat) (a_trace : Nat) (a_shelf : Nat) (a_many : Nat) (a_items : Nat) (a_carried : Nat) (people : Int32) (keptMany : Int32) (done : Int32) (tapeMany : Int32) (textMany : Int32) (base : Int32) (at_ : Int32) (ends : Int32) (fault : Int32) (opened : Int32) (lineMany : Int32) (rowMany : Int32) (taller : Int32) (tallerBy : Int32) (pasts : Int32) (isKept : Int32) (imageMany : Int32) (bodies : Int32) (ran : Int32) (ownKind : Int32) (ownNumber : Int32) (bodyKind : Nat → Int32) (x1 : Int32) (r_ : Int32) (hf : f_M_kindOf bodyKind x1 = some r_) : zM l yX12_kindOf cX12_kindOf 2 (some .int) 0 0 G [.ref a_this, .int x1] (w_M_kindOf G a_this a_height a_changeAt a_changeWas a_changeIs a_tape a_text a_names a_line a_row a_pastMany a_past a_changed a_greatest a_numbersWere a_told a_waysOf a_waysWere a_blocks a_ordersOf a_imageLine a_bodyKind a_trace a_shelf a_many a_items a_carried people keptMany done tapeMany textMany base at_ ends fault opened lineMany rowMany taller tallerBy pasts isKept imageMany bodies ran ownKind ownNumber bodyKind) (some (.int r_)) (w_M_kindOf G a_this a_height a_changeAt a_changeWas a_changeIs a_tape a_text a_names a_line a_row a_pastMany a_past a_changed a_greatest a_numbersWere a_told a_waysOf a_waysWere a_blocks a_ordersOf a_imageLine a_bodyKind a_trace a_shelf a_many a_items a_carried people keptMany done tapeMany textMany base at_ ends fault opened lineMany rowMany taller tallerBy pasts isKept imageMany bodies ran ownKind ownNumber bodyKind) := by
  refine zM.of [(0, .ref a_this), (1, .int x1)] (own := RX12) rfl (by decide +kernel) (Nat.le_of_ble_eq_true rfl) rfl rfl fun X hX F => ?_
  subst hX
  replace hf := (f_M_kindOf.eq_1 ..).symm.trans hf
  refine z_aload_n F 0 dX12_kindOf_0 rfl rfl ?_
  refine z_get F 0 12 38 inlX12 rfl rfl (by decide) fl_X12_70 rfl dX12_kindOf_1 ?_
  refine z_iload_n F 1 dX12_kindOf_4 rfl rfl ?_
  refine z_iald F 1 rfl hf dX12_kindOf_5 (fun v_1 hf => ?_)
  have ee1 := Option.some.inj hf
  subst ee1
  exact z_iret F rfl rfl rfl rfl dX12_kindOf_6

abbrev w_M_body (G : zG) (a_this : Nat) (a_height : Nat) (a_changeAt : Nat) (a_changeWas : Nat) (a_changeIs : Nat) (a_tape : Nat) (a_text : Nat) (a_names : Nat) (a_line : Nat) (a_row : Nat) (a_pastMany : Nat) (a_past : Nat) (a_changed : Nat) (a_greatest : Nat) (a_numbersWere : Nat) (a_told : Nat) (a_waysOf : Nat) (a_waysWere : Nat) (a_blocks : Nat) (a_ordersOf : Nat) (a_imageLine : Nat) (a_bodyKind : Nat) (a_trace : Nat) (a_shelf : Nat) (a_many : Nat) (a_items : Nat) (a_carried : Nat) (people : Int32) (keptMany : Int32) (done : Int32) (tapeMany : Int32) (textMany : Int32) (base : Int32) (at_ : Int32) (ends : Int32) (fault : Int32) (opened : Int32) (lineMany : Int32) (rowMany : Int32) (taller : Int32) (tallerBy : Int32) (pasts : Int32) (isKept : Int32) (imageMany : Int32) (bodies : Int32) (ran : Int32) (ownKind : Int32) (ownNumber : Int32) (bodyKind : Nat → Int32) : va_W := [(a_this, cO 12 [.int people, .ref a_height, .ref a_changeAt, .ref a_changeWas, .ref a_changeIs, .int keptMany, .int done, .ref a_tape, .int tapeMany, .ref a_text, .int textMany, .int base, .int at_, .int ends, .int fault, .int opened, .ref a_names, .ref a_line, .int lineMany, .ref a_row, .int rowMany, .int taller, .int tallerBy, .ref a_pastMany, .ref a_past, .int pasts, .ref a_changed, .ref a_greatest, .ref a_numbersWere, .ref a_told, .ref a_waysOf, .ref a_waysWere, .ref a_blocks, .ref a_ordersOf, .int isKept, .int imageMany, .ref a_imageLine, .int bodies, .ref a_bodyKind, .ref a_trace, .int ran, .int ownKind, .int ownNumber, .ref a_shelf, .ref a_many, .ref a_items, .ref a_carried]), (a_bodyKind, cI G 50 bodyKind)]
def f_M_body (bodies : Int32) (bodyKind : Nat → Int32) (x1 : Int32) : Option (Int32 × Int32 × (Nat → Int32)) := (if (f_M_within (Int32.toInt64 x1) 0 7) = 0 then (some ((-1), bodies, bodyKind)) else (if bodies = 50 then (some ((-3), bodies, bodyKind)) else (zs bodyKind 50 bodies x1 fun bodyKind_2 => (some (((bodies + (1 : Int32)) - (1 : Int32)), (bodies + (1 : Int32)), bodyKind_2)))))
set_option maxRecDepth 100000 in
set_option maxHeartbeats 4000000 in
theorem c_M_body (l : Launch) (G : zG) (a_this : Nat) (a_height : Nat) (a_changeAt : Nat) (a_changeWas : Nat) (a_changeIs : Nat) (a_tape : Nat) (a_text : Nat) (a_names : Nat) (a_line : Nat) (a_row : Nat) (a_pastMany : Nat) (a_past : Nat) (a_changed : Nat) (a_greatest : Nat) (a_numbersWere : Nat) (a_told : Nat) (a_waysOf : Nat) (a_waysWere : Nat) (a_blocks : Nat) (a_ordersOf : Nat) (a_imageLine : Nat) (a_bodyKind : Nat) (a_trace : Nat) (a_shelf : Nat) (a_many : Nat) (a_items : Nat) (a_carried : Nat) (people : Int32) (keptMany : Int32) (done : Int32) (tapeMany : Int32) (textMany : Int32) (base : Int32) (at_ : Int32) (ends : Int32) (fault : Int32) (opened : Int32) (lineMany : Int32) (rowMany : Int32) (taller : Int32) (tallerBy : Int32) (pasts : Int32) (isKept : Int32) (imageMany : Int32) (bodies : Int32) (ran : Int32) (ownKind : Int32) (ownNumber : Int32) (bodyKind : Nat → Int32) (x1 : Int32) (r_ : Int32) (o_bodies : Int32) (o_bodyKind : Nat → Int32) (hf : f_M_body bodies bodyKind x1 = some (r_, o_bodies, o_bodyKind)) : zM l yX12_body cX12_body 2 (some .int) 1 25 G [.ref a_this, .int x1] (w_M_body G a_this a_height a_changeAt a_changeWas a_changeIs a_tape a_text a_names a_line a_row a_pastMany a_past a_changed a_greatest a_numbersWere a_told a_waysOf a_waysWere a_blocks a_ordersOf a_imageLine a_bodyKind a_trace a_shelf a_many a_items a_carried people keptMany done tapeMany textMany base at_ ends fault opened lineMany rowMany taller tallerBy pasts isKept imageMany bodies ran ownKind ownNumber bodyKind) (some (.int r_)) (w_M_body G a_this a_height a_changeAt a_changeWas a_changeIs a_tape a_text a_names a_line a_row a_pastMany a_past a_changed a_greatest a_numbersWere a_told a_waysOf a_waysWere a_blocks a_ordersOf a_imageLine a_bodyKind a_trace a_shelf a_many a_items a_carried people keptMany done tapeMany textMany base at_ ends fault opened lineMany rowMany taller tallerBy pasts isKept imageMany o_bodies ran ownKind ownNumber o_bodyKind) := by
  refine zM.of [(0, .ref a_this), (1, .int x1)] (own := RX12) rfl (by decide +kernel) (Nat.le_of_ble_eq_true rfl) rfl rfl fun X hX F => ?_
  subst hX
  replace hf := (f_M_body.eq_1 ..).symm.trans hf
  refine z_iload_n F 1 dX12_body_0 rfl rfl ?_
  refine z_i2l F dX12_body_1 ?_
  refine z_lconst F (0) dX12_body_2 rfl ?_
  refine z_ldc2 F (7) (uw50 _ (List.mem_of_getElem? (i := 18) rfl)) dX12_body_3 ?_
  refine z_callSm (rest := []) F (c_M_within (xL X) G (Int32.toInt64 x1) 0 7 _ rfl) hy_X12_within ml_X12_96 hd_X12_within ⟨by omega, by omega⟩ rfl [] rfl rfl (w_M_body G a_this a_height a_changeAt a_changeWas a_changeIs a_tape a_text a_names a_line a_row a_pastMany a_past a_changed a_greatest a_numbersWere a_told a_waysOf a_waysWere a_blocks a_ordersOf a_imageLine a_bodyKind a_trace a_shelf a_many a_items a_carried people keptMany done tapeMany textMany base at_ ends fault opened lineMany rowMany taller tallerBy pasts isKept imageMany bodies ran ownKind ownNumber bodyKind) [none, none] rfl (by decide +kernel) rfl rfl (Nat.le_of_ble_eq_true rfl) dX12_body_6 (fun hz_1 => ?_)
  refine z_if_ne F 14 dX12_body_9 (by decide) hf (fun hf _ => ?_) (fun hf _ => ?_)
  · refine z_aload_n F 0 dX12_body_14 rfl rfl ?_
    refine z_get F 0 12 37 inlX12 rfl rfl (by decide) fl_X12_330 rfl dX12_body_15 ?_
    refine z_bipush F (50) dX12_body_18 rfl ?_
    refine z_icmp_ne F 26 dX12_body_20 (by decide) hf (fun hf _ => ?_) (fun hf _ => ?_)
    · refine z_aload_n F 0 dX12_body_26 rfl rfl ?_
      refine z_get F 0 12 38 inlX12 rfl rfl (by decide) fl_X12_70 rfl dX12_body_27 ?_
      refine z_aload_n F 0 dX12_body_30 rfl rfl ?_
      refine z_get F 0 12 37 inlX12 rfl rfl (by decide) fl_X12_330 rfl dX12_body_31 ?_
      refine z_iload_n F 1 dX12_body_34 rfl rfl ?_
      refine z_iast F 1 (fun bodyKind_2 => (w_M_body G a_this a_height a_changeAt a_changeWas a_changeIs a_tape a_text a_names a_line a_row a_pastMany a_past a_changed a_greatest a_numbersWere a_told a_waysOf a_waysWere a_blocks a_ordersOf a_imageLine a_bodyKind a_trace a_shelf a_many a_items a_carried people keptMany done tapeMany textMany base at_ ends fault opened lineMany rowMany taller tallerBy pasts isKept imageMany bodies ran ownKind ownNumber bodyKind_2)) rfl hf (fun _ => rfl) dX12_body_35 (fun bodyKind_2 hf => ?_)
      refine z_aload_n F 0 dX12_body_36 rfl rfl ?_
      refine z_dup F rfl dX12_body_37 ?_
      refine z_get F 0 12 37 inlX12 rfl rfl (by decide) fl_X12_330 rfl dX12_body_38 ?_
      refine z_iconst F (1) dX12_body_41 rfl ?_
      refine z_iadd F dX12_body_42 ?_
      refine z_put F 0 12 37 (w_M_body G a_this a_height a_changeAt a_changeWas a_changeIs a_tape a_text a_names a_line a_row a_pastMany a_past a_changed a_greatest a_numbersWere a_told a_waysOf a_waysWere a_blocks a_ordersOf a_imageLine a_bodyKind a_trace a_shelf a_many a_items a_carried people keptMany done tapeMany textMany base at_ ends fault opened lineMany rowMany taller tallerBy pasts isKept imageMany (bodies + (1 : Int32)) ran ownKind ownNumber bodyKind_2) inlX12 tyX12 tyX12_ok nmX12 rfl rfl (by decide) fl_X12_330 rfl rfl rfl (Nat.le_of_ble_eq_true rfl) rfl dX12_body_43 ?_
      refine z_aload_n F 0 dX12_body_46 rfl rfl ?_
      refine z_get F 0 12 37 inlX12 rfl rfl (by decide) fl_X12_330 rfl dX12_body_47 ?_
      refine z_iconst F (1) dX12_body_50 rfl ?_
      refine z_isub F dX12_body_51 ?_
      have eq1 := Option.some.inj hf
      obtain ⟨ee1, eq2⟩ := Prod.mk.inj eq1
      obtain ⟨ee2, ee3⟩ := Prod.mk.inj eq2
      subst ee1
      subst ee2
      subst ee3
      exact z_iret F rfl rfl rfl rfl dX12_body_52
    · refine z_bipush F (-3) dX12_body_23 rfl ?_
      have eq1 := Option.some.inj hf
      obtain ⟨ee1, eq2⟩ := Prod.mk.inj eq1
      obtain ⟨ee2, ee3⟩ := Prod.mk.inj eq2
      subst ee1
      subst ee2
      subst ee3
      exact z_iret F rfl rfl rfl rfl dX12_body_25
  · refine z_iconst F (-1) dX12_body_12 rfl ?_
    have eq1 := Option.some.inj hf
    obtain ⟨ee1, eq2⟩ := Prod.mk.inj eq1
    obtain ⟨ee2, ee3⟩ := Prod.mk.inj eq2
    subst ee1
    subst ee2
    subst ee3
    exact z_iret F rfl rfl rfl rfl dX12_body_13

abbrev w_M_above (G : zG) : va_W := []
def f_M_above (x0 : Int32) : Int32 := (if x0 = 3 then 2 else (if x0 = 4 then 1 else (if x0 = 5 then 3 else (if x0 = 7 then 4 else 0))))
set_option maxRecDepth 100000 in
set_option maxHeartbeats 4000000 in
theorem c_M_above (l : Launch) (G : zG) (x0 : Int32) (r_ : Int32) (hf : f_M_above x0 = r_) : zM l yX12_above cX12_above 1 (some .int) 0 0 G [.int x0] (w_M_above G) (some (.int r_)) (w_M_above G) := by
  refine zM.of [(0, .int x0)] (own := RX12) rfl (by decide +kernel) (Nat.le_of_ble_eq_true rfl) rfl rfl fun X hX F => ?_
  subst hX
  replace hf := (f_M_above.eq_1 ..).symm.trans hf
  refine z_iload_n F 0 dX12_above_0 rfl rfl ?_
  refine z_iconst F (3) dX12_above_1 rfl ?_
  refine z_icmp_ne F 9 dX12_above_2 (by decide) hf (fun hf _ => ?_) (fun hf _ => ?_)
  · refine z_iload_n F 0 dX12_above_9 rfl rfl ?_
    refine z_iconst F (4) dX12_above_10 rfl ?_
    refine z_icmp_ne F 18 dX12_above_11 (by decide) hf (fun hf _ => ?_) (fun hf _ => ?_)
    · refine z_iload_n F 0 dX12_above_18 rfl rfl ?_
      refine z_iconst F (5) dX12_above_19 rfl ?_
      refine z_icmp_ne F 27 dX12_above_20 (by decide) hf (fun hf _ => ?_) (fun hf _ => ?_)
      · refine z_iload_n F 0 dX12_above_27 rfl rfl ?_
        refine z_bipush F (7) dX12_above_28 rfl ?_
        refine z_icmp_ne F 37 dX12_above_30 (by decide) hf (fun hf _ => ?_) (fun hf _ => ?_)
        · refine z_iconst F (0) dX12_above_37 rfl ?_
          subst hf
          exact z_iret F rfl rfl rfl rfl dX12_above_38
        · refine z_iconst F (4) dX12_above_33 rfl ?_
          refine z_goto F 38 dX12_above_34 (by decide) ?_
          subst hf
          exact z_iret F rfl rfl rfl rfl dX12_above_38
      · refine z_iconst F (3) dX12_above_23 rfl ?_
        refine z_goto F 38 dX12_above_24 (by decide) ?_
        subst hf
        exact z_iret F rfl rfl rfl rfl dX12_above_38
    · refine z_iconst F (1) dX12_above_14 rfl ?_
      refine z_goto F 38 dX12_above_15 (by decide) ?_
      subst hf
      exact z_iret F rfl rfl rfl rfl dX12_above_38
  · refine z_iconst F (2) dX12_above_5 rfl ?_
    refine z_goto F 38 dX12_above_6 (by decide) ?_
    subst hf
    exact z_iret F rfl rfl rfl rfl dX12_above_38

abbrev w_M_begins (G : zG) (a_this : Nat) (a_height : Nat) (a_changeAt : Nat) (a_changeWas : Nat) (a_changeIs : Nat) (a_tape : Nat) (a_text : Nat) (a_names : Nat) (a_line : Nat) (a_row : Nat) (a_pastMany : Nat) (a_past : Nat) (a_changed : Nat) (a_greatest : Nat) (a_numbersWere : Nat) (a_told : Nat) (a_waysOf : Nat) (a_waysWere : Nat) (a_blocks : Nat) (a_ordersOf : Nat) (a_imageLine : Nat) (a_bodyKind : Nat) (a_trace : Nat) (a_shelf : Nat) (a_many : Nat) (a_items : Nat) (a_carried : Nat) (people : Int32) (keptMany : Int32) (done : Int32) (tapeMany : Int32) (textMany : Int32) (base : Int32) (at_ : Int32) (ends : Int32) (fault : Int32) (opened : Int32) (lineMany : Int32) (rowMany : Int32) (taller : Int32) (tallerBy : Int32) (pasts : Int32) (isKept : Int32) (imageMany : Int32) (bodies : Int32) (ran : Int32) (ownKind : Int32) (ownNumber : Int32) (trace : Nat → Int32) : va_W := [(a_this, cO 12 [.int people, .ref a_height, .ref a_changeAt, .ref a_changeWas, .ref a_changeIs, .int keptMany, .int done, .ref a_tape, .int tapeMany, .ref a_text, .int textMany, .int base, .int at_, .int ends, .int fault, .int opened, .ref a_names, .ref a_line, .int lineMany, .ref a_row, .int rowMany, .int taller, .int tallerBy, .ref a_pastMany, .ref a_past, .int pasts, .ref a_changed, .ref a_greatest, .ref a_numbersWere, .ref a_told, .ref a_waysOf, .ref a_waysWere, .ref a_blocks, .ref a_ordersOf, .int isKept, .int imageMany, .ref a_imageLine, .int bodies, .ref a_bodyKind, .ref a_trace, .int ran, .int ownKind, .int ownNumber, .ref a_shelf, .ref a_many, .ref a_items, .ref a_carried]), (a_trace, cI G 24 trace)]
def f_M_begins (ran : Int32) (trace : Nat → Int32) (x1 : Int32) : Option (Int32 × (Nat → Int32)) := (if (24 : Int32) ≤ ran then (some ((ran + (1 : Int32)), trace)) else (zs trace 24 ran x1 fun trace_1 => (some ((ran + (1 : Int32)), trace_1))))
set_option maxRecDepth 100000 in
set_option maxHeartbeats 4000000 in
theorem c_M_begins (l : Launch) (G : zG) (a_this : Nat) (a_height : Nat) (a_changeAt : Nat) (a_changeWas : Nat) (a_changeIs : Nat) (a_tape : Nat) (a_text : Nat) (a_names : Nat) (a_line : Nat) (a_row : Nat) (a_pastMany : Nat) (a_past : Nat) (a_changed : Nat) (a_greatest : Nat) (a_numbersWere : Nat) (a_told : Nat) (a_waysOf : Nat) (a_waysWere : Nat) (a_blocks : Nat) (a_ordersOf : Nat) (a_imageLine : Nat) (a_bodyKind : Nat) (a_trace : Nat) (a_shelf : Nat) (a_many : Nat) (a_items : Nat) (a_carried : Nat) (people : Int32) (keptMany : Int32) (done : Int32) (tapeMany : Int32) (textMany : Int32) (base : Int32) (at_ : Int32) (ends : Int32) (fault : Int32) (opened : Int32) (lineMany : Int32) (rowMany : Int32) (taller : Int32) (tallerBy : Int32) (pasts : Int32) (isKept : Int32) (imageMany : Int32) (bodies : Int32) (ran : Int32) (ownKind : Int32) (ownNumber : Int32) (trace : Nat → Int32) (x1 : Int32) (o_ran : Int32) (o_trace : Nat → Int32) (hf : f_M_begins ran trace x1 = some (o_ran, o_trace)) : zM l yX12_begins cX12_begins 2 none 0 0 G [.ref a_this, .int x1] (w_M_begins G a_this a_height a_changeAt a_changeWas a_changeIs a_tape a_text a_names a_line a_row a_pastMany a_past a_changed a_greatest a_numbersWere a_told a_waysOf a_waysWere a_blocks a_ordersOf a_imageLine a_bodyKind a_trace a_shelf a_many a_items a_carried people keptMany done tapeMany textMany base at_ ends fault opened lineMany rowMany taller tallerBy pasts isKept imageMany bodies ran ownKind ownNumber trace) (none) (w_M_begins G a_this a_height a_changeAt a_changeWas a_changeIs a_tape a_text a_names a_line a_row a_pastMany a_past a_changed a_greatest a_numbersWere a_told a_waysOf a_waysWere a_blocks a_ordersOf a_imageLine a_bodyKind a_trace a_shelf a_many a_items a_carried people keptMany done tapeMany textMany base at_ ends fault opened lineMany rowMany taller tallerBy pasts isKept imageMany bodies o_ran ownKind ownNumber o_trace) := by
  refine zM.of [(0, .ref a_this), (1, .int x1)] (own := RX12) rfl (by decide +kernel) (Nat.le_of_ble_eq_true rfl) rfl rfl fun X hX F => ?_
  subst hX
  replace hf := (f_M_begins.eq_1 ..).symm.trans hf
  refine z_aload_n F 0 dX12_begins_0 rfl rfl ?_
  refine z_get F 0 12 40 inlX12 rfl rfl (by decide) fl_X12_335 rfl dX12_begins_1 ?_
  refine z_bipush F (24) dX12_begins_4 rfl ?_
  refine z_icmp_ge F 19 dX12_begins_6 (by decide) hf (fun hf _ => ?_) (fun hf _ => ?_)
  · refine z_aload_n F 0 dX12_begins_19 rfl rfl ?_
    refine z_dup F rfl dX12_begins_20 ?_
    refine z_get F 0 12 40 inlX12 rfl rfl (by decide) fl_X12_335 rfl dX12_begins_21 ?_
    refine z_iconst F (1) dX12_begins_24 rfl ?_
    refine z_iadd F dX12_begins_25 ?_
    refine z_put F 0 12 40 (w_M_begins G a_this a_height a_changeAt a_changeWas a_changeIs a_tape a_text a_names a_line a_row a_pastMany a_past a_changed a_greatest a_numbersWere a_told a_waysOf a_waysWere a_blocks a_ordersOf a_imageLine a_bodyKind a_trace a_shelf a_many a_items a_carried people keptMany done tapeMany textMany base at_ ends fault opened lineMany rowMany taller tallerBy pasts isKept imageMany bodies (ran + (1 : Int32)) ownKind ownNumber trace) inlX12 tyX12 tyX12_ok nmX12 rfl rfl (by decide) fl_X12_335 rfl rfl rfl (Nat.le_of_ble_eq_true rfl) rfl dX12_begins_26 ?_
    have eq1 := Option.some.inj hf
    obtain ⟨ee1, ee2⟩ := Prod.mk.inj eq1
    subst ee1
    subst ee2
    exact z_vret F rfl rfl rfl dX12_begins_29
  · refine z_aload_n F 0 dX12_begins_9 rfl rfl ?_
    refine z_get F 0 12 39 inlX12 rfl rfl (by decide) fl_X12_73 rfl dX12_begins_10 ?_
    refine z_aload_n F 0 dX12_begins_13 rfl rfl ?_
    refine z_get F 0 12 40 inlX12 rfl rfl (by decide) fl_X12_335 rfl dX12_begins_14 ?_
    refine z_iload_n F 1 dX12_begins_17 rfl rfl ?_
    refine z_iast F 1 (fun trace_1 => (w_M_begins G a_this a_height a_changeAt a_changeWas a_changeIs a_tape a_text a_names a_line a_row a_pastMany a_past a_changed a_greatest a_numbersWere a_told a_waysOf a_waysWere a_blocks a_ordersOf a_imageLine a_bodyKind a_trace a_shelf a_many a_items a_carried people keptMany done tapeMany textMany base at_ ends fault opened lineMany rowMany taller tallerBy pasts isKept imageMany bodies ran ownKind ownNumber trace_1)) rfl hf (fun _ => rfl) dX12_begins_18 (fun trace_1 hf => ?_)
    refine z_aload_n F 0 dX12_begins_19 rfl rfl ?_
    refine z_dup F rfl dX12_begins_20 ?_
    refine z_get F 0 12 40 inlX12 rfl rfl (by decide) fl_X12_335 rfl dX12_begins_21 ?_
    refine z_iconst F (1) dX12_begins_24 rfl ?_
    refine z_iadd F dX12_begins_25 ?_
    refine z_put F 0 12 40 (w_M_begins G a_this a_height a_changeAt a_changeWas a_changeIs a_tape a_text a_names a_line a_row a_pastMany a_past a_changed a_greatest a_numbersWere a_told a_waysOf a_waysWere a_blocks a_ordersOf a_imageLine a_bodyKind a_trace a_shelf a_many a_items a_carried people keptMany done tapeMany textMany base at_ ends fault opened lineMany rowMany taller tallerBy pasts isKept imageMany bodies (ran + (1 : Int32)) ownKind ownNumber trace_1) inlX12 tyX12 tyX12_ok nmX12 rfl rfl (by decide) fl_X12_335 rfl rfl rfl (Nat.le_of_ble_eq_true rfl) rfl dX12_begins_26 ?_
    have eq1 := Option.some.inj hf
    obtain ⟨ee1, ee2⟩ := Prod.mk.inj eq1
    subst ee1
    subst ee2
    exact z_vret F rfl rfl rfl dX12_begins_29

abbrev w_M_saysAs (G : zG) (a_this : Nat) (a_height : Nat) (a_changeAt : Nat) (a_changeWas : Nat) (a_changeIs : Nat) (a_tape : Nat) (a_text : Nat) (a_names : Nat) (a_line : Nat) (a_row : Nat) (a_pastMany : Nat) (a_past : Nat) (a_changed : Nat) (a_greatest : Nat) (a_numbersWere : Nat) (a_told : Nat) (a_waysOf : Nat) (a_waysWere : Nat) (a_blocks : Nat) (a_ordersOf : Nat) (a_imageLine : Nat) (a_bodyKind : Nat) (a_trace : Nat) (a_shelf : Nat) (a_many : Nat) (a_items : Nat) (a_carried : Nat) (people : Int32) (keptMany : Int32) (done : Int32) (tapeMany : Int32) (textMany : Int32) (base : Int32) (at_ : Int32) (ends : Int32) (fault : Int32) (opened : Int32) (lineMany : Int32) (rowMany : Int32) (taller : Int32) (tallerBy : Int32) (pasts : Int32) (isKept : Int32) (imageMany : Int32) (bodies : Int32) (ran : Int32) (ownKind : Int32) (ownNumber : Int32) (trace : Nat → Int32) : va_W := [(a_this, cO 12 [.int people, .ref a_height, .ref a_changeAt, .ref a_changeWas, .ref a_changeIs, .int keptMany, .int done, .ref a_tape, .int tapeMany, .ref a_text, .int textMany, .int base, .int at_, .int ends, .int fault, .int opened, .ref a_names, .ref a_line, .int lineMany, .ref a_row, .int rowMany, .int taller, .int tallerBy, .ref a_pastMany, .ref a_past, .int pasts, .ref a_changed, .ref a_greatest, .ref a_numbersWere, .ref a_told, .ref a_waysOf, .ref a_waysWere, .ref a_blocks, .ref a_ordersOf, .int isKept, .int imageMany, .ref a_imageLine, .int bodies, .ref a_bodyKind, .ref a_trace, .int ran, .int ownKind, .int ownNumber, .ref a_shelf, .ref a_many, .ref a_items, .ref a_carried]), (a_trace, cI G 24 trace)]
def K_M_saysAs (l : Launch) (G : zG) (a_this : Nat) (a_height : Nat) (a_changeAt : Nat) (a_changeWas : Nat) (a_changeIs : Nat) (a_tape : Nat) (a_text : Nat) (a_names : Nat) (a_line : Nat) (a_row : Nat) (a_pastMany : Nat) (a_past : Nat) (a_changed : Nat) (a_greatest : Nat) (a_numbersWere : Nat) (a_told : Nat) (a_waysOf : Nat) (a_waysWere : Nat) (a_blocks : Nat) (a_ordersOf : Nat) (a_imageLine : Nat) (a_bodyKind : Nat) (a_trace : Nat) (a_shelf : Nat) (a_many : Nat) (a_items : Nat) (a_carried : Nat) (fr1 lo1 : Nat) (rec : Int32 → Int32 → (Nat → Int32) → Int32 → Int32 → Option (Int32 × Int32 × (Nat → Int32))) : Prop := ∀ (people : Int32) (keptMany : Int32) (done : Int32) (tapeMany : Int32) (textMany : Int32) (base : Int32) (at_ : Int32) (ends : Int32) (fault : Int32) (opened : Int32) (lineMany : Int32) (rowMany : Int32) (taller : Int32) (tallerBy : Int32) (pasts : Int32) (isKept : Int32) (imageMany : Int32) (bodies : Int32) (ran : Int32) (ownKind : Int32) (ownNumber : Int32) (trace : Nat → Int32) (x1 : Int32) (x2 : Int32) (r_ : Int32) (o_ran : Int32) (o_trace : Nat → Int32), rec ran ownNumber trace x1 x2 = some (r_, o_ran, o_trace) → zM l yX12_saysAs cX12_saysAs 3 (some .int) fr1 lo1 G [.ref a_this, .int x1, .int x2] (w_M_saysAs G a_this a_height a_changeAt a_changeWas a_changeIs a_tape a_text a_names a_line a_row a_pastMany a_past a_changed a_greatest a_numbersWere a_told a_waysOf a_waysWere a_blocks a_ordersOf a_imageLine a_bodyKind a_trace a_shelf a_many a_items a_carried people keptMany done tapeMany textMany base at_ ends fault opened lineMany rowMany taller tallerBy pasts isKept imageMany bodies ran ownKind ownNumber trace) (some (.int r_)) (w_M_saysAs G a_this a_height a_changeAt a_changeWas a_changeIs a_tape a_text a_names a_line a_row a_pastMany a_past a_changed a_greatest a_numbersWere a_told a_waysOf a_waysWere a_blocks a_ordersOf a_imageLine a_bodyKind a_trace a_shelf a_many a_items a_carried people keptMany done tapeMany textMany base at_ ends fault opened lineMany rowMany taller tallerBy pasts isKept imageMany bodies o_ran ownKind ownNumber o_trace)
def f_M_saysAs : Nat → Int32 → Int32 → (Nat → Int32) → Int32 → Int32 → Option (Int32 × Int32 × (Nat → Int32))
  | 0, _, _, _, _, _ => none
  | fuel + 1, ran, ownNumber, trace, x1, x2 => (if x1 = 1 then (zb2 (f_M_begins ran trace 20) fun ran_1 trace_2 => (zb3 ((f_M_saysAs fuel) ran_1 ownNumber trace_2 0 x2) fun r_4 ran_5 trace_6 => (some ((r_4 + (3 : Int32)), ran_5, trace_6)))) else (if x1 = 4 then (zb2 (f_M_begins ran trace 20) fun ran_8 trace_9 => (zb3 ((f_M_saysAs fuel) ran_8 ownNumber trace_9 0 x2) fun r_11 ran_12 trace_13 => (some ((r_11 + (3 : Int32)), ran_12, trace_13)))) else (if x1 = 7 then (zb2 (f_M_begins ran trace 20) fun ran_25 trace_26 => (zb3 ((f_M_saysAs fuel) ran_25 ownNumber trace_26 0 x2) fun r_28 ran_29 trace_30 => (some ((r_28 + (3 : Int32)), ran_29, trace_30)))) else (if x1 = 6 then (zb2 (f_M_begins ran trace 70) fun ran_18 trace_19 => (zb3 ((f_M_saysAs fuel) ran_18 ownNumber trace_19 0 x2) fun r_21 ran_22 trace_23 => (some ((r_21 * (2 : Int32)), ran_22, trace_23)))) else (zb2 (f_M_begins ran trace 1) fun ran_15 trace_16 => (some ((x2 + ownNumber), ran_15, trace_16)))))))
set_option maxRecDepth 100000 in
set_option maxHeartbeats 4000000 in
theorem kn_M_saysAs (l : Launch) (G : zG) (a_this : Nat) (a_height : Nat) (a_changeAt : Nat) (a_changeWas : Nat) (a_changeIs : Nat) (a_tape : Nat) (a_text : Nat) (a_names : Nat) (a_line : Nat) (a_row : Nat) (a_pastMany : Nat) (a_past : Nat) (a_changed : Nat) (a_greatest : Nat) (a_numbersWere : Nat) (a_told : Nat) (a_waysOf : Nat) (a_waysWere : Nat) (a_blocks : Nat) (a_ordersOf : Nat) (a_imageLine : Nat) (a_bodyKind : Nat) (a_trace : Nat) (a_shelf : Nat) (a_many : Nat) (a_items : Nat) (a_carried : Nat) : ∀ fuel : Nat, K_M_saysAs l G a_this a_height a_changeAt a_changeWas a_changeIs a_tape a_text a_names a_line a_row a_pastMany a_past a_changed a_greatest a_numbersWere a_told a_waysOf a_waysWere a_blocks a_ordersOf a_imageLine a_bodyKind a_trace a_shelf a_many a_items a_carried (fuel * 2 + 2) (fuel * 44 + 81) (f_M_saysAs fuel) := by
  intro fuel
  induction fuel with
  | zero => intro people keptMany done tapeMany textMany base at_ ends fault opened lineMany rowMany taller tallerBy pasts isKept imageMany bodies ran ownKind ownNumber trace x1 x2 r_ o_ran o_trace hf; exact absurd ((f_M_saysAs.eq_1 ..).symm.trans hf) (fun h => by cases h)
  | succ fuel ih =>
    intro people keptMany done tapeMany textMany base at_ ends fault opened lineMany rowMany taller tallerBy pasts isKept imageMany bodies ran ownKind ownNumber trace x1 x2 r_ o_ran o_trace hf
    refine zM.of [(0, .ref a_this), (1, .int x1), (2, .int x2)] (own := RX12) rfl (by decide +kernel) (Nat.le_of_ble_eq_true rfl) rfl rfl fun X hX F => ?_
    subst hX
    have hrec := ih
    replace hf := (f_M_saysAs.eq_2 ..).symm.trans hf
    refine z_iload_n F 1 dX12_saysAs_0 rfl rfl ?_
    refine z_iconst F (1) dX12_saysAs_1 rfl ?_
    refine z_icmp_eq F 16 dX12_saysAs_2 (by decide) hf (fun hf _ => ?_) (fun hf _ => ?_)
    · refine z_aload_n F 0 dX12_saysAs_16 rfl rfl ?_
      refine z_bipush F (20) dX12_saysAs_17 rfl ?_
      obtain ⟨ran_1, trace_2, hg, hf⟩ := zb2_some hf
      refine z_callVm (rest := []) F 12 (c_M_begins (xL X) G a_this a_height a_changeAt a_changeWas a_changeIs a_tape a_text a_names a_line a_row a_pastMany a_past a_changed a_greatest a_numbersWere a_told a_waysOf a_waysWere a_blocks a_ordersOf a_imageLine a_bodyKind a_trace a_shelf a_many a_items a_carried people keptMany done tapeMany textMany base at_ ends fault opened lineMany rowMany taller tallerBy pasts isKept imageMany bodies ran ownKind ownNumber trace 20 ran_1 trace_2 hg) hy_X12_begins ml_X12_338 hd_X12_begins ⟨by omega, by omega⟩ rfl [0, 1] rfl rfl 0 rfl rfl (w_M_saysAs G a_this a_height a_changeAt a_changeWas a_changeIs a_tape a_text a_names a_line a_row a_pastMany a_past a_changed a_greatest a_numbersWere a_told a_waysOf a_waysWere a_blocks a_ordersOf a_imageLine a_bodyKind a_trace a_shelf a_many a_items a_carried people keptMany done tapeMany textMany base at_ ends fault opened lineMany rowMany taller tallerBy pasts isKept imageMany bodies ran_1 ownKind ownNumber trace_2) [some 0, some 1] rfl (by decide +kernel) rfl rfl (Nat.le_of_ble_eq_true rfl) dX12_saysAs_19 (fun hz_3 => ?_)
      refine z_aload_n F 0 dX12_saysAs_22 rfl rfl ?_
      refine z_iconst F (0) dX12_saysAs_23 rfl ?_
      refine z_iload_n F 2 dX12_saysAs_24 rfl rfl ?_
      obtain ⟨r_4, ran_5, trace_6, hg, hf⟩ := zb3_some hf
      refine z_callVm (rest := []) F 12 (hrec people keptMany done tapeMany textMany base at_ ends fault opened lineMany rowMany taller tallerBy pasts isKept imageMany bodies ran_1 ownKind ownNumber trace_2 0 x2 r_4 ran_5 trace_6 hg) hy_X12_saysAs ml_X12_341 hd_X12_saysAs ⟨by omega, by omega⟩ rfl [0, 1] rfl rfl 0 rfl rfl (w_M_saysAs G a_this a_height a_changeAt a_changeWas a_changeIs a_tape a_text a_names a_line a_row a_pastMany a_past a_changed a_greatest a_numbersWere a_told a_waysOf a_waysWere a_blocks a_ordersOf a_imageLine a_bodyKind a_trace a_shelf a_many a_items a_carried people keptMany done tapeMany textMany base at_ ends fault opened lineMany rowMany taller tallerBy pasts isKept imageMany bodies ran_5 ownKind ownNumber trace_6) [some 0, some 1] rfl (by decide +kernel) rfl rfl (Nat.le_of_ble_eq_true rfl) dX12_saysAs_25 (fun hz_7 => ?_)
      refine z_iconst F (3) dX12_saysAs_28 rfl ?_
      refine z_iadd F dX12_saysAs_29 ?_
      have eq1 := Option.some.inj hf
      obtain ⟨ee1, eq2⟩ := Prod.mk.inj eq1
      obtain ⟨ee2, ee3⟩ := Prod.mk.inj eq2
      subst ee1
      subst ee2
      subst ee3
      exact z_iret F rfl rfl rfl rfl dX12_saysAs_30
    · refine z_iload_n F 1 dX12_saysAs_5 rfl rfl ?_
      refine z_iconst F (4) dX12_saysAs_6 rfl ?_
      refine z_icmp_eq F 16 dX12_saysAs_7 (by decide) hf (fun hf _ => ?_) (fun hf _ => ?_)
      · refine z_aload_n F 0 dX12_saysAs_16 rfl rfl ?_
        refine z_bipush F (20) dX12_saysAs_17 rfl ?_
        obtain ⟨ran_8, trace_9, hg, hf⟩ := zb2_some hf
        refine z_callVm (rest := []) F 12 (c_M_begins (xL X) G a_this a_height a_changeAt a_changeWas a_changeIs a_tape a_text a_names a_line a_row a_pastMany a_past a_changed a_greatest a_numbersWere a_told a_waysOf a_waysWere a_blocks a_ordersOf a_imageLine a_bodyKind a_trace a_shelf a_many a_items a_carried people keptMany done tapeMany textMany base at_ ends fault opened lineMany rowMany taller tallerBy pasts isKept imageMany bodies ran ownKind ownNumber trace 20 ran_8 trace_9 hg) hy_X12_begins ml_X12_338 hd_X12_begins ⟨by omega, by omega⟩ rfl [0, 1] rfl rfl 0 rfl rfl (w_M_saysAs G a_this a_height a_changeAt a_changeWas a_changeIs a_tape a_text a_names a_line a_row a_pastMany a_past a_changed a_greatest a_numbersWere a_told a_waysOf a_waysWere a_blocks a_ordersOf a_imageLine a_bodyKind a_trace a_shelf a_many a_items a_carried people keptMany done tapeMany textMany base at_ ends fault opened lineMany rowMany taller tallerBy pasts isKept imageMany bodies ran_8 ownKind ownNumber trace_9) [some 0, some 1] rfl (by decide +kernel) rfl rfl (Nat.le_of_ble_eq_true rfl) dX12_saysAs_19 (fun hz_10 => ?_)
        refine z_aload_n F 0 dX12_saysAs_22 rfl rfl ?_
        refine z_iconst F (0) dX12_saysAs_23 rfl ?_
        refine z_iload_n F 2 dX12_saysAs_24 rfl rfl ?_
        obtain ⟨r_11, ran_12, trace_13, hg, hf⟩ := zb3_some hf
        refine z_callVm (rest := []) F 12 (hrec people keptMany done tapeMany textMany base at_ ends fault opened lineMany rowMany taller tallerBy pasts isKept imageMany bodies ran_8 ownKind ownNumber trace_9 0 x2 r_11 ran_12 trace_13 hg) hy_X12_saysAs ml_X12_341 hd_X12_saysAs ⟨by omega, by omega⟩ rfl [0, 1] rfl rfl 0 rfl rfl (w_M_saysAs G a_this a_height a_changeAt a_changeWas a_changeIs a_tape a_text a_names a_line a_row a_pastMany a_past a_changed a_greatest a_numbersWere a_told a_waysOf a_waysWere a_blocks a_ordersOf a_imageLine a_bodyKind a_trace a_shelf a_many a_items a_carried people keptMany done tapeMany textMany base at_ ends fault opened lineMany rowMany taller tallerBy pasts isKept imageMany bodies ran_12 ownKind ownNumber trace_13) [some 0, some 1] rfl (by decide +kernel) rfl rfl (Nat.le_of_ble_eq_true rfl) dX12_saysAs_25 (fun hz_14 => ?_)
        refine z_iconst F (3) dX12_saysAs_28 rfl ?_
        refine z_iadd F dX12_saysAs_29 ?_
        have eq1 := Option.some.inj hf
        obtain ⟨ee1, eq2⟩ := Prod.mk.inj eq1
        obtain ⟨ee2, ee3⟩ := Prod.mk.inj eq2
        subst ee1
        subst ee2
        subst ee3
        exact z_iret F rfl rfl rfl rfl dX12_saysAs_30
      · refine z_iload_n F 1 dX12_saysAs_10 rfl rfl ?_
        refine z_bipush F (7) dX12_saysAs_11 rfl ?_
        refine z_icmp_ne F 31 dX12_saysAs_13 (by decide) hf (fun hf _ => ?_) (fun hf _ => ?_)
        · refine z_iload_n F 1 dX12_saysAs_31 rfl rfl ?_
          refine z_bipush F (6) dX12_saysAs_32 rfl ?_
          refine z_icmp_ne F 52 dX12_saysAs_34 (by decide) hf (fun hf _ => ?_) (fun hf _ => ?_)
          · refine z_aload_n F 0 dX12_saysAs_52 rfl rfl ?_
            refine z_iconst F (1) dX12_saysAs_53 rfl ?_
            obtain ⟨ran_15, trace_16, hg, hf⟩ := zb2_some hf
            refine z_callVm (rest := []) F 12 (c_M_begins (xL X) G a_this a_height a_changeAt a_changeWas a_changeIs a_tape a_text a_names a_line a_row a_pastMany a_past a_changed a_greatest a_numbersWere a_told a_waysOf a_waysWere a_blocks a_ordersOf a_imageLine a_bodyKind a_trace a_shelf a_many a_items a_carried people keptMany done tapeMany textMany base at_ ends fault opened lineMany rowMany taller tallerBy pasts isKept imageMany bodies ran ownKind ownNumber trace 1 ran_15 trace_16 hg) hy_X12_begins ml_X12_338 hd_X12_begins ⟨by omega, by omega⟩ rfl [0, 1] rfl rfl 0 rfl rfl (w_M_saysAs G a_this a_height a_changeAt a_changeWas a_changeIs a_tape a_text a_names a_line a_row a_pastMany a_past a_changed a_greatest a_numbersWere a_told a_waysOf a_waysWere a_blocks a_ordersOf a_imageLine a_bodyKind a_trace a_shelf a_many a_items a_carried people keptMany done tapeMany textMany base at_ ends fault opened lineMany rowMany taller tallerBy pasts isKept imageMany bodies ran_15 ownKind ownNumber trace_16) [some 0, some 1] rfl (by decide +kernel) rfl rfl (Nat.le_of_ble_eq_true rfl) dX12_saysAs_54 (fun hz_17 => ?_)
            refine z_iload_n F 2 dX12_saysAs_57 rfl rfl ?_
            refine z_aload_n F 0 dX12_saysAs_58 rfl rfl ?_
            refine z_get F 0 12 42 inlX12 rfl rfl (by decide) fl_X12_344 rfl dX12_saysAs_59 ?_
            refine z_iadd F dX12_saysAs_62 ?_
            have eq1 := Option.some.inj hf
            obtain ⟨ee1, eq2⟩ := Prod.mk.inj eq1
            obtain ⟨ee2, ee3⟩ := Prod.mk.inj eq2
            subst ee1
            subst ee2
            subst ee3
            exact z_iret F rfl rfl rfl rfl dX12_saysAs_63
          · refine z_aload_n F 0 dX12_saysAs_37 rfl rfl ?_
            refine z_bipush F (70) dX12_saysAs_38 rfl ?_
            obtain ⟨ran_18, trace_19, hg, hf⟩ := zb2_some hf
            refine z_callVm (rest := []) F 12 (c_M_begins (xL X) G a_this a_height a_changeAt a_changeWas a_changeIs a_tape a_text a_names a_line a_row a_pastMany a_past a_changed a_greatest a_numbersWere a_told a_waysOf a_waysWere a_blocks a_ordersOf a_imageLine a_bodyKind a_trace a_shelf a_many a_items a_carried people keptMany done tapeMany textMany base at_ ends fault opened lineMany rowMany taller tallerBy pasts isKept imageMany bodies ran ownKind ownNumber trace 70 ran_18 trace_19 hg) hy_X12_begins ml_X12_338 hd_X12_begins ⟨by omega, by omega⟩ rfl [0, 1] rfl rfl 0 rfl rfl (w_M_saysAs G a_this a_height a_changeAt a_changeWas a_changeIs a_tape a_text a_names a_line a_row a_pastMany a_past a_changed a_greatest a_numbersWere a_told a_waysOf a_waysWere a_blocks a_ordersOf a_imageLine a_bodyKind a_trace a_shelf a_many a_items a_carried people keptMany done tapeMany textMany base at_ ends fault opened lineMany rowMany taller tallerBy pasts isKept imageMany bodies ran_18 ownKind ownNumber trace_19) [some 0, some 1] rfl (by decide +kernel) rfl rfl (Nat.le_of_ble_eq_true rfl) dX12_saysAs_40 (fun hz_20 => ?_)
            refine z_aload_n F 0 dX12_saysAs_43 rfl rfl ?_
            refine z_iconst F (0) dX12_saysAs_44 rfl ?_
            refine z_iload_n F 2 dX12_saysAs_45 rfl rfl ?_
            obtain ⟨r_21, ran_22, trace_23, hg, hf⟩ := zb3_some hf
            refine z_callVm (rest := []) F 12 (hrec people keptMany done tapeMany textMany base at_ ends fault opened lineMany rowMany taller tallerBy pasts isKept imageMany bodies ran_18 ownKind ownNumber trace_19 0 x2 r_21 ran_22 trace_23 hg) hy_X12_saysAs ml_X12_341 hd_X12_saysAs ⟨by omega, by omega⟩ rfl [0, 1] rfl rfl 0 rfl rfl (w_M_saysAs G a_this a_height a_changeAt a_changeWas a_changeIs a_tape a_text a_names a_line a_row a_pastMany a_past a_changed a_greatest a_numbersWere a_told a_waysOf a_waysWere a_blocks a_ordersOf a_imageLine a_bodyKind a_trace a_shelf a_many a_items a_carried people keptMany done tapeMany textMany base at_ ends fault opened lineMany rowMany taller tallerBy pasts isKept imageMany bodies ran_22 ownKind ownNumber trace_23) [some 0, some 1] rfl (by decide +kernel) rfl rfl (Nat.le_of_ble_eq_true rfl) dX12_saysAs_46 (fun hz_24 => ?_)
            refine z_iconst F (2) dX12_saysAs_49 rfl ?_
            refine z_imul F dX12_saysAs_50 ?_
            have eq1 := Option.some.inj hf
            obtain ⟨ee1, eq2⟩ := Prod.mk.inj eq1
            obtain ⟨ee2, ee3⟩ := Prod.mk.inj eq2
            subst ee1
            subst ee2
            subst ee3
            exact z_iret F rfl rfl rfl rfl dX12_saysAs_51
        · refine z_aload_n F 0 dX12_saysAs_16 rfl rfl ?_
          refine z_bipush F (20) dX12_saysAs_17 rfl ?_
          obtain ⟨ran_25, trace_26, hg, hf⟩ := zb2_some hf
          refine z_callVm (rest := []) F 12 (c_M_begins (xL X) G a_this a_height a_changeAt a_changeWas a_changeIs a_tape a_text a_names a_line a_row a_pastMany a_past a_changed a_greatest a_numbersWere a_told a_waysOf a_waysWere a_blocks a_ordersOf a_imageLine a_bodyKind a_trace a_shelf a_many a_items a_carried people keptMany done tapeMany textMany base at_ ends fault opened lineMany rowMany taller tallerBy pasts isKept imageMany bodies ran ownKind ownNumber trace 20 ran_25 trace_26 hg) hy_X12_begins ml_X12_338 hd_X12_begins ⟨by omega, by omega⟩ rfl [0, 1] rfl rfl 0 rfl rfl (w_M_saysAs G a_this a_height a_changeAt a_changeWas a_changeIs a_tape a_text a_names a_line a_row a_pastMany a_past a_changed a_greatest a_numbersWere a_told a_waysOf a_waysWere a_blocks a_ordersOf a_imageLine a_bodyKind a_trace a_shelf a_many a_items a_carried people keptMany done tapeMany textMany base at_ ends fault opened lineMany rowMany taller tallerBy pasts isKept imageMany bodies ran_25 ownKind ownNumber trace_26) [some 0, some 1] rfl (by decide +kernel) rfl rfl (Nat.le_of_ble_eq_true rfl) dX12_saysAs_19 (fun hz_27 => ?_)
          refine z_aload_n F 0 dX12_saysAs_22 rfl rfl ?_
          refine z_iconst F (0) dX12_saysAs_23 rfl ?_
          refine z_iload_n F 2 dX12_saysAs_24 rfl rfl ?_
          obtain ⟨r_28, ran_29, trace_30, hg, hf⟩ := zb3_some hf
          refine z_callVm (rest := []) F 12 (hrec people keptMany done tapeMany textMany base at_ ends fault opened lineMany rowMany taller tallerBy pasts isKept imageMany bodies ran_25 ownKind ownNumber trace_26 0 x2 r_28 ran_29 trace_30 hg) hy_X12_saysAs ml_X12_341 hd_X12_saysAs ⟨by omega, by omega⟩ rfl [0, 1] rfl rfl 0 rfl rfl (w_M_saysAs G a_this a_height a_changeAt a_changeWas a_changeIs a_tape a_text a_names a_line a_row a_pastMany a_past a_changed a_greatest a_numbersWere a_told a_waysOf a_waysWere a_blocks a_ordersOf a_imageLine a_bodyKind a_trace a_shelf a_many a_items a_carried people keptMany done tapeMany textMany base at_ ends fault opened lineMany rowMany taller tallerBy pasts isKept imageMany bodies ran_29 ownKind ownNumber trace_30) [some 0, some 1] rfl (by decide +kernel) rfl rfl (Nat.le_of_ble_eq_true rfl) dX12_saysAs_25 (fun hz_31 => ?_)
          refine z_iconst F (3) dX12_saysAs_28 rfl ?_
          refine z_iadd F dX12_saysAs_29 ?_
          have eq1 := Option.some.inj hf
          obtain ⟨ee1, eq2⟩ := Prod.mk.inj eq1
          obtain ⟨ee2, ee3⟩ := Prod.mk.inj eq2
          subst ee1
          subst ee2
          subst ee3
          exact z_iret F rfl rfl rfl rfl dX12_saysAs_30

abbrev w_M_movesAs (G : zG) (a_this : Nat) (a_height : Nat) (a_changeAt : Nat) (a_changeWas : Nat) (a_changeIs : Nat) (a_tape : Nat) (a_text : Nat) (a_names : Nat) (a_line : Nat) (a_row : Nat) (a_pastMany : Nat) (a_past : Nat) (a_changed : Nat) (a_greatest : Nat) (a_numbersWere : Nat) (a_told : Nat) (a_waysOf : Nat) (a_waysWere : Nat) (a_blocks : Nat) (a_ordersOf : Nat) (a_imageLine : Nat) (a_bodyKind : Nat) (a_trace : Nat) (a_shelf : Nat) (a_many : Nat) (a_items : Nat) (a_carried : Nat) (people : Int32) (keptMany : Int32) (done : Int32) (tapeMany : Int32) (textMany : Int32) (base : Int32) (at_ : Int32) (ends : Int32) (fault : Int32) (opened : Int32) (lineMany : Int32) (rowMany : Int32) (taller : Int32) (tallerBy : Int32) (pasts : Int32) (isKept : Int32) (imageMany : Int32) (bodies : Int32) (ran : Int32) (ownKind : Int32) (ownNumber : Int32) (trace : Nat → Int32) : va_W := [(a_this, cO 12 [.int people, .ref a_height, .ref a_changeAt, .ref a_changeWas, .ref a_changeIs, .int keptMany, .int done, .ref a_tape, .int tapeMany, .ref a_text, .int textMany, .int base, .int at_, .int ends, .int fault, .int opened, .ref a_names, .ref a_line, .int lineMany, .ref a_row, .int rowMany, .int taller, .int tallerBy, .ref a_pastMany, .ref a_past, .int pasts, .ref a_changed, .ref a_greatest, .ref a_numbersWere, .ref a_told, .ref a_waysOf, .ref a_waysWere, .ref a_blocks, .ref a_ordersOf, .int isKept, .int imageMany, .ref a_imageLine, .int bodies, .ref a_bodyKind, .ref a_trace, .int ran, .int ownKind, .int ownNumber, .ref a_shelf, .ref a_many, .ref a_items, .ref a_carried]), (a_trace, cI G 24 trace)]
def K_M_movesAs (l : Launch) (G : zG) (a_this : Nat) (a_height : Nat) (a_changeAt : Nat) (a_changeWas : Nat) (a_changeIs : Nat) (a_tape : Nat) (a_text : Nat) (a_names : Nat) (a_line : Nat) (a_row : Nat) (a_pastMany : Nat) (a_past : Nat) (a_changed : Nat) (a_greatest : Nat) (a_numbersWere : Nat) (a_told : Nat) (a_waysOf : Nat) (a_waysWere : Nat) (a_blocks : Nat) (a_ordersOf : Nat) (a_imageLine : Nat) (a_bodyKind : Nat) (a_trace : Nat) (a_shelf : Nat) (a_many : Nat) (a_items : Nat) (a_carried : Nat) (fr1 lo1 : Nat) (rec : Int32 → Int32 → Int32 → (Nat → Int32) → Int32 → Int32 → Option (Int32 × Int32 × (Nat → Int32))) : Prop := ∀ (people : Int32) (keptMany : Int32) (done : Int32) (tapeMany : Int32) (textMany : Int32) (base : Int32) (at_ : Int32) (ends : Int32) (fault : Int32) (opened : Int32) (lineMany : Int32) (rowMany : Int32) (taller : Int32) (tallerBy : Int32) (pasts : Int32) (isKept : Int32) (imageMany : Int32) (bodies : Int32) (ran : Int32) (ownKind : Int32) (ownNumber : Int32) (trace : Nat → Int32) (x1 : Int32) (x2 : Int32) (r_ : Int32) (o_ran : Int32) (o_trace : Nat → Int32), rec ran ownKind ownNumber trace x1 x2 = some (r_, o_ran, o_trace) → zM l yX12_movesAs cX12_movesAs 4 (some .int) fr1 lo1 G [.ref a_this, .int x1, .int x2] (w_M_movesAs G a_this a_height a_changeAt a_changeWas a_changeIs a_tape a_text a_names a_line a_row a_pastMany a_past a_changed a_greatest a_numbersWere a_told a_waysOf a_waysWere a_blocks a_ordersOf a_imageLine a_bodyKind a_trace a_shelf a_many a_items a_carried people keptMany done tapeMany textMany base at_ ends fault opened lineMany rowMany taller tallerBy pasts isKept imageMany bodies ran ownKind ownNumber trace) (some (.int r_)) (w_M_movesAs G a_this a_height a_changeAt a_changeWas a_changeIs a_tape a_text a_names a_line a_row a_pastMany a_past a_changed a_greatest a_numbersWere a_told a_waysOf a_waysWere a_blocks a_ordersOf a_imageLine a_bodyKind a_trace a_shelf a_many a_items a_carried people keptMany done tapeMany textMany base at_ ends fault opened lineMany rowMany taller tallerBy pasts isKept imageMany bodies o_ran ownKind ownNumber o_trace)
def f_M_movesAs : Nat → Int32 → Int32 → Int32 → (Nat → Int32) → Int32 → Int32 → Option (Int32 × Int32 × (Nat → Int32))
  | 0, _, _, _, _, _, _ => none
  | fuel + 1, ran, ownKind, ownNumber, trace, x1, x2 => (if x1 = 3 then (zb2 (f_M_begins ran trace 40) fun ran_1 trace_2 => (zb3 ((f_M_movesAs fuel) ran_1 ownKind ownNumber trace_2 2 x2) fun r_4 ran_5 trace_6 => (some ((r_4 * (3 : Int32)), ran_5, trace_6)))) else (if x1 = 5 then (zb2 (f_M_begins ran trace 40) fun ran_33 trace_34 => (zb3 ((f_M_movesAs fuel) ran_33 ownKind ownNumber trace_34 2 x2) fun r_36 ran_37 trace_38 => (some ((r_36 * (3 : Int32)), ran_37, trace_38)))) else (if x1 = 4 then (zb2 (f_M_begins ran trace 50) fun ran_8 trace_9 => (zb3 ((f_M_movesAs fuel) ran_8 ownKind ownNumber trace_9 1 x2) fun r_11 ran_12 trace_13 => (zb3 ((f_M_saysAs 5) ran_12 ownNumber trace_13 ownKind 2) fun r_15 ran_16 trace_17 => (some ((r_11 - r_15), ran_16, trace_17))))) else (if x1 = 7 then (zb2 (f_M_begins ran trace 50) fun ran_22 trace_23 => (zb3 ((f_M_movesAs fuel) ran_22 ownKind ownNumber trace_23 1 x2) fun r_25 ran_26 trace_27 => (zb3 ((f_M_saysAs 5) ran_26 ownNumber trace_27 ownKind 2) fun r_29 ran_30 trace_31 => (some ((r_25 - r_29), ran_30, trace_31))))) else (zb2 (f_M_begins ran trace 11) fun ran_19 trace_20 => (some ((x2 ^^^ ownNumber), ran_19, trace_20)))))))
set_option maxRecDepth 100000 in
set_option maxHeartbeats 4000000 in
theorem kn_M_movesAs (l : Launch) (G : zG) (a_this : Nat) (a_height : Nat) (a_changeAt : Nat) (a_changeWas : Nat) (a_changeIs : Nat) (a_tape : Nat) (a_text : Nat) (a_names : Nat) (a_line : Nat) (a_row : Nat) (a_pastMany : Nat) (a_past : Nat) (a_changed : Nat) (a_greatest : Nat) (a_numbersWere : Nat) (a_told : Nat) (a_waysOf : Nat) (a_waysWere : Nat) (a_blocks : Nat) (a_ordersOf : Nat) (a_imageLine : Nat) (a_bodyKind : Nat) (a_trace : Nat) (a_shelf : Nat) (a_many : Nat) (a_items : Nat) (a_carried : Nat) : ∀ fuel : Nat, K_M_movesAs l G a_this a_height a_changeAt a_changeWas a_changeIs a_tape a_text a_names a_line a_row a_pastMany a_past a_changed a_greatest a_numbersWere a_told a_waysOf a_waysWere a_blocks a_ordersOf a_imageLine a_bodyKind a_trace a_shelf a_many a_items a_carried (fuel * 2 + 14) (fuel * 46 + 383) (f_M_movesAs fuel) := by
  intro fuel
  induction fuel with
  | zero => intro people keptMany done tapeMany textMany base at_ ends fault opened lineMany rowMany taller tallerBy pasts isKept imageMany bodies ran ownKind ownNumber trace x1 x2 r_ o_ran o_trace hf; exact absurd ((f_M_movesAs.eq_1 ..).symm.trans hf) (fun h => by cases h)
  | succ fuel ih =>
    intro people keptMany done tapeMany textMany base at_ ends fault opened lineMany rowMany taller tallerBy pasts isKept imageMany bodies ran ownKind ownNumber trace x1 x2 r_ o_ran o_trace hf
    refine zM.of [(0, .ref a_this), (1, .int x1), (2, .int x2)] (own := RX12) rfl (by decide +kernel) (Nat.le_of_ble_eq_true rfl) rfl rfl fun X hX F => ?_
    subst hX
    have hrec := ih
    replace hf := (f_M_movesAs.eq_2 ..).symm.trans hf
    refine z_iload_n F 1 dX12_movesAs_0 rfl rfl ?_
    refine z_iconst F (3) dX12_movesAs_1 rfl ?_
    refine z_icmp_eq F 10 dX12_movesAs_2 (by decide) hf (fun hf _ => ?_) (fun hf _ => ?_)
    · refine z_aload_n F 0 dX12_movesAs_10 rfl rfl ?_
      refine z_bipush F (40) dX12_movesAs_11 rfl ?_
      obtain ⟨ran_1, trace_2, hg, hf⟩ := zb2_some hf
      refine z_callVm (rest := []) F 12 (c_M_begins (xL X) G a_this a_height a_changeAt a_changeWas a_changeIs a_tape a_text a_names a_line a_row a_pastMany a_past a_changed a_greatest a_numbersWere a_told a_waysOf a_waysWere a_blocks a_ordersOf a_imageLine a_bodyKind a_trace a_shelf a_many a_items a_carried people keptMany done tapeMany textMany base at_ ends fault opened lineMany rowMany taller tallerBy pasts isKept imageMany bodies ran ownKind ownNumber trace 40 ran_1 trace_2 hg) hy_X12_begins ml_X12_338 hd_X12_begins ⟨by omega, by omega⟩ rfl [0, 1] rfl rfl 0 rfl rfl (w_M_movesAs G a_this a_height a_changeAt a_changeWas a_changeIs a_tape a_text a_names a_line a_row a_pastMany a_past a_changed a_greatest a_numbersWere a_told a_waysOf a_waysWere a_blocks a_ordersOf a_imageLine a_bodyKind a_trace a_shelf a_many a_items a_carried people keptMany done tapeMany textMany base at_ ends fault opened lineMany rowMany taller tallerBy pasts isKept imageMany bodies ran_1 ownKind ownNumber trace_2) [some 0, some 1] rfl (by decide +kernel) rfl rfl (Nat.le_of_ble_eq_true rfl) dX12_movesAs_13 (fun hz_3 => ?_)
      refine z_aload_n F 0 dX12_movesAs_16 rfl rfl ?_
      refine z_iconst F (2) dX12_movesAs_17 rfl ?_
      refine z_iload_n F 2 dX12_movesAs_18 rfl rfl ?_
      obtain ⟨r_4, ran_5, trace_6, hg, hf⟩ := zb3_some hf
      refine z_callVm (rest := []) F 12 (hrec people keptMany done tapeMany textMany base at_ ends fault opened lineMany rowMany taller tallerBy pasts isKept imageMany bodies ran_1 ownKind ownNumber trace_2 2 x2 r_4 ran_5 trace_6 hg) hy_X12_movesAs ml_X12_353 hd_X12_movesAs ⟨by omega, by omega⟩ rfl [0, 1] rfl rfl 0 rfl rfl (w_M_movesAs G a_this a_height a_changeAt a_changeWas a_changeIs a_tape a_text a_names a_line a_row a_pastMany a_past a_changed a_greatest a_numbersWere a_told a_waysOf a_waysWere a_blocks a_ordersOf a_imageLine a_bodyKind a_trace a_shelf a_many a_items a_carried people keptMany done tapeMany textMany base at_ ends fault opened lineMany rowMany taller tallerBy pasts isKept imageMany bodies ran_5 ownKind ownNumber trace_6) [some 0, some 1] rfl (by decide +kernel) rfl rfl (Nat.le_of_ble_eq_true rfl) dX12_movesAs_19 (fun hz_7 => ?_)
      refine z_iconst F (3) dX12_movesAs_22 rfl ?_
      refine z_imul F dX12_movesAs_23 ?_
      have eq1 := Option.some.inj hf
      obtain ⟨ee1, eq2⟩ := Prod.mk.inj eq1
      obtain ⟨ee2, ee3⟩ := Prod.mk.inj eq2
      subst ee1
      subst ee2
      subst ee3
      exact z_iret F rfl rfl rfl rfl dX12_movesAs_24
    · refine z_iload_n F 1 dX12_movesAs_5 rfl rfl ?_
      refine z_iconst F (5) dX12_movesAs_6 rfl ?_
      refine z_icmp_ne F 25 dX12_movesAs_7 (by decide) hf (fun hf _ => ?_) (fun hf _ => ?_)
      · refine z_iload_n F 1 dX12_movesAs_25 rfl rfl ?_
        refine z_iconst F (4) dX12_movesAs_26 rfl ?_
        refine z_icmp_eq F 36 dX12_movesAs_27 (by decide) hf (fun hf _ => ?_) (fun hf _ => ?_)
        · refine z_aload_n F 0 dX12_movesAs_36 rfl rfl ?_
          refine z_bipush F (50) dX12_movesAs_37 rfl ?_
          obtain ⟨ran_8, trace_9, hg, hf⟩ := zb2_some hf
          refine z_callVm (rest := []) F 12 (c_M_begins (xL X) G a_this a_height a_changeAt a_changeWas a_changeIs a_tape a_text a_names a_line a_row a_pastMany a_past a_changed a_greatest a_numbersWere a_told a_waysOf a_waysWere a_blocks a_ordersOf a_imageLine a_bodyKind a_trace a_shelf a_many a_items a_carried people keptMany done tapeMany textMany base at_ ends fault opened lineMany rowMany taller tallerBy pasts isKept imageMany bodies ran ownKind ownNumber trace 50 ran_8 trace_9 hg) hy_X12_begins ml_X12_338 hd_X12_begins ⟨by omega, by omega⟩ rfl [0, 1] rfl rfl 0 rfl rfl (w_M_movesAs G a_this a_height a_changeAt a_changeWas a_changeIs a_tape a_text a_names a_line a_row a_pastMany a_past a_changed a_greatest a_numbersWere a_told a_waysOf a_waysWere a_blocks a_ordersOf a_imageLine a_bodyKind a_trace a_shelf a_many a_items a_carried people keptMany done tapeMany textMany base at_ ends fault opened lineMany rowMany taller tallerBy pasts isKept imageMany bodies ran_8 ownKind ownNumber trace_9) [some 0, some 1] rfl (by decide +kernel) rfl rfl (Nat.le_of_ble_eq_true rfl) dX12_movesAs_39 (fun hz_10 => ?_)
          refine z_aload_n F 0 dX12_movesAs_42 rfl rfl ?_
          refine z_iconst F (1) dX12_movesAs_43 rfl ?_
          refine z_iload_n F 2 dX12_movesAs_44 rfl rfl ?_
          obtain ⟨r_11, ran_12, trace_13, hg, hf⟩ := zb3_some hf
          refine z_callVm (rest := []) F 12 (hrec people keptMany done tapeMany textMany base at_ ends fault opened lineMany rowMany taller tallerBy pasts isKept imageMany bodies ran_8 ownKind ownNumber trace_9 1 x2 r_11 ran_12 trace_13 hg) hy_X12_movesAs ml_X12_353 hd_X12_movesAs ⟨by omega, by omega⟩ rfl [0, 1] rfl rfl 0 rfl rfl (w_M_movesAs G a_this a_height a_changeAt a_changeWas a_changeIs a_tape a_text a_names a_line a_row a_pastMany a_past a_changed a_greatest a_numbersWere a_told a_waysOf a_waysWere a_blocks a_ordersOf a_imageLine a_bodyKind a_trace a_shelf a_many a_items a_carried people keptMany done tapeMany textMany base at_ ends fault opened lineMany rowMany taller tallerBy pasts isKept imageMany bodies ran_12 ownKind ownNumber trace_13) [some 0, some 1] rfl (by decide +kernel) rfl rfl (Nat.le_of_ble_eq_true rfl) dX12_movesAs_45 (fun hz_14 => ?_)
          refine z_istore_n F [(3, .int r_11), (0, .ref a_this), (1, .int x1), (2, .int x2)] dX12_movesAs_48 rfl (by decide) rfl ?_
          refine z_iload_n F 0 dX12_movesAs_49 rfl rfl ?_
          refine z_aload_n F 1 dX12_movesAs_50 rfl rfl ?_
          refine z_aload_n F 1 dX12_movesAs_51 rfl rfl ?_
          refine z_get F 0 12 41 inlX12 rfl rfl (by decide) fl_X12_350 rfl dX12_movesAs_52 ?_
          refine z_iconst F (2) dX12_movesAs_55 rfl ?_
          obtain ⟨r_15, ran_16, trace_17, hg, hf⟩ := zb3_some hf
          refine z_callVm (rest := [.int r_11]) F 12 ((kn_M_saysAs (xL X) G a_this a_height a_changeAt a_changeWas a_changeIs a_tape a_text a_names a_line a_row a_pastMany a_past a_changed a_greatest a_numbersWere a_told a_waysOf a_waysWere a_blocks a_ordersOf a_imageLine a_bodyKind a_trace a_shelf a_many a_items a_carried 5) people keptMany done tapeMany textMany base at_ ends fault opened lineMany rowMany taller tallerBy pasts isKept imageMany bodies ran_12 ownKind ownNumber trace_13 ownKind 2 r_15 ran_16 trace_17 hg) hy_X12_saysAs ml_X12_341 hd_X12_saysAs ⟨by omega, by omega⟩ rfl [0, 1] rfl rfl 0 rfl rfl (w_M_movesAs G a_this a_height a_changeAt a_changeWas a_changeIs a_tape a_text a_names a_line a_row a_pastMany a_past a_changed a_greatest a_numbersWere a_told a_waysOf a_waysWere a_blocks a_ordersOf a_imageLine a_bodyKind a_trace a_shelf a_many a_items a_carried people keptMany done tapeMany textMany base at_ ends fault opened lineMany rowMany taller tallerBy pasts isKept imageMany bodies ran_16 ownKind ownNumber trace_17) [some 0, some 1] rfl (by decide +kernel) rfl rfl (Nat.le_of_ble_eq_true rfl) dX12_movesAs_56 (fun hz_18 => ?_)
          refine z_isub F dX12_movesAs_59 ?_
          have eq1 := Option.some.inj hf
          obtain ⟨ee1, eq2⟩ := Prod.mk.inj eq1
          obtain ⟨ee2, ee3⟩ := Prod.mk.inj eq2
          subst ee1
          subst ee2
          subst ee3
          exact z_iret F rfl rfl rfl rfl dX12_movesAs_60
        · refine z_iload_n F 1 dX12_movesAs_30 rfl rfl ?_
          refine z_bipush F (7) dX12_movesAs_31 rfl ?_
          refine z_icmp_ne F 61 dX12_movesAs_33 (by decide) hf (fun hf _ => ?_) (fun hf _ => ?_)
          · refine z_aload_n F 0 dX12_movesAs_61 rfl rfl ?_
            refine z_bipush F (11) dX12_movesAs_62 rfl ?_
            obtain ⟨ran_19, trace_20, hg, hf⟩ := zb2_some hf
            refine z_callVm (rest := []) F 12 (c_M_begins (xL X) G a_this a_height a_changeAt a_changeWas a_changeIs a_tape a_text a_names a_line a_row a_pastMany a_past a_changed a_greatest a_numbersWere a_told a_waysOf a_waysWere a_blocks a_ordersOf a_imageLine a_bodyKind a_trace a_shelf a_many a_items a_carried people keptMany done tapeMany textMany base at_ ends fault opened lineMany rowMany taller tallerBy pasts isKept imageMany bodies ran ownKind ownNumber trace 11 ran_19 trace_20 hg) hy_X12_begins ml_X12_338 hd_X12_begins ⟨by omega, by omega⟩ rfl [0, 1] rfl rfl 0 rfl rfl (w_M_movesAs G a_this a_height a_changeAt a_changeWas a_changeIs a_tape a_text a_names a_line a_row a_pastMany a_past a_changed a_greatest a_numbersWere a_told a_waysOf a_waysWere a_blocks a_ordersOf a_imageLine a_bodyKind a_trace a_shelf a_many a_items a_carried people keptMany done tapeMany textMany base at_ ends fault opened lineMany rowMany taller tallerBy pasts isKept imageMany bodies ran_19 ownKind ownNumber trace_20) [some 0, some 1] rfl (by decide +kernel) rfl rfl (Nat.le_of_ble_eq_true rfl) dX12_movesAs_64 (fun hz_21 => ?_)
            refine z_iload_n F 2 dX12_movesAs_67 rfl rfl ?_
            refine z_aload_n F 0 dX12_movesAs_68 rfl rfl ?_
            refine z_get F 0 12 42 inlX12 rfl rfl (by decide) fl_X12_344 rfl dX12_movesAs_69 ?_
            refine z_ixor F dX12_movesAs_72 ?_
            have eq1 := Option.some.inj hf
            obtain ⟨ee1, eq2⟩ := Prod.mk.inj eq1
            obtain ⟨ee2, ee3⟩ := Prod.mk.inj eq2
            subst ee1
            subst ee2
            subst ee3
            exact z_iret F rfl rfl rfl rfl dX12_movesAs_73
          · refine z_aload_n F 0 dX12_movesAs_36 rfl rfl ?_
            refine z_bipush F (50) dX12_movesAs_37 rfl ?_
            obtain ⟨ran_22, trace_23, hg, hf⟩ := zb2_some hf
            refine z_callVm (rest := []) F 12 (c_M_begins (xL X) G a_this a_height a_changeAt a_changeWas a_changeIs a_tape a_text a_names a_line a_row a_pastMany a_past a_changed a_greatest a_numbersWere a_told a_waysOf a_waysWere a_blocks a_ordersOf a_imageLine a_bodyKind a_trace a_shelf a_many a_items a_carried people keptMany done tapeMany textMany base at_ ends fault opened lineMany rowMany taller tallerBy pasts isKept imageMany bodies ran ownKind ownNumber trace 50 ran_22 trace_23 hg) hy_X12_begins ml_X12_338 hd_X12_begins ⟨by omega, by omega⟩ rfl [0, 1] rfl rfl 0 rfl rfl (w_M_movesAs G a_this a_height a_changeAt a_changeWas a_changeIs a_tape a_text a_names a_line a_row a_pastMany a_past a_changed a_greatest a_numbersWere a_told a_waysOf a_waysWere a_blocks a_ordersOf a_imageLine a_bodyKind a_trace a_shelf a_many a_items a_carried people keptMany done tapeMany textMany base at_ ends fault opened lineMany rowMany taller tallerBy pasts isKept imageMany bodies ran_22 ownKind ownNumber trace_23) [some 0, some 1] rfl (by decide +kernel) rfl rfl (Nat.le_of_ble_eq_true rfl) dX12_movesAs_39 (fun hz_24 => ?_)
            refine z_aload_n F 0 dX12_movesAs_42 rfl rfl ?_
            refine z_iconst F (1) dX12_movesAs_43 rfl ?_
            refine z_iload_n F 2 dX12_movesAs_44 rfl rfl ?_
            obtain ⟨r_25, ran_26, trace_27, hg, hf⟩ := zb3_some hf
            refine z_callVm (rest := []) F 12 (hrec people keptMany done tapeMany textMany base at_ ends fault opened lineMany rowMany taller tallerBy pasts isKept imageMany bodies ran_22 ownKind ownNumber trace_23 1 x2 r_25 ran_26 trace_27 hg) hy_X12_movesAs ml_X12_353 hd_X12_movesAs ⟨by omega, by omega⟩ rfl [0, 1] rfl rfl 0 rfl rfl (w_M_movesAs G a_this a_height a_changeAt a_changeWas a_changeIs a_tape a_text a_names a_line a_row a_pastMany a_past a_changed a_greatest a_numbersWere a_told a_waysOf a_waysWere a_blocks a_ordersOf a_imageLine a_bodyKind a_trace a_shelf a_many a_items a_carried people keptMany done tapeMany textMany base at_ ends fault opened lineMany rowMany taller tallerBy pasts isKept imageMany bodies ran_26 ownKind ownNumber trace_27) [some 0, some 1] rfl (by decide +kernel) rfl rfl (Nat.le_of_ble_eq_true rfl) dX12_movesAs_45 (fun hz_28 => ?_)
            refine z_istore_n F [(3, .int r_25), (0, .ref a_this), (1, .int x1), (2, .int x2)] dX12_movesAs_48 rfl (by decide) rfl ?_
            refine z_iload_n F 0 dX12_movesAs_49 rfl rfl ?_
            refine z_aload_n F 1 dX12_movesAs_50 rfl rfl ?_
            refine z_aload_n F 1 dX12_movesAs_51 rfl rfl ?_
            refine z_get F 0 12 41 inlX12 rfl rfl (by decide) fl_X12_350 rfl dX12_movesAs_52 ?_
            refine z_iconst F (2) dX12_movesAs_55 rfl ?_
            obtain ⟨r_29, ran_30, trace_31, hg, hf⟩ := zb3_some hf
            refine z_callVm (rest := [.int r_25]) F 12 ((kn_M_saysAs (xL X) G a_this a_height a_changeAt a_changeWas a_changeIs a_tape a_text a_names a_line a_row a_pastMany a_past a_changed a_greatest a_numbersWere a_told a_waysOf a_waysWere a_blocks a_ordersOf a_imageLine a_bodyKind a_trace a_shelf a_many a_items a_carried 5) people keptMany done tapeMany textMany base at_ ends fault opened lineMany rowMany taller tallerBy pasts isKept imageMany bodies ran_26 ownKind ownNumber trace_27 ownKind 2 r_29 ran_30 trace_31 hg) hy_X12_saysAs ml_X12_341 hd_X12_saysAs ⟨by omega, by omega⟩ rfl [0, 1] rfl rfl 0 rfl rfl (w_M_movesAs G a_this a_height a_changeAt a_changeWas a_changeIs a_tape a_text a_names a_line a_row a_pastMany a_past a_changed a_greatest a_numbersWere a_told a_waysOf a_waysWere a_blocks a_ordersOf a_imageLine a_bodyKind a_trace a_shelf a_many a_items a_carried people keptMany done tapeMany textMany base at_ ends fault opened lineMany rowMany taller tallerBy pasts isKept imageMany bodies ran_30 ownKind ownNumber trace_31) [some 0, some 1] rfl (by decide +kernel) rfl rfl (Nat.le_of_ble_eq_true rfl) dX12_movesAs_56 (fun hz_32 => ?_)
            refine z_isub F dX12_movesAs_59 ?_
            have eq1 := Option.some.inj hf
            obtain ⟨ee1, eq2⟩ := Prod.mk.inj eq1
            obtain ⟨ee2, ee3⟩ := Prod.mk.inj eq2
            subst ee1
            subst ee2
            subst ee3
            exact z_iret F rfl rfl rfl rfl dX12_movesAs_60
      · refine z_aload_n F 0 dX12_movesAs_10 rfl rfl ?_
        refine z_bipush F (40) dX12_movesAs_11 rfl ?_
        obtain ⟨ran_33, trace_34, hg, hf⟩ := zb2_some hf
        refine z_callVm (rest := []) F 12 (c_M_begins (xL X) G a_this a_height a_changeAt a_changeWas a_changeIs a_tape a_text a_names a_line a_row a_pastMany a_past a_changed a_greatest a_numbersWere a_told a_waysOf a_waysWere a_blocks a_ordersOf a_imageLine a_bodyKind a_trace a_shelf a_many a_items a_carried people keptMany done tapeMany textMany base at_ ends fault opened lineMany rowMany taller tallerBy pasts isKept imageMany bodies ran ownKind ownNumber trace 40 ran_33 trace_34 hg) hy_X12_begins ml_X12_338 hd_X12_begins ⟨by omega, by omega⟩ rfl [0, 1] rfl rfl 0 rfl rfl (w_M_movesAs G a_this a_height a_changeAt a_changeWas a_changeIs a_tape a_text a_names a_line a_row a_pastMany a_past a_changed a_greatest a_numbersWere a_told a_waysOf a_waysWere a_blocks a_ordersOf a_imageLine a_bodyKind a_trace a_shelf a_many a_items a_carried people keptMany done tapeMany textMany base at_ ends fault opened lineMany rowMany taller tallerBy pasts isKept imageMany bodies ran_33 ownKind ownNumber trace_34) [some 0, some 1] rfl (by decide +kernel) rfl rfl (Nat.le_of_ble_eq_true rfl) dX12_movesAs_13 (fun hz_35 => ?_)
        refine z_aload_n F 0 dX12_movesAs_16 rfl rfl ?_
        refine z_iconst F (2) dX12_movesAs_17 rfl ?_
        refine z_iload_n F 2 dX12_movesAs_18 rfl rfl ?_
        obtain ⟨r_36, ran_37, trace_38, hg, hf⟩ := zb3_some hf
        refine z_callVm (rest := []) F 12 (hrec people keptMany done tapeMany textMany base at_ ends fault opened lineMany rowMany taller tallerBy pasts isKept imageMany bodies ran_33 ownKind ownNumber trace_34 2 x2 r_36 ran_37 trace_38 hg) hy_X12_movesAs ml_X12_353 hd_X12_movesAs ⟨by omega, by omega⟩ rfl [0, 1] rfl rfl 0 rfl rfl (w_M_movesAs G a_this a_height a_changeAt a_changeWas a_changeIs a_tape a_text a_names a_line a_row a_pastMany a_past a_changed a_greatest a_numbersWere a_told a_waysOf a_waysWere a_blocks a_ordersOf a_imageLine a_bodyKind a_trace a_shelf a_many a_items a_carried people keptMany done tapeMany textMany base at_ ends fault opened lineMany rowMany taller tallerBy pasts isKept imageMany bodies ran_37 ownKind ownNumber trace_38) [some 0, some 1] rfl (by decide +kernel) rfl rfl (Nat.le_of_ble_eq_true rfl) dX12_movesAs_19 (fun hz_39 => ?_)
        refine z_iconst F (3) dX12_movesAs_22 rfl ?_
        refine z_imul F dX12_movesAs_23 ?_
        have eq1 := Option.some.inj hf
        obtain ⟨ee1, eq2⟩ := Prod.mk.inj eq1
        obtain ⟨ee2, ee3⟩ := Prod.mk.inj eq2
        subst ee1
        subst ee2
        subst ee3
        exact z_iret F rfl rfl rfl rfl dX12_movesAs_24

abbrev w_M_standsAs (G : zG) (a_this : Nat) (a_height : Nat) (a_changeAt : Nat) (a_changeWas : Nat) (a_changeIs : Nat) (a_tape : Nat) (a_text : Nat) (a_names : Nat) (a_line : Nat) (a_row : Nat) (a_pastMany : Nat) (a_past : Nat) (a_changed : Nat) (a_greatest : Nat) (a_numbersWere : Nat) (a_told : Nat) (a_waysOf : Nat) (a_waysWere : Nat) (a_blocks : Nat) (a_ordersOf : Nat) (a_imageLine : Nat) (a_bodyKind : Nat) (a_trace : Nat) (a_shelf : Nat) (a_many : Nat) (a_items : Nat) (a_carried : Nat) (people : Int32) (keptMany : Int32) (done : Int32) (tapeMany : Int32) (textMany : Int32) (base : Int32) (at_ : Int32) (ends : Int32) (fault : Int32) (opened : Int32) (lineMany : Int32) (rowMany : Int32) (taller : Int32) (tallerBy : Int32) (pasts : Int32) (isKept : Int32) (imageMany : Int32) (bodies : Int32) (ran : Int32) (ownKind : Int32) (ownNumber : Int32) (trace : Nat → Int32) : va_W := [(a_this, cO 12 [.int people, .ref a_height, .ref a_changeAt, .ref a_changeWas, .ref a_changeIs, .int keptMany, .int done, .ref a_tape, .int tapeMany, .ref a_text, .int textMany, .int base, .int at_, .int ends, .int fault, .int opened, .ref a_names, .ref a_line, .int lineMany, .ref a_row, .int rowMany, .int taller, .int tallerBy, .ref a_pastMany, .ref a_past, .int pasts, .ref a_changed, .ref a_greatest, .ref a_numbersWere, .ref a_told, .ref a_waysOf, .ref a_waysWere, .ref a_blocks, .ref a_ordersOf, .int isKept, .int imageMany, .ref a_imageLine, .int bodies, .ref a_bodyKind, .ref a_trace, .int ran, .int ownKind, .int ownNumber, .ref a_shelf, .ref a_many, .ref a_items, .ref a_carried]), (a_trace, cI G 24 trace)]
def K_M_standsAs (l : Launch) (G : zG) (a_this : Nat) (a_height : Nat) (a_changeAt : Nat) (a_changeWas : Nat) (a_changeIs : Nat) (a_tape : Nat) (a_text : Nat) (a_names : Nat) (a_line : Nat) (a_row : Nat) (a_pastMany : Nat) (a_past : Nat) (a_changed : Nat) (a_greatest : Nat) (a_numbersWere : Nat) (a_told : Nat) (a_waysOf : Nat) (a_waysWere : Nat) (a_blocks : Nat) (a_ordersOf : Nat) (a_imageLine : Nat) (a_bodyKind : Nat) (a_trace : Nat) (a_shelf : Nat) (a_many : Nat) (a_items : Nat) (a_carried : Nat) (fr1 lo1 : Nat) (rec : Int32 → Int32 → Int32 → (Nat → Int32) → Int32 → Int32 → Option (Int32 × Int32 × (Nat → Int32))) : Prop := ∀ (people : Int32) (keptMany : Int32) (done : Int32) (tapeMany : Int32) (textMany : Int32) (base : Int32) (at_ : Int32) (ends : Int32) (fault : Int32) (opened : Int32) (lineMany : Int32) (rowMany : Int32) (taller : Int32) (tallerBy : Int32) (pasts : Int32) (isKept : Int32) (imageMany : Int32) (bodies : Int32) (ran : Int32) (ownKind : Int32) (ownNumber : Int32) (trace : Nat → Int32) (x1 : Int32) (x2 : Int32) (r_ : Int32) (o_ran : Int32) (o_trace : Nat → Int32), rec ran ownKind ownNumber trace x1 x2 = some (r_, o_ran, o_trace) → zM l yX12_standsAs cX12_standsAs 4 (some .int) fr1 lo1 G [.ref a_this, .int x1, .int x2] (w_M_standsAs G a_this a_height a_changeAt a_changeWas a_changeIs a_tape a_text a_names a_line a_row a_pastMany a_past a_changed a_greatest a_numbersWere a_told a_waysOf a_waysWere a_blocks a_ordersOf a_imageLine a_bodyKind a_trace a_shelf a_many a_items a_carried people keptMany done tapeMany textMany base at_ ends fault opened lineMany rowMany taller tallerBy pasts isKept imageMany bodies ran ownKind ownNumber trace) (some (.int r_)) (w_M_standsAs G a_this a_height a_changeAt a_changeWas a_changeIs a_tape a_text a_names a_line a_row a_pastMany a_past a_changed a_greatest a_numbersWere a_told a_waysOf a_waysWere a_blocks a_ordersOf a_imageLine a_bodyKind a_trace a_shelf a_many a_items a_carried people keptMany done tapeMany textMany base at_ ends fault opened lineMany rowMany taller tallerBy pasts isKept imageMany bodies o_ran ownKind ownNumber o_trace)
def f_M_standsAs : Nat → Int32 → Int32 → Int32 → (Nat → Int32) → Int32 → Int32 → Option (Int32 × Int32 × (Nat → Int32))
  | 0, _, _, _, _, _, _ => none
  | fuel + 1, ran, ownKind, ownNumber, trace, x1, x2 => (if x1 = 3 then (zb2 (f_M_begins ran trace 41) fun ran_1 trace_2 => (zb3 ((f_M_standsAs fuel) ran_1 ownKind ownNumber trace_2 2 (x2 + (1 : Int32))) fun r_4 ran_5 trace_6 => (some (r_4, ran_5, trace_6)))) else (if x1 = 5 then (zb2 (f_M_begins ran trace 41) fun ran_33 trace_34 => (zb3 ((f_M_standsAs fuel) ran_33 ownKind ownNumber trace_34 2 (x2 + (1 : Int32))) fun r_36 ran_37 trace_38 => (some (r_36, ran_37, trace_38)))) else (if x1 = 2 then (zb2 (f_M_begins ran trace 30) fun ran_26 trace_27 => (zb3 ((f_M_standsAs fuel) ran_26 ownKind ownNumber trace_27 0 x2) fun r_29 ran_30 trace_31 => (some ((-r_29), ran_30, trace_31)))) else (if x1 = 7 then (zb2 (f_M_begins ran trace 80) fun ran_15 trace_16 => (zb3 ((f_M_standsAs fuel) ran_15 ownKind ownNumber trace_16 4 x2) fun r_18 ran_19 trace_20 => (zb3 ((f_M_movesAs 5) ran_19 ownKind ownNumber trace_20 ownKind 2) fun r_22 ran_23 trace_24 => (some ((r_18 + r_22), ran_23, trace_24))))) else (zb2 (f_M_begins ran trace 10) fun ran_8 trace_9 => (zb3 ((f_M_saysAs 5) ran_8 ownNumber trace_9 ownKind x2) fun r_11 ran_12 trace_13 => (some ((r_11 * (2 : Int32)), ran_12, trace_13))))))))
set_option maxRecDepth 100000 in
set_option maxHeartbeats 4000000 in
theorem kn_M_standsAs (l : Launch) (G : zG) (a_this : Nat) (a_height : Nat) (a_changeAt : Nat) (a_changeWas : Nat) (a_changeIs : Nat) (a_tape : Nat) (a_text : Nat) (a_names : Nat) (a_line : Nat) (a_row : Nat) (a_pastMany : Nat) (a_past : Nat) (a_changed : Nat) (a_greatest : Nat) (a_numbersWere : Nat) (a_told : Nat) (a_waysOf : Nat) (a_waysWere : Nat) (a_blocks : Nat) (a_ordersOf : Nat) (a_imageLine : Nat) (a_bodyKind : Nat) (a_trace : Nat) (a_shelf : Nat) (a_many : Nat) (a_items : Nat) (a_carried : Nat) : ∀ fuel : Nat, K_M_standsAs l G a_this a_height a_changeAt a_changeWas a_changeIs a_tape a_text a_names a_line a_row a_pastMany a_past a_changed a_greatest a_numbersWere a_told a_waysOf a_waysWere a_blocks a_ordersOf a_imageLine a_bodyKind a_trace a_shelf a_many a_items a_carried (fuel * 2 + 26) (fuel * 46 + 696) (f_M_standsAs fuel) := by
  intro fuel
  induction fuel with
  | zero => intro people keptMany done tapeMany textMany base at_ ends fault opened lineMany rowMany taller tallerBy pasts isKept imageMany bodies ran ownKind ownNumber trace x1 x2 r_ o_ran o_trace hf; exact absurd ((f_M_standsAs.eq_1 ..).symm.trans hf) (fun h => by cases h)
  | succ fuel ih =>
    intro people keptMany done tapeMany textMany base at_ ends fault opened lineMany rowMany taller tallerBy pasts isKept imageMany bodies ran ownKind ownNumber trace x1 x2 r_ o_ran o_trace hf
    refine zM.of [(0, .ref a_this), (1, .int x1), (2, .int x2)] (own := RX12) rfl (by decide +kernel) (Nat.le_of_ble_eq_true rfl) rfl rfl fun X hX F => ?_
    subst hX
    have hrec := ih
    replace hf := (f_M_standsAs.eq_2 ..).symm.trans hf
    refine z_iload_n F 1 dX12_standsAs_0 rfl rfl ?_
    refine z_iconst F (3) dX12_standsAs_1 rfl ?_
    refine z_icmp_eq F 10 dX12_standsAs_2 (by decide) hf (fun hf _ => ?_) (fun hf _ => ?_)
    · refine z_aload_n F 0 dX12_standsAs_10 rfl rfl ?_
      refine z_bipush F (41) dX12_standsAs_11 rfl ?_
      obtain ⟨ran_1, trace_2, hg, hf⟩ := zb2_some hf
      refine z_callVm (rest := []) F 12 (c_M_begins (xL X) G a_this a_height a_changeAt a_changeWas a_changeIs a_tape a_text a_names a_line a_row a_pastMany a_past a_changed a_greatest a_numbersWere a_told a_waysOf a_waysWere a_blocks a_ordersOf a_imageLine a_bodyKind a_trace a_shelf a_many a_items a_carried people keptMany done tapeMany textMany base at_ ends fault opened lineMany rowMany taller tallerBy pasts isKept imageMany bodies ran ownKind ownNumber trace 41 ran_1 trace_2 hg) hy_X12_begins ml_X12_338 hd_X12_begins ⟨by omega, by omega⟩ rfl [0, 1] rfl rfl 0 rfl rfl (w_M_standsAs G a_this a_height a_changeAt a_changeWas a_changeIs a_tape a_text a_names a_line a_row a_pastMany a_past a_changed a_greatest a_numbersWere a_told a_waysOf a_waysWere a_blocks a_ordersOf a_imageLine a_bodyKind a_trace a_shelf a_many a_items a_carried people keptMany done tapeMany textMany base at_ ends fault opened lineMany rowMany taller tallerBy pasts isKept imageMany bodies ran_1 ownKind ownNumber trace_2) [some 0, some 1] rfl (by decide +kernel) rfl rfl (Nat.le_of_ble_eq_true rfl) dX12_standsAs_13 (fun hz_3 => ?_)
      refine z_aload_n F 0 dX12_standsAs_16 rfl rfl ?_
      refine z_iconst F (2) dX12_standsAs_17 rfl ?_
      refine z_iload_n F 2 dX12_standsAs_18 rfl rfl ?_
      refine z_iconst F (1) dX12_standsAs_19 rfl ?_
      refine z_iadd F dX12_standsAs_20 ?_
      obtain ⟨r_4, ran_5, trace_6, hg, hf⟩ := zb3_some hf
      refine z_callVm (rest := []) F 12 (hrec people keptMany done tapeMany textMany base at_ ends fault opened lineMany rowMany taller tallerBy pasts isKept imageMany bodies ran_1 ownKind ownNumber trace_2 2 (x2 + (1 : Int32)) r_4 ran_5 trace_6 hg) hy_X12_standsAs ml_X12_347 hd_X12_standsAs ⟨by omega, by omega⟩ rfl [0, 1] rfl rfl 0 rfl rfl (w_M_standsAs G a_this a_height a_changeAt a_changeWas a_changeIs a_tape a_text a_names a_line a_row a_pastMany a_past a_changed a_greatest a_numbersWere a_told a_waysOf a_waysWere a_blocks a_ordersOf a_imageLine a_bodyKind a_trace a_shelf a_many a_items a_carried people keptMany done tapeMany textMany base at_ ends fault opened lineMany rowMany taller tallerBy pasts isKept imageMany bodies ran_5 ownKind ownNumber trace_6) [some 0, some 1] rfl (by decide +kernel) rfl rfl (Nat.le_of_ble_eq_true rfl) dX12_standsAs_21 (fun hz_7 => ?_)
      have eq1 := Option.some.inj hf
      obtain ⟨ee1, eq2⟩ := Prod.mk.inj eq1
      obtain ⟨ee2, ee3⟩ := Prod.mk.inj eq2
      subst ee1
      subst ee2
      subst ee3
      exact z_iret F rfl rfl rfl rfl dX12_standsAs_24
    · refine z_iload_n F 1 dX12_standsAs_5 rfl rfl ?_
      refine z_iconst F (5) dX12_standsAs_6 rfl ?_
      refine z_icmp_ne F 25 dX12_standsAs_7 (by decide) hf (fun hf _ => ?_) (fun hf _ => ?_)
      · refine z_iload_n F 1 dX12_standsAs_25 rfl rfl ?_
        refine z_iconst F (2) dX12_standsAs_26 rfl ?_
        refine z_icmp_ne F 44 dX12_standsAs_27 (by decide) hf (fun hf _ => ?_) (fun hf _ => ?_)
        · refine z_iload_n F 1 dX12_standsAs_44 rfl rfl ?_
          refine z_bipush F (7) dX12_standsAs_45 rfl ?_
          refine z_icmp_ne F 75 dX12_standsAs_47 (by decide) hf (fun hf _ => ?_) (fun hf _ => ?_)
          · refine z_aload_n F 0 dX12_standsAs_75 rfl rfl ?_
            refine z_bipush F (10) dX12_standsAs_76 rfl ?_
            obtain ⟨ran_8, trace_9, hg, hf⟩ := zb2_some hf
            refine z_callVm (rest := []) F 12 (c_M_begins (xL X) G a_this a_height a_changeAt a_changeWas a_changeIs a_tape a_text a_names a_line a_row a_pastMany a_past a_changed a_greatest a_numbersWere a_told a_waysOf a_waysWere a_blocks a_ordersOf a_imageLine a_bodyKind a_trace a_shelf a_many a_items a_carried people keptMany done tapeMany textMany base at_ ends fault opened lineMany rowMany taller tallerBy pasts isKept imageMany bodies ran ownKind ownNumber trace 10 ran_8 trace_9 hg) hy_X12_begins ml_X12_338 hd_X12_begins ⟨by omega, by omega⟩ rfl [0, 1] rfl rfl 0 rfl rfl (w_M_standsAs G a_this a_height a_changeAt a_changeWas a_changeIs a_tape a_text a_names a_line a_row a_pastMany a_past a_changed a_greatest a_numbersWere a_told a_waysOf a_waysWere a_blocks a_ordersOf a_imageLine a_bodyKind a_trace a_shelf a_many a_items a_carried people keptMany done tapeMany textMany base at_ ends fault opened lineMany rowMany taller tallerBy pasts isKept imageMany bodies ran_8 ownKind ownNumber trace_9) [some 0, some 1] rfl (by decide +kernel) rfl rfl (Nat.le_of_ble_eq_true rfl) dX12_standsAs_78 (fun hz_10 => ?_)
            refine z_aload_n F 0 dX12_standsAs_81 rfl rfl ?_
            refine z_aload_n F 0 dX12_standsAs_82 rfl rfl ?_
            refine z_get F 0 12 41 inlX12 rfl rfl (by decide) fl_X12_350 rfl dX12_standsAs_83 ?_
            refine z_iload_n F 2 dX12_standsAs_86 rfl rfl ?_
            obtain ⟨r_11, ran_12, trace_13, hg, hf⟩ := zb3_some hf
            refine z_callVm (rest := []) F 12 ((kn_M_saysAs (xL X) G a_this a_height a_changeAt a_changeWas a_changeIs a_tape a_text a_names a_line a_row a_pastMany a_past a_changed a_greatest a_numbersWere a_told a_waysOf a_waysWere a_blocks a_ordersOf a_imageLine a_bodyKind a_trace a_shelf a_many a_items a_carried 5) people keptMany done tapeMany textMany base at_ ends fault opened lineMany rowMany taller tallerBy pasts isKept imageMany bodies ran_8 ownKind ownNumber trace_9 ownKind x2 r_11 ran_12 trace_13 hg) hy_X12_saysAs ml_X12_341 hd_X12_saysAs ⟨by omega, by omega⟩ rfl [0, 1] rfl rfl 0 rfl rfl (w_M_standsAs G a_this a_height a_changeAt a_changeWas a_changeIs a_tape a_text a_names a_line a_row a_pastMany a_past a_changed a_greatest a_numbersWere a_told a_waysOf a_waysWere a_blocks a_ordersOf a_imageLine a_bodyKind a_trace a_shelf a_many a_items a_carried people keptMany done tapeMany textMany base at_ ends fault opened lineMany rowMany taller tallerBy pasts isKept imageMany bodies ran_12 ownKind ownNumber trace_13) [some 0, some 1] rfl (by decide +kernel) rfl rfl (Nat.le_of_ble_eq_true rfl) dX12_standsAs_87 (fun hz_14 => ?_)
            refine z_iconst F (2) dX12_standsAs_90 rfl ?_
            refine z_imul F dX12_standsAs_91 ?_
            have eq1 := Option.some.inj hf
            obtain ⟨ee1, eq2⟩ := Prod.mk.inj eq1
            obtain ⟨ee2, ee3⟩ := Prod.mk.inj eq2
            subst ee1
            subst ee2
            subst ee3
            exact z_iret F rfl rfl rfl rfl dX12_standsAs_92
          · refine z_aload_n F 0 dX12_standsAs_50 rfl rfl ?_
            refine z_bipush F (80) dX12_standsAs_51 rfl ?_
            obtain ⟨ran_15, trace_16, hg, hf⟩ := zb2_some hf
            refine z_callVm (rest := []) F 12 (c_M_begins (xL X) G a_this a_height a_changeAt a_changeWas a_changeIs a_tape a_text a_names a_line a_row a_pastMany a_past a_changed a_greatest a_numbersWere a_told a_waysOf a_waysWere a_blocks a_ordersOf a_imageLine a_bodyKind a_trace a_shelf a_many a_items a_carried people keptMany done tapeMany textMany base at_ ends fault opened lineMany rowMany taller tallerBy pasts isKept imageMany bodies ran ownKind ownNumber trace 80 ran_15 trace_16 hg) hy_X12_begins ml_X12_338 hd_X12_begins ⟨by omega, by omega⟩ rfl [0, 1] rfl rfl 0 rfl rfl (w_M_standsAs G a_this a_height a_changeAt a_changeWas a_changeIs a_tape a_text a_names a_line a_row a_pastMany a_past a_changed a_greatest a_numbersWere a_told a_waysOf a_waysWere a_blocks a_ordersOf a_imageLine a_bodyKind a_trace a_shelf a_many a_items a_carried people keptMany done tapeMany textMany base at_ ends fault opened lineMany rowMany taller tallerBy pasts isKept imageMany bodies ran_15 ownKind ownNumber trace_16) [some 0, some 1] rfl (by decide +kernel) rfl rfl (Nat.le_of_ble_eq_true rfl) dX12_standsAs_53 (fun hz_17 => ?_)
            refine z_aload_n F 0 dX12_standsAs_56 rfl rfl ?_
            refine z_iconst F (4) dX12_standsAs_57 rfl ?_
            refine z_iload_n F 2 dX12_standsAs_58 rfl rfl ?_
            obtain ⟨r_18, ran_19, trace_20, hg, hf⟩ := zb3_some hf
            refine z_callVm (rest := []) F 12 (hrec people keptMany done tapeMany textMany base at_ ends fault opened lineMany rowMany taller tallerBy pasts isKept imageMany bodies ran_15 ownKind ownNumber trace_16 4 x2 r_18 ran_19 trace_20 hg) hy_X12_standsAs ml_X12_347 hd_X12_standsAs ⟨by omega, by omega⟩ rfl [0, 1] rfl rfl 0 rfl rfl (w_M_standsAs G a_this a_height a_changeAt a_changeWas a_changeIs a_tape a_text a_names a_line a_row a_pastMany a_past a_changed a_greatest a_numbersWere a_told a_waysOf a_waysWere a_blocks a_ordersOf a_imageLine a_bodyKind a_trace a_shelf a_many a_items a_carried people keptMany done tapeMany textMany base at_ ends fault opened lineMany rowMany taller tallerBy pasts isKept imageMany bodies ran_19 ownKind ownNumber trace_20) [some 0, some 1] rfl (by decide +kernel) rfl rfl (Nat.le_of_ble_eq_true rfl) dX12_standsAs_59 (fun hz_21 => ?_)
            refine z_istore_n F [(3, .int r_18), (0, .ref a_this), (1, .int x1), (2, .int x2)] dX12_standsAs_62 rfl (by decide) rfl ?_
            refine z_iload_n F 0 dX12_standsAs_63 rfl rfl ?_
            refine z_aload_n F 1 dX12_standsAs_64 rfl rfl ?_
            refine z_aload_n F 1 dX12_standsAs_65 rfl rfl ?_
            refine z_get F 0 12 41 inlX12 rfl rfl (by decide) fl_X12_350 rfl dX12_standsAs_66 ?_
            refine z_iconst F (2) dX12_standsAs_69 rfl ?_
            obtain ⟨r_22, ran_23, trace_24, hg, hf⟩ := zb3_some hf
            refine z_callVm (rest := [.int r_18]) F 12 ((kn_M_movesAs (xL X) G a_this a_height a_changeAt a_changeWas a_changeIs a_tape a_text a_names a_line a_row a_pastMany a_past a_changed a_greatest a_numbersWere a_told a_waysOf a_waysWere a_blocks a_ordersOf a_imageLine a_bodyKind a_trace a_shelf a_many a_items a_carried 5) people keptMany done tapeMany textMany base at_ ends fault opened lineMany rowMany taller tallerBy pasts isKept imageMany bodies ran_19 ownKind ownNumber trace_20 ownKind 2 r_22 ran_23 trace_24 hg) hy_X12_movesAs ml_X12_353 hd_X12_movesAs ⟨by omega, by omega⟩ rfl [0, 1] rfl rfl 0 rfl rfl (w_M_standsAs G a_this a_height a_changeAt a_changeWas a_changeIs a_tape a_text a_names a_line a_row a_pastMany a_past a_changed a_greatest a_numbersWere a_told a_waysOf a_waysWere a_blocks a_ordersOf a_imageLine a_bodyKind a_trace a_shelf a_many a_items a_carried people keptMany done tapeMany textMany base at_ ends fault opened lineMany rowMany taller tallerBy pasts isKept imageMany bodies ran_23 ownKind ownNumber trace_24) [some 0, some 1] rfl (by decide +kernel) rfl rfl (Nat.le_of_ble_eq_true rfl) dX12_standsAs_70 (fun hz_25 => ?_)
            refine z_iadd F dX12_standsAs_73 ?_
            have eq1 := Option.some.inj hf
            obtain ⟨ee1, eq2⟩ := Prod.mk.inj eq1
            obtain ⟨ee2, ee3⟩ := Prod.mk.inj eq2
            subst ee1
            subst ee2
            subst ee3
            exact z_iret F rfl rfl rfl rfl dX12_standsAs_74
        · refine z_aload_n F 0 dX12_standsAs_30 rfl rfl ?_
          refine z_bipush F (30) dX12_standsAs_31 rfl ?_
          obtain ⟨ran_26, trace_27, hg, hf⟩ := zb2_some hf
          refine z_callVm (rest := []) F 12 (c_M_begins (xL X) G a_this a_height a_changeAt a_changeWas a_changeIs a_tape a_text a_names a_line a_row a_pastMany a_past a_changed a_greatest a_numbersWere a_told a_waysOf a_waysWere a_blocks a_ordersOf a_imageLine a_bodyKind a_trace a_shelf a_many a_items a_carried people keptMany done tapeMany textMany base at_ ends fault opened lineMany rowMany taller tallerBy pasts isKept imageMany bodies ran ownKind ownNumber trace 30 ran_26 trace_27 hg) hy_X12_begins ml_X12_338 hd_X12_begins ⟨by omega, by omega⟩ rfl [0, 1] rfl rfl 0 rfl rfl (w_M_standsAs G a_this a_height a_changeAt a_changeWas a_changeIs a_tape a_text a_names a_line a_row a_pastMany a_past a_changed a_greatest a_numbersWere a_told a_waysOf a_waysWere a_blocks a_ordersOf a_imageLine a_bodyKind a_trace a_shelf a_many a_items a_carried people keptMany done tapeMany textMany base at_ ends fault opened lineMany rowMany taller tallerBy pasts isKept imageMany bodies ran_26 ownKind ownNumber trace_27) [some 0, some 1] rfl (by decide +kernel) rfl rfl (Nat.le_of_ble_eq_true rfl) dX12_standsAs_33 (fun hz_28 => ?_)
          refine z_aload_n F 0 dX12_standsAs_36 rfl rfl ?_
          refine z_iconst F (0) dX12_standsAs_37 rfl ?_
          refine z_iload_n F 2 dX12_standsAs_38 rfl rfl ?_
          obtain ⟨r_29, ran_30, trace_31, hg, hf⟩ := zb3_some hf
          refine z_callVm (rest := []) F 12 (hrec people keptMany done tapeMany textMany base at_ ends fault opened lineMany rowMany taller tallerBy pasts isKept imageMany bodies ran_26 ownKind ownNumber trace_27 0 x2 r_29 ran_30 trace_31 hg) hy_X12_standsAs ml_X12_347 hd_X12_standsAs ⟨by omega, by omega⟩ rfl [0, 1] rfl rfl 0 rfl rfl (w_M_standsAs G a_this a_height a_changeAt a_changeWas a_changeIs a_tape a_text a_names a_line a_row a_pastMany a_past a_changed a_greatest a_numbersWere a_told a_waysOf a_waysWere a_blocks a_ordersOf a_imageLine a_bodyKind a_trace a_shelf a_many a_items a_carried people keptMany done tapeMany textMany base at_ ends fault opened lineMany rowMany taller tallerBy pasts isKept imageMany bodies ran_30 ownKind ownNumber trace_31) [some 0, some 1] rfl (by decide +kernel) rfl rfl (Nat.le_of_ble_eq_true rfl) dX12_standsAs_39 (fun hz_32 => ?_)
          refine z_ineg F dX12_standsAs_42 ?_
          have eq1 := Option.some.inj hf
          obtain ⟨ee1, eq2⟩ := Prod.mk.inj eq1
          obtain ⟨ee2, ee3⟩ := Prod.mk.inj eq2
          subst ee1
          subst ee2
          subst ee3
          exact z_iret F rfl rfl rfl rfl dX12_standsAs_43
      · refine z_aload_n F 0 dX12_standsAs_10 rfl rfl ?_
        refine z_bipush F (41) dX12_standsAs_11 rfl ?_
        obtain ⟨ran_33, trace_34, hg, hf⟩ := zb2_some hf
        refine z_callVm (rest := []) F 12 (c_M_begins (xL X) G a_this a_height a_changeAt a_changeWas a_changeIs a_tape a_text a_names a_line a_row a_pastMany a_past a_changed a_greatest a_numbersWere a_told a_waysOf a_waysWere a_blocks a_ordersOf a_imageLine a_bodyKind a_trace a_shelf a_many a_items a_carried people keptMany done tapeMany textMany base at_ ends fault opened lineMany rowMany taller tallerBy pasts isKept imageMany bodies ran ownKind ownNumber trace 41 ran_33 trace_34 hg) hy_X12_begins ml_X12_338 hd_X12_begins ⟨by omega, by omega⟩ rfl [0, 1] rfl rfl 0 rfl rfl (w_M_standsAs G a_this a_height a_changeAt a_changeWas a_changeIs a_tape a_text a_names a_line a_row a_pastMany a_past a_changed a_greatest a_numbersWere a_told a_waysOf a_waysWere a_blocks a_ordersOf a_imageLine a_bodyKind a_trace a_shelf a_many a_items a_carried people keptMany done tapeMany textMany base at_ ends fault opened lineMany rowMany taller tallerBy pasts isKept imageMany bodies ran_33 ownKind ownNumber trace_34) [some 0, some 1] rfl (by decide +kernel) rfl rfl (Nat.le_of_ble_eq_true rfl) dX12_standsAs_13 (fun hz_35 => ?_)
        refine z_aload_n F 0 dX12_standsAs_16 rfl rfl ?_
        refine z_iconst F (2) dX12_standsAs_17 rfl ?_
        refine z_iload_n F 2 dX12_standsAs_18 rfl rfl ?_
        refine z_iconst F (1) dX12_standsAs_19 rfl ?_
        refine z_iadd F dX12_standsAs_20 ?_
        obtain ⟨r_36, ran_37, trace_38, hg, hf⟩ := zb3_some hf
        refine z_callVm (rest := []) F 12 (hrec people keptMany done tapeMany textMany base at_ ends fault opened lineMany rowMany taller tallerBy pasts isKept imageMany bodies ran_33 ownKind ownNumber trace_34 2 (x2 + (1 : Int32)) r_36 ran_37 trace_38 hg) hy_X12_standsAs ml_X12_347 hd_X12_standsAs ⟨by omega, by omega⟩ rfl [0, 1] rfl rfl 0 rfl rfl (w_M_standsAs G a_this a_height a_changeAt a_changeWas a_changeIs a_tape a_text a_names a_line a_row a_pastMany a_past a_changed a_greatest a_numbersWere a_told a_waysOf a_waysWere a_blocks a_ordersOf a_imageLine a_bodyKind a_trace a_shelf a_many a_items a_carried people keptMany done tapeMany textMany base at_ ends fault opened lineMany rowMany taller tallerBy pasts isKept imageMany bodies ran_37 ownKind ownNumber trace_38) [some 0, some 1] rfl (by decide +kernel) rfl rfl (Nat.le_of_ble_eq_true rfl) dX12_standsAs_21 (fun hz_39 => ?_)
        have eq1 := Option.some.inj hf
        obtain ⟨ee1, eq2⟩ := Prod.mk.inj eq1
        obtain ⟨ee2, ee3⟩ := Prod.mk.inj eq2
        subst ee1
        subst ee2
        subst ee3
        exact z_iret F rfl rfl rfl rfl dX12_standsAs_24

abbrev w_M_tellsAs (G : zG) (a_this : Nat) (a_height : Nat) (a_changeAt : Nat) (a_changeWas : Nat) (a_changeIs : Nat) (a_tape : Nat) (a_text : Nat) (a_names : Nat) (a_line : Nat) (a_row : Nat) (a_pastMany : Nat) (a_past : Nat) (a_changed : Nat) (a_greatest : Nat) (a_numbersWere : Nat) (a_told : Nat) (a_waysOf : Nat) (a_waysWere : Nat) (a_blocks : Nat) (a_ordersOf : Nat) (a_imageLine : Nat) (a_bodyKind : Nat) (a_trace : Nat) (a_shelf : Nat) (a_many : Nat) (a_items : Nat) (a_carried : Nat) (people : Int32) (keptMany : Int32) (done : Int32) (tapeMany : Int32) (textMany : Int32) (base : Int32) (at_ : Int32) (ends : Int32) (fault : Int32) (opened : Int32) (lineMany : Int32) (rowMany : Int32) (taller : Int32) (tallerBy : Int32) (pasts : Int32) (isKept : Int32) (imageMany : Int32) (bodies : Int32) (ran : Int32) (ownKind : Int32) (ownNumber : Int32) (trace : Nat → Int32) : va_W := [(a_this, cO 12 [.int people, .ref a_height, .ref a_changeAt, .ref a_changeWas, .ref a_changeIs, .int keptMany, .int done, .ref a_tape, .int tapeMany, .ref a_text, .int textMany, .int base, .int at_, .int ends, .int fault, .int opened, .ref a_names, .ref a_line, .int lineMany, .ref a_row, .int rowMany, .int taller, .int tallerBy, .ref a_pastMany, .ref a_past, .int pasts, .ref a_changed, .ref a_greatest, .ref a_numbersWere, .ref a_told, .ref a_waysOf, .ref a_waysWere, .ref a_blocks, .ref a_ordersOf, .int isKept, .int imageMany, .ref a_imageLine, .int bodies, .ref a_bodyKind, .ref a_trace, .int ran, .int ownKind, .int ownNumber, .ref a_shelf, .ref a_many, .ref a_items, .ref a_carried]), (a_trace, cI G 24 trace)]
def K_M_tellsAs (l : Launch) (G : zG) (a_this : Nat) (a_height : Nat) (a_changeAt : Nat) (a_changeWas : Nat) (a_changeIs : Nat) (a_tape : Nat) (a_text : Nat) (a_names : Nat) (a_line : Nat) (a_row : Nat) (a_pastMany : Nat) (a_past : Nat) (a_changed : Nat) (a_greatest : Nat) (a_numbersWere : Nat) (a_told : Nat) (a_waysOf : Nat) (a_waysWere : Nat) (a_blocks : Nat) (a_ordersOf : Nat) (a_imageLine : Nat) (a_bodyKind : Nat) (a_trace : Nat) (a_shelf : Nat) (a_many : Nat) (a_items : Nat) (a_carried : Nat) (fr1 lo1 : Nat) (rec : Int32 → Int32 → Int32 → (Nat → Int32) → Int32 → Int32 → Option (Int32 × Int32 × (Nat → Int32))) : Prop := ∀ (people : Int32) (keptMany : Int32) (done : Int32) (tapeMany : Int32) (textMany : Int32) (base : Int32) (at_ : Int32) (ends : Int32) (fault : Int32) (opened : Int32) (lineMany : Int32) (rowMany : Int32) (taller : Int32) (tallerBy : Int32) (pasts : Int32) (isKept : Int32) (imageMany : Int32) (bodies : Int32) (ran : Int32) (ownKind : Int32) (ownNumber : Int32) (trace : Nat → Int32) (x1 : Int32) (x2 : Int32) (r_ : Int32) (o_ran : Int32) (o_trace : Nat → Int32), rec ran ownKind ownNumber trace x1 x2 = some (r_, o_ran, o_trace) → zM l yX12_tellsAs cX12_tellsAs 4 (some .int) fr1 lo1 G [.ref a_this, .int x1, .int x2] (w_M_tellsAs G a_this a_height a_changeAt a_changeWas a_changeIs a_tape a_text a_names a_line a_row a_pastMany a_past a_changed a_greatest a_numbersWere a_told a_waysOf a_waysWere a_blocks a_ordersOf a_imageLine a_bodyKind a_trace a_shelf a_many a_items a_carried people keptMany done tapeMany textMany base at_ ends fault opened lineMany rowMany taller tallerBy pasts isKept imageMany bodies ran ownKind ownNumber trace) (some (.int r_)) (w_M_tellsAs G a_this a_height a_changeAt a_changeWas a_changeIs a_tape a_text a_names a_line a_row a_pastMany a_past a_changed a_greatest a_numbersWere a_told a_waysOf a_waysWere a_blocks a_ordersOf a_imageLine a_bodyKind a_trace a_shelf a_many a_items a_carried people keptMany done tapeMany textMany base at_ ends fault opened lineMany rowMany taller tallerBy pasts isKept imageMany bodies o_ran ownKind ownNumber o_trace)
def f_M_tellsAs : Nat → Int32 → Int32 → Int32 → (Nat → Int32) → Int32 → Int32 → Option (Int32 × Int32 × (Nat → Int32))
  | 0, _, _, _, _, _, _ => none
  | fuel + 1, ran, ownKind, ownNumber, trace, x1, x2 => (if x1 = 5 then (zb2 (f_M_begins ran trace 60) fun ran_19 trace_20 => (zb3 ((f_M_tellsAs fuel) ran_19 ownKind ownNumber trace_20 3 x2) fun r_22 ran_23 trace_24 => (some ((r_22 ^^^ (5 : Int32)), ran_23, trace_24)))) else (if x1 = 7 then (zb2 (f_M_begins ran trace 81) fun ran_12 trace_13 => (zb3 ((f_M_tellsAs fuel) ran_12 ownKind ownNumber trace_13 4 x2) fun r_15 ran_16 trace_17 => (some ((r_15 - (1 : Int32)), ran_16, trace_17)))) else (zb2 (f_M_begins ran trace 2) fun ran_1 trace_2 => (zb3 ((f_M_standsAs 5) ran_1 ownKind ownNumber trace_2 ownKind x2) fun r_4 ran_5 trace_6 => (zb3 ((f_M_movesAs 5) ran_5 ownKind ownNumber trace_6 ownKind 1) fun r_8 ran_9 trace_10 => (some ((r_4 - r_8), ran_9, trace_10)))))))
set_option maxRecDepth 100000 in
set_option maxHeartbeats 4000000 in
theorem kn_M_tellsAs (l : Launch) (G : zG) (a_this : Nat) (a_height : Nat) (a_changeAt : Nat) (a_changeWas : Nat) (a_changeIs : Nat) (a_tape : Nat) (a_text : Nat) (a_names : Nat) (a_line : Nat) (a_row : Nat) (a_pastMany : Nat) (a_past : Nat) (a_changed : Nat) (a_greatest : Nat) (a_numbersWere : Nat) (a_told : Nat) (a_waysOf : Nat) (a_waysWere : Nat) (a_blocks : Nat) (a_ordersOf : Nat) (a_imageLine : Nat) (a_bodyKind : Nat) (a_trace : Nat) (a_shelf : Nat) (a_many : Nat) (a_items : Nat) (a_carried : Nat) : ∀ fuel : Nat, K_M_tellsAs l G a_this a_height a_changeAt a_changeWas a_changeIs a_tape a_text a_names a_line a_row a_pastMany a_past a_changed a_greatest a_numbersWere a_told a_waysOf a_waysWere a_blocks a_ordersOf a_imageLine a_bodyKind a_trace a_shelf a_many a_items a_carried (fuel * 2 + 38) (fuel * 46 + 1009) (f_M_tellsAs fuel) := by
  intro fuel
  induction fuel with
  | zero => intro people keptMany done tapeMany textMany base at_ ends fault opened lineMany rowMany taller tallerBy pasts isKept imageMany bodies ran ownKind ownNumber trace x1 x2 r_ o_ran o_trace hf; exact absurd ((f_M_tellsAs.eq_1 ..).symm.trans hf) (fun h => by cases h)
  | succ fuel ih =>
    intro people keptMany done tapeMany textMany base at_ ends fault opened lineMany rowMany taller tallerBy pasts isKept imageMany bodies ran ownKind ownNumber trace x1 x2 r_ o_ran o_trace hf
    refine zM.of [(0, .ref a_this), (1, .int x1), (2, .int x2)] (own := RX12) rfl (by decide +kernel) (Nat.le_of_ble_eq_true rfl) rfl rfl fun X hX F => ?_
    subst hX
    have hrec := ih
    replace hf := (f_M_tellsAs.eq_2 ..).symm.trans hf
    refine z_iload_n F 1 dX12_tellsAs_0 rfl rfl ?_
    refine z_iconst F (5) dX12_tellsAs_1 rfl ?_
    refine z_icmp_ne F 20 dX12_tellsAs_2 (by decide) hf (fun hf _ => ?_) (fun hf _ => ?_)
    · refine z_iload_n F 1 dX12_tellsAs_20 rfl rfl ?_
      refine z_bipush F (7) dX12_tellsAs_21 rfl ?_
      refine z_icmp_ne F 41 dX12_tellsAs_23 (by decide) hf (fun hf _ => ?_) (fun hf _ => ?_)
      · refine z_aload_n F 0 dX12_tellsAs_41 rfl rfl ?_
        refine z_iconst F (2) dX12_tellsAs_42 rfl ?_
        obtain ⟨ran_1, trace_2, hg, hf⟩ := zb2_some hf
        refine z_callVm (rest := []) F 12 (c_M_begins (xL X) G a_this a_height a_changeAt a_changeWas a_changeIs a_tape a_text a_names a_line a_row a_pastMany a_past a_changed a_greatest a_numbersWere a_told a_waysOf a_waysWere a_blocks a_ordersOf a_imageLine a_bodyKind a_trace a_shelf a_many a_items a_carried people keptMany done tapeMany textMany base at_ ends fault opened lineMany rowMany taller tallerBy pasts isKept imageMany bodies ran ownKind ownNumber trace 2 ran_1 trace_2 hg) hy_X12_begins ml_X12_338 hd_X12_begins ⟨by omega, by omega⟩ rfl [0, 1] rfl rfl 0 rfl rfl (w_M_tellsAs G a_this a_height a_changeAt a_changeWas a_changeIs a_tape a_text a_names a_line a_row a_pastMany a_past a_changed a_greatest a_numbersWere a_told a_waysOf a_waysWere a_blocks a_ordersOf a_imageLine a_bodyKind a_trace a_shelf a_many a_items a_carried people keptMany done tapeMany textMany base at_ ends fault opened lineMany rowMany taller tallerBy pasts isKept imageMany bodies ran_1 ownKind ownNumber trace_2) [some 0, some 1] rfl (by decide +kernel) rfl rfl (Nat.le_of_ble_eq_true rfl) dX12_tellsAs_43 (fun hz_3 => ?_)
        refine z_aload_n F 0 dX12_tellsAs_46 rfl rfl ?_
        refine z_aload_n F 0 dX12_tellsAs_47 rfl rfl ?_
        refine z_get F 0 12 41 inlX12 rfl rfl (by decide) fl_X12_350 rfl dX12_tellsAs_48 ?_
        refine z_iload_n F 2 dX12_tellsAs_51 rfl rfl ?_
        obtain ⟨r_4, ran_5, trace_6, hg, hf⟩ := zb3_some hf
        refine z_callVm (rest := []) F 12 ((kn_M_standsAs (xL X) G a_this a_height a_changeAt a_changeWas a_changeIs a_tape a_text a_names a_line a_row a_pastMany a_past a_changed a_greatest a_numbersWere a_told a_waysOf a_waysWere a_blocks a_ordersOf a_imageLine a_bodyKind a_trace a_shelf a_many a_items a_carried 5) people keptMany done tapeMany textMany base at_ ends fault opened lineMany rowMany taller tallerBy pasts isKept imageMany bodies ran_1 ownKind ownNumber trace_2 ownKind x2 r_4 ran_5 trace_6 hg) hy_X12_standsAs ml_X12_347 hd_X12_standsAs ⟨by omega, by omega⟩ rfl [0, 1] rfl rfl 0 rfl rfl (w_M_tellsAs G a_this a_height a_changeAt a_changeWas a_changeIs a_tape a_text a_names a_line a_row a_pastMany a_past a_changed a_greatest a_numbersWere a_told a_waysOf a_waysWere a_blocks a_ordersOf a_imageLine a_bodyKind a_trace a_shelf a_many a_items a_carried people keptMany done tapeMany textMany base at_ ends fault opened lineMany rowMany taller tallerBy pasts isKept imageMany bodies ran_5 ownKind ownNumber trace_6) [some 0, some 1] rfl (by decide +kernel) rfl rfl (Nat.le_of_ble_eq_true rfl) dX12_tellsAs_52 (fun hz_7 => ?_)
        refine z_istore_n F [(3, .int r_4), (0, .ref a_this), (1, .int x1), (2, .int x2)] dX12_tellsAs_55 rfl (by decide) rfl ?_
        refine z_iload_n F 0 dX12_tellsAs_56 rfl rfl ?_
        refine z_aload_n F 1 dX12_tellsAs_57 rfl rfl ?_
        refine z_aload_n F 1 dX12_tellsAs_58 rfl rfl ?_
        refine z_get F 0 12 41 inlX12 rfl rfl (by decide) fl_X12_350 rfl dX12_tellsAs_59 ?_
        refine z_iconst F (1) dX12_tellsAs_62 rfl ?_
        obtain ⟨r_8, ran_9, trace_10, hg, hf⟩ := zb3_some hf
        refine z_callVm (rest := [.int r_4]) F 12 ((kn_M_movesAs (xL X) G a_this a_height a_changeAt a_changeWas a_changeIs a_tape a_text a_names a_line a_row a_pastMany a_past a_changed a_greatest a_numbersWere a_told a_waysOf a_waysWere a_blocks a_ordersOf a_imageLine a_bodyKind a_trace a_shelf a_many a_items a_carried 5) people keptMany done tapeMany textMany base at_ ends fault opened lineMany rowMany taller tallerBy pasts isKept imageMany bodies ran_5 ownKind ownNumber trace_6 ownKind 1 r_8 ran_9 trace_10 hg) hy_X12_movesAs ml_X12_353 hd_X12_movesAs ⟨by omega, by omega⟩ rfl [0, 1] rfl rfl 0 rfl rfl (w_M_tellsAs G a_this a_height a_changeAt a_changeWas a_changeIs a_tape a_text a_names a_line a_row a_pastMany a_past a_changed a_greatest a_numbersWere a_told a_waysOf a_waysWere a_blocks a_ordersOf a_imageLine a_bodyKind a_trace a_shelf a_many a_items a_carried people keptMany done tapeMany textMany base at_ ends fault opened lineMany rowMany taller tallerBy pasts isKept imageMany bodies ran_9 ownKind ownNumber trace_10) [some 0, some 1] rfl (by decide +kernel) rfl rfl (Nat.le_of_ble_eq_true rfl) dX12_tellsAs_63 (fun hz_11 => ?_)
        refine z_isub F dX12_tellsAs_66 ?_
        have eq1 := Option.some.inj hf
        obtain ⟨ee1, eq2⟩ := Prod.mk.inj eq1
        obtain ⟨ee2, ee3⟩ := Prod.mk.inj eq2
        subst ee1
        subst ee2
        subst ee3
        exact z_iret F rfl rfl rfl rfl dX12_tellsAs_67
      · refine z_aload_n F 0 dX12_tellsAs_26 rfl rfl ?_
        refine z_bipush F (81) dX12_tellsAs_27 rfl ?_
        obtain ⟨ran_12, trace_13, hg, hf⟩ := zb2_some hf
        refine z_callVm (rest := []) F 12 (c_M_begins (xL X) G a_this a_height a_changeAt a_changeWas a_changeIs a_tape a_text a_names a_line a_row a_pastMany a_past a_changed a_greatest a_numbersWere a_told a_waysOf a_waysWere a_blocks a_ordersOf a_imageLine a_bodyKind a_trace a_shelf a_many a_items a_carried people keptMany done tapeMany textMany base at_ ends fault opened lineMany rowMany taller tallerBy pasts isKept imageMany bodies ran ownKind ownNumber trace 81 ran_12 trace_13 hg) hy_X12_begins ml_X12_338 hd_X12_begins ⟨by omega, by omega⟩ rfl [0, 1] rfl rfl 0 rfl rfl (w_M_tellsAs G a_this a_height a_changeAt a_changeWas a_changeIs a_tape a_text a_names a_line a_row a_pastMany a_past a_changed a_greatest a_numbersWere a_told a_waysOf a_waysWere a_blocks a_ordersOf a_imageLine a_bodyKind a_trace a_shelf a_many a_items a_carried people keptMany done tapeMany textMany base at_ ends fault opened lineMany rowMany taller tallerBy pasts isKept imageMany bodies ran_12 ownKind ownNumber trace_13) [some 0, some 1] rfl (by decide +kernel) rfl rfl (Nat.le_of_ble_eq_true rfl) dX12_tellsAs_29 (fun hz_14 => ?_)
        refine z_aload_n F 0 dX12_tellsAs_32 rfl rfl ?_
        refine z_iconst F (4) dX12_tellsAs_33 rfl ?_
        refine z_iload_n F 2 dX12_tellsAs_34 rfl rfl ?_
        obtain ⟨r_15, ran_16, trace_17, hg, hf⟩ := zb3_some hf
        refine z_callVm (rest := []) F 12 (hrec people keptMany done tapeMany textMany base at_ ends fault opened lineMany rowMany taller tallerBy pasts isKept imageMany bodies ran_12 ownKind ownNumber trace_13 4 x2 r_15 ran_16 trace_17 hg) hy_X12_tellsAs ml_X12_356 hd_X12_tellsAs ⟨by omega, by omega⟩ rfl [0, 1] rfl rfl 0 rfl rfl (w_M_tellsAs G a_this a_height a_changeAt a_changeWas a_changeIs a_tape a_text a_names a_line a_row a_pastMany a_past a_changed a_greatest a_numbersWere a_told a_waysOf a_waysWere a_blocks a_ordersOf a_imageLine a_bodyKind a_trace a_shelf a_many a_items a_carried people keptMany done tapeMany textMany base at_ ends fault opened lineMany rowMany taller tallerBy pasts isKept imageMany bodies ran_16 ownKind ownNumber trace_17) [some 0, some 1] rfl (by decide +kernel) rfl rfl (Nat.le_of_ble_eq_true rfl) dX12_tellsAs_35 (fun hz_18 => ?_)
        refine z_iconst F (1) dX12_tellsAs_38 rfl ?_
        refine z_isub F dX12_tellsAs_39 ?_
        have eq1 := Option.some.inj hf
        obtain ⟨ee1, eq2⟩ := Prod.mk.inj eq1
        obtain ⟨ee2, ee3⟩ := Prod.mk.inj eq2
        subst ee1
        subst ee2
        subst ee3
        exact z_iret F rfl rfl rfl rfl dX12_tellsAs_40
    · refine z_aload_n F 0 dX12_tellsAs_5 rfl rfl ?_
      refine z_bipush F (60) dX12_tellsAs_6 rfl ?_
      obtain ⟨ran_19, trace_20, hg, hf⟩ := zb2_some hf
      refine z_callVm (rest := []) F 12 (c_M_begins (xL X) G a_this a_height a_changeAt a_changeWas a_changeIs a_tape a_text a_names a_line a_row a_pastMany a_past a_changed a_greatest a_numbersWere a_told a_waysOf a_waysWere a_blocks a_ordersOf a_imageLine a_bodyKind a_trace a_shelf a_many a_items a_carried people keptMany done tapeMany textMany base at_ ends fault opened lineMany rowMany taller tallerBy pasts isKept imageMany bodies ran ownKind ownNumber trace 60 ran_19 trace_20 hg) hy_X12_begins ml_X12_338 hd_X12_begins ⟨by omega, by omega⟩ rfl [0, 1] rfl rfl 0 rfl rfl (w_M_tellsAs G a_this a_height a_changeAt a_changeWas a_changeIs a_tape a_text a_names a_line a_row a_pastMany a_past a_changed a_greatest a_numbersWere a_told a_waysOf a_waysWere a_blocks a_ordersOf a_imageLine a_bodyKind a_trace a_shelf a_many a_items a_carried people keptMany done tapeMany textMany base at_ ends fault opened lineMany rowMany taller tallerBy pasts isKept imageMany bodies ran_19 ownKind ownNumber trace_20) [some 0, some 1] rfl (by decide +kernel) rfl rfl (Nat.le_of_ble_eq_true rfl) dX12_tellsAs_8 (fun hz_21 => ?_)
      refine z_aload_n F 0 dX12_tellsAs_11 rfl rfl ?_
      refine z_iconst F (3) dX12_tellsAs_12 rfl ?_
      refine z_iload_n F 2 dX12_tellsAs_13 rfl rfl ?_
      obtain ⟨r_22, ran_23, trace_24, hg, hf⟩ := zb3_some hf
      refine z_callVm (rest := []) F 12 (hrec people keptMany done tapeMany textMany base at_ ends fault opened lineMany rowMany taller tallerBy pasts isKept imageMany bodies ran_19 ownKind ownNumber trace_20 3 x2 r_22 ran_23 trace_24 hg) hy_X12_tellsAs ml_X12_356 hd_X12_tellsAs ⟨by omega, by omega⟩ rfl [0, 1] rfl rfl 0 rfl rfl (w_M_tellsAs G a_this a_height a_changeAt a_changeWas a_changeIs a_tape a_text a_names a_line a_row a_pastMany a_past a_changed a_greatest a_numbersWere a_told a_waysOf a_waysWere a_blocks a_ordersOf a_imageLine a_bodyKind a_trace a_shelf a_many a_items a_carried people keptMany done tapeMany textMany base at_ ends fault opened lineMany rowMany taller tallerBy pasts isKept imageMany bodies ran_23 ownKind ownNumber trace_24) [some 0, some 1] rfl (by decide +kernel) rfl rfl (Nat.le_of_ble_eq_true rfl) dX12_tellsAs_14 (fun hz_25 => ?_)
      refine z_iconst F (5) dX12_tellsAs_17 rfl ?_
      refine z_ixor F dX12_tellsAs_18 ?_
      have eq1 := Option.some.inj hf
      obtain ⟨ee1, eq2⟩ := Prod.mk.inj eq1
      obtain ⟨ee2, ee3⟩ := Prod.mk.inj eq2
      subst ee1
      subst ee2
      subst ee3
      exact z_iret F rfl rfl rfl rfl dX12_tellsAs_19

abbrev w_M_act (G : zG) (a_this : Nat) (a_height : Nat) (a_changeAt : Nat) (a_changeWas : Nat) (a_changeIs : Nat) (a_tape : Nat) (a_text : Nat) (a_names : Nat) (a_line : Nat) (a_row : Nat) (a_pastMany : Nat) (a_past : Nat) (a_changed : Nat) (a_greatest : Nat) (a_numbersWere : Nat) (a_told : Nat) (a_waysOf : Nat) (a_waysWere : Nat) (a_blocks : Nat) (a_ordersOf : Nat) (a_imageLine : Nat) (a_bodyKind : Nat) (a_trace : Nat) (a_shelf : Nat) (a_many : Nat) (a_items : Nat) (a_carried : Nat) (people : Int32) (keptMany : Int32) (done : Int32) (tapeMany : Int32) (textMany : Int32) (base : Int32) (at_ : Int32) (ends : Int32) (fault : Int32) (opened : Int32) (lineMany : Int32) (rowMany : Int32) (taller : Int32) (tallerBy : Int32) (pasts : Int32) (isKept : Int32) (imageMany : Int32) (bodies : Int32) (ran : Int32) (ownKind : Int32) (ownNumber : Int32) (bodyKind : Nat → Int32) (trace : Nat → Int32) : va_W := [(a_this, cO 12 [.int people, .ref a_height, .ref a_changeAt, .ref a_changeWas, .ref a_changeIs, .int keptMany, .int done, .ref a_tape, .int tapeMany, .ref a_text, .int textMany, .int base, .int at_, .int ends, .int fault, .int opened, .ref a_names, .ref a_line, .int lineMany, .ref a_row, .int rowMany, .int taller, .int tallerBy, .ref a_pastMany, .ref a_past, .int pasts, .ref a_changed, .ref a_greatest, .ref a_numbersWere, .ref a_told, .ref a_waysOf, .ref a_waysWere, .ref a_blocks, .ref a_ordersOf, .int isKept, .int imageMany, .ref a_imageLine, .int bodies, .ref a_bodyKind, .ref a_trace, .int ran, .int ownKind, .int ownNumber, .ref a_shelf, .ref a_many, .ref a_items, .ref a_carried]), (a_bodyKind, cI G 50 bodyKind), (a_trace, cI G 24 trace)]
def f_M_act (bodies : Int32) (ran : Int32) (ownKind : Int32) (ownNumber : Int32) (bodyKind : Nat → Int32) (trace : Nat → Int32) (x1 : Int32) (x2 : Int32) (x3 : Int32) : Option (Int32 × Int32 × Int32 × Int32 × (Nat → Int32)) := (if (f_M_isBody bodies x1) = 0 then (some (0, 0, ownKind, ownNumber, trace)) else (zg bodyKind 50 x1 fun v_2 => (if x2 = 0 then (zb3 ((f_M_saysAs 5) 0 x1 trace v_2 x3) fun r_4 ran_5 trace_6 => (some (r_4, ran_5, v_2, x1, trace_6))) else (if x2 = 1 then (zb3 ((f_M_standsAs 5) 0 v_2 x1 trace v_2 x3) fun r_9 ran_10 trace_11 => (some (r_9, ran_10, v_2, x1, trace_11))) else (if x2 = 2 then (zb3 ((f_M_movesAs 5) 0 v_2 x1 trace v_2 x3) fun r_14 ran_15 trace_16 => (some (r_14, ran_15, v_2, x1, trace_16))) else (if x2 = 3 then (zb3 ((f_M_tellsAs 5) 0 v_2 x1 trace v_2 x3) fun r_19 ran_20 trace_21 => (some (r_19, ran_20, v_2, x1, trace_21))) else (some (0, 0, v_2, x1, trace))))))))
set_option maxRecDepth 100000 in
set_option maxHeartbeats 4000000 in
theorem c_M_act (l : Launch) (G : zG) (a_this : Nat) (a_height : Nat) (a_changeAt : Nat) (a_changeWas : Nat) (a_changeIs : Nat) (a_tape : Nat) (a_text : Nat) (a_names : Nat) (a_line : Nat) (a_row : Nat) (a_pastMany : Nat) (a_past : Nat) (a_changed : Nat) (a_greatest : Nat) (a_numbersWere : Nat) (a_told : Nat) (a_waysOf : Nat) (a_waysWere : Nat) (a_blocks : Nat) (a_ordersOf : Nat) (a_imageLine : Nat) (a_bodyKind : Nat) (a_trace : Nat) (a_shelf : Nat) (a_many : Nat) (a_items : Nat) (a_carried : Nat) (people : Int32) (keptMany : Int32) (done : Int32) (tapeMany : Int32) (textMany : Int32) (base : Int32) (at_ : Int32) (ends : Int32) (fault : Int32) (opened : Int32) (lineMany : Int32) (rowMany : Int32) (taller : Int32) (tallerBy : Int32) (pasts : Int32) (isKept : Int32) (imageMany : Int32) (bodies : Int32) (ran : Int32) (ownKind : Int32) (ownNumber : Int32) (bodyKind : Nat → Int32) (trace : Nat → Int32) (x1 : Int32) (x2 : Int32) (x3 : Int32) (r_ : Int32) (o_ran : Int32) (o_ownKind : Int32) (o_ownNumber : Int32) (o_trace : Nat → Int32) (hf : f_M_act bodies ran ownKind ownNumber bodyKind trace x1 x2 x3 = some (r_, o_ran, o_ownKind, o_ownNumber, o_trace)) : zM l yX12_act cX12_act 4 (some .int) 49 1262 G [.ref a_this, .int x1, .int x2, .int x3] (w_M_act G a_this a_height a_changeAt a_changeWas a_changeIs a_tape a_text a_names a_line a_row a_pastMany a_past a_changed a_greatest a_numbersWere a_told a_waysOf a_waysWere a_blocks a_ordersOf a_imageLine a_bodyKind a_trace a_shelf a_many a_items a_carried people keptMany done tapeMany textMany base at_ ends fault opened lineMany rowMany taller tallerBy pasts isKept imageMany bodies ran ownKind ownNumber bodyKind trace) (some (.int r_)) (w_M_act G a_this a_height a_changeAt a_changeWas a_changeIs a_tape a_text a_names a_line a_row a_pastMany a_past a_changed a_greatest a_numbersWere a_told a_waysOf a_waysWere a_blocks a_ordersOf a_imageLine a_bodyKind a_trace a_shelf a_many a_items a_carried people keptMany done tapeMany textMany base at_ ends fault opened lineMany rowMany taller tallerBy pasts isKept imageMany bodies o_ran o_ownKind o_ownNumber bodyKind o_trace) := by
  refine zM.of [(0, .ref a_this), (1, .int x1), (2, .int x2), (3, .int x3)] (own := RX12) rfl (by decide +kernel) (Nat.le_of_ble_eq_true rfl) rfl rfl fun X hX F => ?_
  subst hX
  replace hf := (f_M_act.eq_1 ..).symm.trans hf
  refine z_aload_n F 0 dX12_act_0 rfl rfl ?_
  refine z_iconst F (0) dX12_act_1 rfl ?_
  refine z_put F 0 12 40 (w_M_act G a_this a_height a_changeAt a_changeWas a_changeIs a_tape a_text a_names a_line a_row a_pastMany a_past a_changed a_greatest a_numbersWere a_told a_waysOf a_waysWere a_blocks a_ordersOf a_imageLine a_bodyKind a_trace a_shelf a_many a_items a_carried people keptMany done tapeMany textMany base at_ ends fault opened lineMany rowMany taller tallerBy pasts isKept imageMany bodies 0 ownKind ownNumber bodyKind trace) inlX12 tyX12 tyX12_ok nmX12 rfl rfl (by decide) fl_X12_335 rfl rfl rfl (Nat.le_of_ble_eq_true rfl) rfl dX12_act_2 ?_
  refine z_aload_n F 0 dX12_act_5 rfl rfl ?_
  refine z_iload_n F 1 dX12_act_6 rfl rfl ?_
  refine z_callVm (rest := []) F 12 (c_M_isBody (xL X) G a_this a_height a_changeAt a_changeWas a_changeIs a_tape a_text a_names a_line a_row a_pastMany a_past a_changed a_greatest a_numbersWere a_told a_waysOf a_waysWere a_blocks a_ordersOf a_imageLine a_bodyKind a_trace a_shelf a_many a_items a_carried people keptMany done tapeMany textMany base at_ ends fault opened lineMany rowMany taller tallerBy pasts isKept imageMany bodies 0 ownKind ownNumber x1 _ rfl) hy_X12_isBody ml_X12_359 hd_X12_isBody ⟨by omega, by omega⟩ rfl [0] rfl rfl 0 rfl rfl (w_M_act G a_this a_height a_changeAt a_changeWas a_changeIs a_tape a_text a_names a_line a_row a_pastMany a_past a_changed a_greatest a_numbersWere a_told a_waysOf a_waysWere a_blocks a_ordersOf a_imageLine a_bodyKind a_trace a_shelf a_many a_items a_carried people keptMany done tapeMany textMany base at_ ends fault opened lineMany rowMany taller tallerBy pasts isKept imageMany bodies 0 ownKind ownNumber bodyKind trace) [some 0, none, none] rfl (by decide +kernel) rfl rfl (Nat.le_of_ble_eq_true rfl) dX12_act_7 (fun hz_1 => ?_)
  refine z_if_ne F 15 dX12_act_10 (by decide) hf (fun hf _ => ?_) (fun hf _ => ?_)
  · refine z_aload_n F 0 dX12_act_15 rfl rfl ?_
    refine z_aload_n F 0 dX12_act_16 rfl rfl ?_
    refine z_get F 0 12 38 inlX12 rfl rfl (by decide) fl_X12_70 rfl dX12_act_17 ?_
    refine z_iload_n F 1 dX12_act_20 rfl rfl ?_
    refine z_iald F 1 rfl hf dX12_act_21 (fun v_2 hf => ?_)
    refine z_put F 0 12 41 (w_M_act G a_this a_height a_changeAt a_changeWas a_changeIs a_tape a_text a_names a_line a_row a_pastMany a_past a_changed a_greatest a_numbersWere a_told a_waysOf a_waysWere a_blocks a_ordersOf a_imageLine a_bodyKind a_trace a_shelf a_many a_items a_carried people keptMany done tapeMany textMany base at_ ends fault opened lineMany rowMany taller tallerBy pasts isKept imageMany bodies 0 v_2 ownNumber bodyKind trace) inlX12 tyX12 tyX12_ok nmX12 rfl rfl (by decide) fl_X12_350 rfl rfl rfl (Nat.le_of_ble_eq_true rfl) rfl dX12_act_22 ?_
    refine z_aload_n F 0 dX12_act_25 rfl rfl ?_
    refine z_iload_n F 1 dX12_act_26 rfl rfl ?_
    refine z_put F 0 12 42 (w_M_act G a_this a_height a_changeAt a_changeWas a_changeIs a_tape a_text a_names a_line a_row a_pastMany a_past a_changed a_greatest a_numbersWere a_told a_waysOf a_waysWere a_blocks a_ordersOf a_imageLine a_bodyKind a_trace a_shelf a_many a_items a_carried people keptMany done tapeMany textMany base at_ ends fault opened lineMany rowMany taller tallerBy pasts isKept imageMany bodies 0 v_2 x1 bodyKind trace) inlX12 tyX12 tyX12_ok nmX12 rfl rfl (by decide) fl_X12_344 rfl rfl rfl (Nat.le_of_ble_eq_true rfl) rfl dX12_act_27 ?_
    refine z_iload_n F 2 dX12_act_30 rfl rfl ?_
    by_cases hc_3 : x2 = 0
    · replace hf := zif_t hf hc_3
      refine z_tabIn (off := 29) F 60 dX12_act_31 (by rw [hc_3]; decide +kernel) (by rw [hc_3]; decide +kernel) (by rw [hc_3]; decide +kernel) (by decide) ?_
      refine z_aload_n F 0 dX12_act_60 rfl rfl ?_
      refine z_aload_n F 0 dX12_act_61 rfl rfl ?_
      refine z_get F 0 12 41 inlX12 rfl rfl (by decide) fl_X12_350 rfl dX12_act_62 ?_
      refine z_iload_n F 3 dX12_act_65 rfl rfl ?_
      obtain ⟨r_4, ran_5, trace_6, hg, hf⟩ := zb3_some hf
      refine z_callVm (rest := []) F 12 ((kn_M_saysAs (xL X) G a_this a_height a_changeAt a_changeWas a_changeIs a_tape a_text a_names a_line a_row a_pastMany a_past a_changed a_greatest a_numbersWere a_told a_waysOf a_waysWere a_blocks a_ordersOf a_imageLine a_bodyKind a_trace a_shelf a_many a_items a_carried 5) people keptMany done tapeMany textMany base at_ ends fault opened lineMany rowMany taller tallerBy pasts isKept imageMany bodies 0 v_2 x1 trace v_2 x3 r_4 ran_5 trace_6 hg) hy_X12_saysAs ml_X12_341 hd_X12_saysAs ⟨by omega, by omega⟩ rfl [0, 2] rfl rfl 0 rfl rfl (w_M_act G a_this a_height a_changeAt a_changeWas a_changeIs a_tape a_text a_names a_line a_row a_pastMany a_past a_changed a_greatest a_numbersWere a_told a_waysOf a_waysWere a_blocks a_ordersOf a_imageLine a_bodyKind a_trace a_shelf a_many a_items a_carried people keptMany done tapeMany textMany base at_ ends fault opened lineMany rowMany taller tallerBy pasts isKept imageMany bodies ran_5 v_2 x1 bodyKind trace_6) [some 0, none, some 1] rfl (by decide +kernel) rfl rfl (Nat.le_of_ble_eq_true rfl) dX12_act_66 (fun hz_7 => ?_)
      have eq1 := Option.some.inj hf
      obtain ⟨ee1, eq2⟩ := Prod.mk.inj eq1
      obtain ⟨ee2, eq3⟩ := Prod.mk.inj eq2
      obtain ⟨ee3, eq4⟩ := Prod.mk.inj eq3
      obtain ⟨ee4, ee5⟩ := Prod.mk.inj eq4
      subst ee1
      subst ee2
      subst ee3
      subst ee4
      subst ee5
      exact z_iret F rfl rfl rfl rfl dX12_act_69
    · replace hf := zif_f hf hc_3
      by_cases hc_8 : x2 = 1
      · replace hf := zif_t hf hc_8
        refine z_tabIn (off := 39) F 70 dX12_act_31 (by rw [hc_8]; decide +kernel) (by rw [hc_8]; decide +kernel) (by rw [hc_8]; decide +kernel) (by decide) ?_
        refine z_aload_n F 0 dX12_act_70 rfl rfl ?_
        refine z_aload_n F 0 dX12_act_71 rfl rfl ?_
        refine z_get F 0 12 41 inlX12 rfl rfl (by decide) fl_X12_350 rfl dX12_act_72 ?_
        refine z_iload_n F 3 dX12_act_75 rfl rfl ?_
        obtain ⟨r_9, ran_10, trace_11, hg, hf⟩ := zb3_some hf
        refine z_callVm (rest := []) F 12 ((kn_M_standsAs (xL X) G a_this a_height a_changeAt a_changeWas a_changeIs a_tape a_text a_names a_line a_row a_pastMany a_past a_changed a_greatest a_numbersWere a_told a_waysOf a_waysWere a_blocks a_ordersOf a_imageLine a_bodyKind a_trace a_shelf a_many a_items a_carried 5) people keptMany done tapeMany textMany base at_ ends fault opened lineMany rowMany taller tallerBy pasts isKept imageMany bodies 0 v_2 x1 trace v_2 x3 r_9 ran_10 trace_11 hg) hy_X12_standsAs ml_X12_347 hd_X12_standsAs ⟨by omega, by omega⟩ rfl [0, 2] rfl rfl 0 rfl rfl (w_M_act G a_this a_height a_changeAt a_changeWas a_changeIs a_tape a_text a_names a_line a_row a_pastMany a_past a_changed a_greatest a_numbersWere a_told a_waysOf a_waysWere a_blocks a_ordersOf a_imageLine a_bodyKind a_trace a_shelf a_many a_items a_carried people keptMany done tapeMany textMany base at_ ends fault opened lineMany rowMany taller tallerBy pasts isKept imageMany bodies ran_10 v_2 x1 bodyKind trace_11) [some 0, none, some 1] rfl (by decide +kernel) rfl rfl (Nat.le_of_ble_eq_true rfl) dX12_act_76 (fun hz_12 => ?_)
        have eq1 := Option.some.inj hf
        obtain ⟨ee1, eq2⟩ := Prod.mk.inj eq1
        obtain ⟨ee2, eq3⟩ := Prod.mk.inj eq2
        obtain ⟨ee3, eq4⟩ := Prod.mk.inj eq3
        obtain ⟨ee4, ee5⟩ := Prod.mk.inj eq4
        subst ee1
        subst ee2
        subst ee3
        subst ee4
        subst ee5
        exact z_iret F rfl rfl rfl rfl dX12_act_79
      · replace hf := zif_f hf hc_8
        by_cases hc_13 : x2 = 2
        · replace hf := zif_t hf hc_13
          refine z_tabIn (off := 49) F 80 dX12_act_31 (by rw [hc_13]; decide +kernel) (by rw [hc_13]; decide +kernel) (by rw [hc_13]; decide +kernel) (by decide) ?_
          refine z_aload_n F 0 dX12_act_80 rfl rfl ?_
          refine z_aload_n F 0 dX12_act_81 rfl rfl ?_
          refine z_get F 0 12 41 inlX12 rfl rfl (by decide) fl_X12_350 rfl dX12_act_82 ?_
          refine z_iload_n F 3 dX12_act_85 rfl rfl ?_
          obtain ⟨r_14, ran_15, trace_16, hg, hf⟩ := zb3_some hf
          refine z_callVm (rest := []) F 12 ((kn_M_movesAs (xL X) G a_this a_height a_changeAt a_changeWas a_changeIs a_tape a_text a_names a_line a_row a_pastMany a_past a_changed a_greatest a_numbersWere a_told a_waysOf a_waysWere a_blocks a_ordersOf a_imageLine a_bodyKind a_trace a_shelf a_many a_items a_carried 5) people keptMany done tapeMany textMany base at_ ends fault opened lineMany rowMany taller tallerBy pasts isKept imageMany bodies 0 v_2 x1 trace v_2 x3 r_14 ran_15 trace_16 hg) hy_X12_movesAs ml_X12_353 hd_X12_movesAs ⟨by omega, by omega⟩ rfl [0, 2] rfl rfl 0 rfl rfl (w_M_act G a_this a_height a_changeAt a_changeWas a_changeIs a_tape a_text a_names a_line a_row a_pastMany a_past a_changed a_greatest a_numbersWere a_told a_waysOf a_waysWere a_blocks a_ordersOf a_imageLine a_bodyKind a_trace a_shelf a_many a_items a_carried people keptMany done tapeMany textMany base at_ ends fault opened lineMany rowMany taller tallerBy pasts isKept imageMany bodies ran_15 v_2 x1 bodyKind trace_16) [some 0, none, some 1] rfl (by decide +kernel) rfl rfl (Nat.le_of_ble_eq_true rfl) dX12_act_86 (fun hz_17 => ?_)
          have eq1 := Option.some.inj hf
          obtain ⟨ee1, eq2⟩ := Prod.mk.inj eq1
          obtain ⟨ee2, eq3⟩ := Prod.mk.inj eq2
          obtain ⟨ee3, eq4⟩ := Prod.mk.inj eq3
          obtain ⟨ee4, ee5⟩ := Prod.mk.inj eq4
          subst ee1
          subst ee2
          subst ee3
          subst ee4
          subst ee5
          exact z_iret F rfl rfl rfl rfl dX12_act_89
        · replace hf := zif_f hf hc_13
          by_cases hc_18 : x2 = 3
          · replace hf := zif_t hf hc_18
            refine z_tabIn (off := 59) F 90 dX12_act_31 (by rw [hc_18]; decide +kernel) (by rw [hc_18]; decide +kernel) (by rw [hc_18]; decide +kernel) (by decide) ?_
            refine z_aload_n F 0 dX12_act_90 rfl rfl ?_
            refine z_aload_n F 0 dX12_act_91 rfl rfl ?_
            refine z_get F 0 12 41 inlX12 rfl rfl (by decide) fl_X12_350 rfl dX12_act_92 ?_
            refine z_iload_n F 3 dX12_act_95 rfl rfl ?_
            obtain ⟨r_19, ran_20, trace_21, hg, hf⟩ := zb3_some hf
            refine z_callVm (rest := []) F 12 ((kn_M_tellsAs (xL X) G a_this a_height a_changeAt a_changeWas a_changeIs a_tape a_text a_names a_line a_row a_pastMany a_past a_changed a_greatest a_numbersWere a_told a_waysOf a_waysWere a_blocks a_ordersOf a_imageLine a_bodyKind a_trace a_shelf a_many a_items a_carried 5) people keptMany done tapeMany textMany base at_ ends fault opened lineMany rowMany taller tallerBy pasts isKept imageMany bodies 0 v_2 x1 trace v_2 x3 r_19 ran_20 trace_21 hg) hy_X12_tellsAs ml_X12_356 hd_X12_tellsAs ⟨by omega, by omega⟩ rfl [0, 2] rfl rfl 0 rfl rfl (w_M_act G a_this a_height a_changeAt a_changeWas a_changeIs a_tape a_text a_names a_line a_row a_pastMany a_past a_changed a_greatest a_numbersWere a_told a_waysOf a_waysWere a_blocks a_ordersOf a_imageLine a_bodyKind a_trace a_shelf a_many a_items a_carried people keptMany done tapeMany textMany base at_ ends fault opened lineMany rowMany taller tallerBy pasts isKept imageMany bodies ran_20 v_2 x1 bodyKind trace_21) [some 0, none, some 1] rfl (by decide +kernel) rfl rfl (Nat.le_of_ble_eq_true rfl) dX12_act_96 (fun hz_22 => ?_)
            have eq1 := Option.some.inj hf
            obtain ⟨ee1, eq2⟩ := Prod.mk.inj eq1
            obtain ⟨ee2, eq3⟩ := Prod.mk.inj eq2
            obtain ⟨ee3, eq4⟩ := Prod.mk.inj eq3
            obtain ⟨ee4, ee5⟩ := Prod.mk.inj eq4
            subst ee1
            subst ee2
            subst ee3
            subst ee4
            subst ee5
            exact z_iret F rfl rfl rfl rfl dX12_act_99
          · replace hf := zif_f hf hc_18
            refine z_tabOut F 100 dX12_act_31 (by have := zne hc_3 (c := 0) (k := 0) rfl; have := zne hc_8 (c := 1) (k := 1) rfl; have := zne hc_13 (c := 2) (k := 2) rfl; have := zne hc_18 (c := 3) (k := 3) rfl; omega) (by decide) ?_
            refine z_iconst F (0) dX12_act_100 rfl ?_
            have eq1 := Option.some.inj hf
            obtain ⟨ee1, eq2⟩ := Prod.mk.inj eq1
            obtain ⟨ee2, eq3⟩ := Prod.mk.inj eq2
            obtain ⟨ee3, eq4⟩ := Prod.mk.inj eq3
            obtain ⟨ee4, ee5⟩ := Prod.mk.inj eq4
            subst ee1
            subst ee2
            subst ee3
            subst ee4
            subst ee5
            exact z_iret F rfl rfl rfl rfl dX12_act_101
  · refine z_iconst F (0) dX12_act_13 rfl ?_
    have eq1 := Option.some.inj hf
    obtain ⟨ee1, eq2⟩ := Prod.mk.inj eq1
    obtain ⟨ee2, eq3⟩ := Prod.mk.inj eq2
    obtain ⟨ee3, eq4⟩ := Prod.mk.inj eq3
    obtain ⟨ee4, ee5⟩ := Prod.mk.inj eq4
    subst ee1
    subst ee2
    subst ee3
    subst ee4
    subst ee5
    exact z_iret F rfl rfl rfl rfl dX12_act_14

abbrev w_M_trace (G : zG) (a_this : Nat) (a_height : Nat) (a_changeAt : Nat) (a_changeWas : Nat) (a_changeIs : Nat) (a_tape : Nat) (a_text : Nat) (a_names : Nat) (a_line : Nat) (a_row : Nat) (a_pastMany : Nat) (a_past : Nat) (a_changed : Nat) (a_greatest : Nat) (a_numbersWere : Nat) (a_told : Nat) (a_waysOf : Nat) (a_waysWere : Nat) (a_blocks : Nat) (a_ordersOf : Nat) (a_imageLine : Nat) (a_bodyKind : Nat) (a_trace : Nat) (a_shelf : Nat) (a_many : Nat) (a_items : Nat) (a_carried : Nat) (people : Int32) (keptMany : Int32) (done : Int32) (tapeMany : Int32) (textMany : Int32) (base : Int32) (at_ : Int32) (ends : Int32) (fault : Int32) (opened : Int32) (lineMany : Int32) (rowMany : Int32) (taller : Int32) (tallerBy : Int32) (pasts : Int32) (isKept : Int32) (imageMany : Int32) (bodies : Int32) (ran : Int32) (ownKind : Int32) (ownNumber : Int32) (trace : Nat → Int32) : va_W := [(a_this, cO 12 [.int people, .ref a_height, .ref a_changeAt, .ref a_changeWas, .ref a_changeIs, .int keptMany, .int done, .ref a_tape, .int tapeMany, .ref a_text, .int textMany, .int base, .int at_, .int ends, .int fault, .int opened, .ref a_names, .ref a_line, .int lineMany, .ref a_row, .int rowMany, .int taller, .int tallerBy, .ref a_pastMany, .ref a_past, .int pasts, .ref a_changed, .ref a_greatest, .ref a_numbersWere, .ref a_told, .ref a_waysOf, .ref a_waysWere, .ref a_blocks, .ref a_ordersOf, .int isKept, .int imageMany, .ref a_imageLine, .int bodies, .ref a_bodyKind, .ref a_trace, .int ran, .int ownKind, .int ownNumber, .ref a_shelf, .ref a_many, .ref a_items, .ref a_carried]), (a_trace, cI G 24 trace)]
def f_M_trace (ran : Int32) (trace : Nat → Int32) (x1 : Int32) : Option Int32 := (if x1 < 0 then (some (-1)) else (if ran ≤ x1 then (some (-1)) else (if (24 : Int32) ≤ x1 then (some (-1)) else (zg trace 24 x1 fun v_1 => (some v_1)))))
set_option maxRecDepth 100000 in
set_option maxHeartbeats 4000000 in
theorem c_M_trace (l : Launch) (G : zG) (a_this : Nat) (a_height : Nat) (a_changeAt : Nat) (a_changeWas : Nat) (a_changeIs : Nat) (a_tape : Nat) (a_text : Nat) (a_names : Nat) (a_line : Nat) (a_row : Nat) (a_pastMany : Nat) (a_past : Nat) (a_changed : Nat) (a_greatest : Nat) (a_numbersWere : Nat) (a_told : Nat) (a_waysOf : Nat) (a_waysWere : Nat) (a_blocks : Nat) (a_ordersOf : Nat) (a_imageLine : Nat) (a_bodyKind : Nat) (a_trace : Nat) (a_shelf : Nat) (a_many : Nat) (a_items : Nat) (a_carried : Nat) (people : Int32) (keptMany : Int32) (done : Int32) (tapeMany : Int32) (textMany : Int32) (base : Int32) (at_ : Int32) (ends : Int32) (fault : Int32) (opened : Int32) (lineMany : Int32) (rowMany : Int32) (taller : Int32) (tallerBy : Int32) (pasts : Int32) (isKept : Int32) (imageMany : Int32) (bodies : Int32) (ran : Int32) (ownKind : Int32) (ownNumber : Int32) (trace : Nat → Int32) (x1 : Int32) (r_ : Int32) (hf : f_M_trace ran trace x1 = some r_) : zM l yX12_trace cX12_trace 2 (some .int) 0 0 G [.ref a_this, .int x1] (w_M_trace G a_this a_height a_changeAt a_changeWas a_changeIs a_tape a_text a_names a_line a_row a_pastMany a_past a_changed a_greatest a_numbersWere a_told a_waysOf a_waysWere a_blocks a_ordersOf a_imageLine a_bodyKind a_trace a_shelf a_many a_items a_carried people keptMany done tapeMany textMany base at_ ends fault opened lineMany rowMany taller tallerBy pasts isKept imageMany bodies ran ownKind ownNumber trace) (some (.int r_)) (w_M_trace G a_this a_height a_changeAt a_changeWas a_changeIs a_tape a_text a_names a_line a_row a_pastMany a_past a_changed a_greatest a_numbersWere a_told a_waysOf a_waysWere a_blocks a_ordersOf a_imageLine a_bodyKind a_trace a_shelf a_many a_items a_carried people keptMany done tapeMany textMany base at_ ends fault opened lineMany rowMany taller tallerBy pasts isKept imageMany bodies ran ownKind ownNumber trace) := by
  refine zM.of [(0, .ref a_this), (1, .int x1)] (own := RX12) rfl (by decide +kernel) (Nat.le_of_ble_eq_true rfl) rfl rfl fun X hX F => ?_
  subst hX
  replace hf := (f_M_trace.eq_1 ..).symm.trans hf
  refine z_iload_n F 1 dX12_trace_0 rfl rfl ?_
  refine z_if_lt F 27 dX12_trace_1 (by decide) hf (fun hf _ => ?_) (fun hf _ => ?_)
  · refine z_iconst F (-1) dX12_trace_27 rfl ?_
    have ee1 := Option.some.inj hf
    subst ee1
    exact z_iret F rfl rfl rfl rfl dX12_trace_28
  · refine z_iload_n F 1 dX12_trace_4 rfl rfl ?_
    refine z_aload_n F 0 dX12_trace_5 rfl rfl ?_
    refine z_get F 0 12 40 inlX12 rfl rfl (by decide) fl_X12_335 rfl dX12_trace_6 ?_
    refine z_icmp_ge F 27 dX12_trace_9 (by decide) hf (fun hf _ => ?_) (fun hf _ => ?_)
    · refine z_iconst F (-1) dX12_trace_27 rfl ?_
      have ee1 := Option.some.inj hf
      subst ee1
      exact z_iret F rfl rfl rfl rfl dX12_trace_28
    · refine z_iload_n F 1 dX12_trace_12 rfl rfl ?_
      refine z_bipush F (24) dX12_trace_13 rfl ?_
      refine z_icmp_ge F 27 dX12_trace_15 (by decide) hf (fun hf _ => ?_) (fun hf _ => ?_)
      · refine z_iconst F (-1) dX12_trace_27 rfl ?_
        have ee1 := Option.some.inj hf
        subst ee1
        exact z_iret F rfl rfl rfl rfl dX12_trace_28
      · refine z_aload_n F 0 dX12_trace_18 rfl rfl ?_
        refine z_get F 0 12 39 inlX12 rfl rfl (by decide) fl_X12_73 rfl dX12_trace_19 ?_
        refine z_iload_n F 1 dX12_trace_22 rfl rfl ?_
        refine z_iald F 1 rfl hf dX12_trace_23 (fun v_1 hf => ?_)
        refine z_goto F 28 dX12_trace_24 (by decide) ?_
        have ee1 := Option.some.inj hf
        subst ee1
        exact z_iret F rfl rfl rfl rfl dX12_trace_28

abbrev w_M_keep (G : zG) (a_this : Nat) (a_height : Nat) (a_changeAt : Nat) (a_changeWas : Nat) (a_changeIs : Nat) (a_tape : Nat) (a_text : Nat) (a_names : Nat) (a_line : Nat) (a_row : Nat) (a_pastMany : Nat) (a_past : Nat) (a_changed : Nat) (a_greatest : Nat) (a_numbersWere : Nat) (a_told : Nat) (a_waysOf : Nat) (a_waysWere : Nat) (a_blocks : Nat) (a_ordersOf : Nat) (a_imageLine : Nat) (a_bodyKind : Nat) (a_trace : Nat) (a_shelf : Nat) (a_many : Nat) (a_items : Nat) (a_carried : Nat) (people : Int32) (keptMany : Int32) (done : Int32) (tapeMany : Int32) (textMany : Int32) (base : Int32) (at_ : Int32) (ends : Int32) (fault : Int32) (opened : Int32) (lineMany : Int32) (rowMany : Int32) (taller : Int32) (tallerBy : Int32) (pasts : Int32) (isKept : Int32) (imageMany : Int32) (bodies : Int32) (ran : Int32) (ownKind : Int32) (ownNumber : Int32) (shelf : Nat → Int32) (many : Nat → Int32) : va_W := [(a_this, cO 12 [.int people, .ref a_height, .ref a_changeAt, .ref a_changeWas, .ref a_changeIs, .int keptMany, .int done, .ref a_tape, .int tapeMany, .ref a_text, .int textMany, .int base, .int at_, .int ends, .int fault, .int opened, .ref a_names, .ref a_line, .int lineMany, .ref a_row, .int rowMany, .int taller, .int tallerBy, .ref a_pastMany, .ref a_past, .int pasts, .ref a_changed, .ref a_greatest, .ref a_numbersWere, .ref a_told, .ref a_waysOf, .ref a_waysWere, .ref a_blocks, .ref a_ordersOf, .int isKept, .int imageMany, .ref a_imageLine, .int bodies, .ref a_bodyKind, .ref a_trace, .int ran, .int ownKind, .int ownNumber, .ref a_shelf, .ref a_many, .ref a_items, .ref a_carried]), (a_shelf, cI G 6 shelf), (a_many, cI G 6 many)]
def f_M_keep (bodies : Int32) (shelf : Nat → Int32) (many : Nat → Int32) (x1 : Int32) (x2 : Int32) : Option (Int32 × (Nat → Int32) × (Nat → Int32)) := (if (f_M_isShelf x1) = 0 then (some ((-1), shelf, many)) else (if x2 = (-1) then (zs shelf 6 x1 x2 fun shelf_2 => (zs many 6 x1 0 fun many_3 => (some (1, shelf_2, many_3)))) else (if (f_M_isBody bodies x2) = 0 then (some ((-1), shelf, many)) else (zs shelf 6 x1 x2 fun shelf_5 => (zs many 6 x1 0 fun many_6 => (some (1, shelf_5, many_6)))))))
set_option maxRecDepth 100000 in
set_option maxHeartbeats 4000000 in
theorem c_M_keep (l : Launch) (G : zG) (a_this : Nat) (a_height : Nat) (a_changeAt : Nat) (a_changeWas : Nat) (a_changeIs : Nat) (a_tape : Nat) (a_text : Nat) (a_names : Nat) (a_line : Nat) (a_row : Nat) (a_pastMany : Nat) (a_past : Nat) (a_changed : Nat) (a_greatest : Nat) (a_numbersWere : Nat) (a_told : Nat) (a_waysOf : Nat) (a_waysWere : Nat) (a_blocks : Nat) (a_ordersOf : Nat) (a_imageLine : Nat) (a_bodyKind : Nat) (a_trace : Nat) (a_shelf : Nat) (a_many : Nat) (a_items : Nat) (a_carried : Nat) (people : Int32) (keptMany : Int32) (done : Int32) (tapeMany : Int32) (textMany : Int32) (base : Int32) (at_ : Int32) (ends : Int32) (fault : Int32) (opened : Int32) (lineMany : Int32) (rowMany : Int32) (taller : Int32) (tallerBy : Int32) (pasts : Int32) (isKept : Int32) (imageMany : Int32) (bodies : Int32) (ran : Int32) (ownKind : Int32) (ownNumber : Int32) (shelf : Nat → Int32) (many : Nat → Int32) (x1 : Int32) (x2 : Int32) (r_ : Int32) (o_shelf : Nat → Int32) (o_many : Nat → Int32) (hf : f_M_keep bodies shelf many x1 x2 = some (r_, o_shelf, o_many)) : zM l yX12_keep cX12_keep 3 (some .int) 2 46 G [.ref a_this, .int x1, .int x2] (w_M_keep G a_this a_height a_changeAt a_changeWas a_changeIs a_tape a_text a_names a_line a_row a_pastMany a_past a_changed a_greatest a_numbersWere a_told a_waysOf a_waysWere a_blocks a_ordersOf a_imageLine a_bodyKind a_trace a_shelf a_many a_items a_carried people keptMany done tapeMany textMany base at_ ends fault opened lineMany rowMany taller tallerBy pasts isKept imageMany bodies ran ownKind ownNumber shelf many) (some (.int r_)) (w_M_keep G a_this a_height a_changeAt a_changeWas a_changeIs a_tape a_text a_names a_line a_row a_pastMany a_past a_changed a_greatest a_numbersWere a_told a_waysOf a_waysWere a_blocks a_ordersOf a_imageLine a_bodyKind a_trace a_shelf a_many a_items a_carried people keptMany done tapeMany textMany base at_ ends fault opened lineMany rowMany taller tallerBy pasts isKept imageMany bodies ran ownKind ownNumber o_shelf o_many) := by
  refine zM.of [(0, .ref a_this), (1, .int x1), (2, .int x2)] (own := RX12) rfl (by decide +kernel) (Nat.le_of_ble_eq_true rfl) rfl rfl fun X hX F => ?_
  subst hX
  replace hf := (f_M_keep.eq_1 ..).symm.trans hf
  refine z_iload_n F 1 dX12_keep_0 rfl rfl ?_
  refine z_callSm (rest := []) F (c_M_isShelf (xL X) G x1 _ rfl) hy_X12_isShelf ml_X12_113 hd_X12_isShelf ⟨by omega, by omega⟩ rfl [] rfl rfl (w_M_keep G a_this a_height a_changeAt a_changeWas a_changeIs a_tape a_text a_names a_line a_row a_pastMany a_past a_changed a_greatest a_numbersWere a_told a_waysOf a_waysWere a_blocks a_ordersOf a_imageLine a_bodyKind a_trace a_shelf a_many a_items a_carried people keptMany done tapeMany textMany base at_ ends fault opened lineMany rowMany taller tallerBy pasts isKept imageMany bodies ran ownKind ownNumber shelf many) [none, none, none] rfl (by decide +kernel) rfl rfl (Nat.le_of_ble_eq_true rfl) dX12_keep_1 (fun hz_1 => ?_)
  refine z_if_eq F 20 dX12_keep_4 (by decide) hf (fun hf _ => ?_) (fun hf _ => ?_)
  · refine z_iconst F (-1) dX12_keep_20 rfl ?_
    have eq1 := Option.some.inj hf
    obtain ⟨ee1, eq2⟩ := Prod.mk.inj eq1
    obtain ⟨ee2, ee3⟩ := Prod.mk.inj eq2
    subst ee1
    subst ee2
    subst ee3
    exact z_iret F rfl rfl rfl rfl dX12_keep_21
  · refine z_iload_n F 2 dX12_keep_7 rfl rfl ?_
    refine z_iconst F (-1) dX12_keep_8 rfl ?_
    refine z_icmp_eq F 22 dX12_keep_9 (by decide) hf (fun hf _ => ?_) (fun hf _ => ?_)
    · refine z_aload_n F 0 dX12_keep_22 rfl rfl ?_
      refine z_get F 0 12 43 inlX12 rfl rfl (by decide) fl_X12_76 rfl dX12_keep_23 ?_
      refine z_iload_n F 1 dX12_keep_26 rfl rfl ?_
      refine z_iload_n F 2 dX12_keep_27 rfl rfl ?_
      refine z_iast F 1 (fun shelf_2 => (w_M_keep G a_this a_height a_changeAt a_changeWas a_changeIs a_tape a_text a_names a_line a_row a_pastMany a_past a_changed a_greatest a_numbersWere a_told a_waysOf a_waysWere a_blocks a_ordersOf a_imageLine a_bodyKind a_trace a_shelf a_many a_items a_carried people keptMany done tapeMany textMany base at_ ends fault opened lineMany rowMany taller tallerBy pasts isKept imageMany bodies ran ownKind ownNumber shelf_2 many)) rfl hf (fun _ => rfl) dX12_keep_28 (fun shelf_2 hf => ?_)
      refine z_aload_n F 0 dX12_keep_29 rfl rfl ?_
      refine z_get F 0 12 44 inlX12 rfl rfl (by decide) fl_X12_79 rfl dX12_keep_30 ?_
      refine z_iload_n F 1 dX12_keep_33 rfl rfl ?_
      refine z_iconst F (0) dX12_keep_34 rfl ?_
      refine z_iast F 2 (fun many_3 => (w_M_keep G a_this a_height a_changeAt a_changeWas a_changeIs a_tape a_text a_names a_line a_row a_pastMany a_past a_changed a_greatest a_numbersWere a_told a_waysOf a_waysWere a_blocks a_ordersOf a_imageLine a_bodyKind a_trace a_shelf a_many a_items a_carried people keptMany done tapeMany textMany base at_ ends fault opened lineMany rowMany taller tallerBy pasts isKept imageMany bodies ran ownKind ownNumber shelf_2 many_3)) rfl hf (fun _ => rfl) dX12_keep_35 (fun many_3 hf => ?_)
      refine z_iconst F (1) dX12_keep_36 rfl ?_
      have eq1 := Option.some.inj hf
      obtain ⟨ee1, eq2⟩ := Prod.mk.inj eq1
      obtain ⟨ee2, ee3⟩ := Prod.mk.inj eq2
      subst ee1
      subst ee2
      subst ee3
      exact z_iret F rfl rfl rfl rfl dX12_keep_37
    · refine z_aload_n F 0 dX12_keep_12 rfl rfl ?_
      refine z_iload_n F 2 dX12_keep_13 rfl rfl ?_
      refine z_callVm (rest := []) F 12 (c_M_isBody (xL X) G a_this a_height a_changeAt a_changeWas a_changeIs a_tape a_text a_names a_line a_row a_pastMany a_past a_changed a_greatest a_numbersWere a_told a_waysOf a_waysWere a_blocks a_ordersOf a_imageLine a_bodyKind a_trace a_shelf a_many a_items a_carried people keptMany done tapeMany textMany base at_ ends fault opened lineMany rowMany taller tallerBy pasts isKept imageMany bodies ran ownKind ownNumber x2 _ rfl) hy_X12_isBody ml_X12_359 hd_X12_isBody ⟨by omega, by omega⟩ rfl [0] rfl rfl 0 rfl rfl (w_M_keep G a_this a_height a_changeAt a_changeWas a_changeIs a_tape a_text a_names a_line a_row a_pastMany a_past a_changed a_greatest a_numbersWere a_told a_waysOf a_waysWere a_blocks a_ordersOf a_imageLine a_bodyKind a_trace a_shelf a_many a_items a_carried people keptMany done tapeMany textMany base at_ ends fault opened lineMany rowMany taller tallerBy pasts isKept imageMany bodies ran ownKind ownNumber shelf many) [some 0, none, none] rfl (by decide +kernel) rfl rfl (Nat.le_of_ble_eq_true rfl) dX12_keep_14 (fun hz_4 => ?_)
      refine z_if_ne F 22 dX12_keep_17 (by decide) hf (fun hf _ => ?_) (fun hf _ => ?_)
      · refine z_aload_n F 0 dX12_keep_22 rfl rfl ?_
        refine z_get F 0 12 43 inlX12 rfl rfl (by decide) fl_X12_76 rfl dX12_keep_23 ?_
        refine z_iload_n F 1 dX12_keep_26 rfl rfl ?_
        refine z_iload_n F 2 dX12_keep_27 rfl rfl ?_
        refine z_iast F 1 (fun shelf_5 => (w_M_keep G a_this a_height a_changeAt a_changeWas a_changeIs a_tape a_text a_names a_line a_row a_pastMany a_past a_changed a_greatest a_numbersWere a_told a_waysOf a_waysWere a_blocks a_ordersOf a_imageLine a_bodyKind a_trace a_shelf a_many a_items a_carried people keptMany done tapeMany textMany base at_ ends fault opened lineMany rowMany taller tallerBy pasts isKept imageMany bodies ran ownKind ownNumber shelf_5 many)) rfl hf (fun _ => rfl) dX12_keep_28 (fun shelf_5 hf => ?_)
        refine z_aload_n F 0 dX12_keep_29 rfl rfl ?_
        refine z_get F 0 12 44 inlX12 rfl rfl (by decide) fl_X12_79 rfl dX12_keep_30 ?_
        refine z_iload_n F 1 dX12_keep_33 rfl rfl ?_
        refine z_iconst F (0) dX12_keep_34 rfl ?_
        refine z_iast F 2 (fun many_6 => (w_M_keep G a_this a_height a_changeAt a_changeWas a_changeIs a_tape a_text a_names a_line a_row a_pastMany a_past a_changed a_greatest a_numbersWere a_told a_waysOf a_waysWere a_blocks a_ordersOf a_imageLine a_bodyKind a_trace a_shelf a_many a_items a_carried people keptMany done tapeMany textMany base at_ ends fault opened lineMany rowMany taller tallerBy pasts isKept imageMany bodies ran ownKind ownNumber shelf_5 many_6)) rfl hf (fun _ => rfl) dX12_keep_35 (fun many_6 hf => ?_)
        refine z_iconst F (1) dX12_keep_36 rfl ?_
        have eq1 := Option.some.inj hf
        obtain ⟨ee1, eq2⟩ := Prod.mk.inj eq1
        obtain ⟨ee2, ee3⟩ := Prod.mk.inj eq2
        subst ee1
        subst ee2
        subst ee3
        exact z_iret F rfl rfl rfl rfl dX12_keep_37
      · refine z_iconst F (-1) dX12_keep_20 rfl ?_
        have eq1 := Option.some.inj hf
        obtain ⟨ee1, eq2⟩ := Prod.mk.inj eq1
        obtain ⟨ee2, ee3⟩ := Prod.mk.inj eq2
        subst ee1
        subst ee2
        subst ee3
        exact z_iret F rfl rfl rfl rfl dX12_keep_21

abbrev w_M_row (G : zG) (a_this : Nat) (a_height : Nat) (a_changeAt : Nat) (a_changeWas : Nat) (a_changeIs : Nat) (a_tape : Nat) (a_text : Nat) (a_names : Nat) (a_line : Nat) (a_row : Nat) (a_pastMany : Nat) (a_past : Nat) (a_changed : Nat) (a_greatest : Nat) (a_numbersWere : Nat) (a_told : Nat) (a_waysOf : Nat) (a_waysWere : Nat) (a_blocks : Nat) (a_ordersOf : Nat) (a_imageLine : Nat) (a_bodyKind : Nat) (a_trace : Nat) (a_shelf : Nat) (a_many : Nat) (a_items : Nat) (a_carried : Nat) (people : Int32) (keptMany : Int32) (done : Int32) (tapeMany : Int32) (textMany : Int32) (base : Int32) (at_ : Int32) (ends : Int32) (fault : Int32) (opened : Int32) (lineMany : Int32) (rowMany : Int32) (taller : Int32) (tallerBy : Int32) (pasts : Int32) (isKept : Int32) (imageMany : Int32) (bodies : Int32) (ran : Int32) (ownKind : Int32) (ownNumber : Int32) (shelf : Nat → Int32) (many : Nat → Int32) (items : Nat → Int64) : va_W := [(a_this, cO 12 [.int people, .ref a_height, .ref a_changeAt, .ref a_changeWas, .ref a_changeIs, .int keptMany, .int done, .ref a_tape, .int tapeMany, .ref a_text, .int textMany, .int base, .int at_, .int ends, .int fault, .int opened, .ref a_names, .ref a_line, .int lineMany, .ref a_row, .int rowMany, .int taller, .int tallerBy, .ref a_pastMany, .ref a_past, .int pasts, .ref a_changed, .ref a_greatest, .ref a_numbersWere, .ref a_told, .ref a_waysOf, .ref a_waysWere, .ref a_blocks, .ref a_ordersOf, .int isKept, .int imageMany, .ref a_imageLine, .int bodies, .ref a_bodyKind, .ref a_trace, .int ran, .int ownKind, .int ownNumber, .ref a_shelf, .ref a_many, .ref a_items, .ref a_carried]), (a_shelf, cI G 6 shelf), (a_many, cI G 6 many), (a_items, cJ G 360 items)]
def f_M_row_L57 (v1 : Int32) : Nat → (Nat → Int64) → Int32 → Option ((Nat → Int64))
  | 0, _, _ => none
  | fuel + 1, items, v4 => (if (((60 : Int32) * v1) + (60 : Int32)) ≤ v4 then (some items) else (zsJ items 360 v4 0 fun items_5 => (f_M_row_L57 v1 fuel items_5 (v4 + 1))))
def f_M_row (shelf : Nat → Int32) (many : Nat → Int32) (items : Nat → Int64) (x1 : Int32) (x2 : Int32) (x3 : Int32) : Option (Int32 × (Nat → Int32) × (Nat → Int32) × (Nat → Int64)) := (if (f_M_isShelf x1) = 0 then (some ((-1), shelf, many, items)) else (if (f_M_within (Int32.toInt64 x2) 0 4) = 0 then (some ((-1), shelf, many, items)) else (if x3 ≤ 60 then (if (0 : Int32) ≤ x3 then (zs shelf 6 x1 ((50 : Int32) + x2) fun shelf_3 => (zs many 6 x1 x3 fun many_4 => (zb1 (f_M_row_L57 x1 FU items ((60 : Int32) * x1)) fun items_6 => (some (1, shelf_3, many_4, items_6))))) else (some ((-14), shelf, many, items))) else (some ((-1), shelf, many, items)))))
set_option maxRecDepth 100000 in
set_option maxHeartbeats 4000000 in
theorem l_M_row_57 {X : zX} (G : zG) (a_this : Nat) (a_height : Nat) (a_changeAt : Nat) (a_changeWas : Nat) (a_changeIs : Nat) (a_tape : Nat) (a_text : Nat) (a_names : Nat) (a_line : Nat) (a_row : Nat) (a_pastMany : Nat) (a_past : Nat) (a_changed : Nat) (a_greatest : Nat) (a_numbersWere : Nat) (a_told : Nat) (a_waysOf : Nat) (a_waysWere : Nat) (a_blocks : Nat) (a_ordersOf : Nat) (a_imageLine : Nat) (a_bodyKind : Nat) (a_trace : Nat) (a_shelf : Nat) (a_many : Nat) (a_items : Nat) (a_carried : Nat) (people : Int32) (keptMany : Int32) (done : Int32) (tapeMany : Int32) (textMany : Int32) (base : Int32) (at_ : Int32) (ends : Int32) (fault : Int32) (opened : Int32) (lineMany : Int32) (rowMany : Int32) (taller : Int32) (tallerBy : Int32) (pasts : Int32) (isKept : Int32) (imageMany : Int32) (bodies : Int32) (ran : Int32) (ownKind : Int32) (ownNumber : Int32) (shelf : Nat → Int32) (many : Nat → Int32) (v1 : Int32) {v0 : Option Value} {w0 : va_W} (F : zF X G cX12_row RX12 5 (some .int) 2 45 v0 w0) (e_items : Nat → Int64) (hk : Z X G 5 (w_M_row G a_this a_height a_changeAt a_changeWas a_changeIs a_tape a_text a_names a_line a_row a_pastMany a_past a_changed a_greatest a_numbersWere a_told a_waysOf a_waysWere a_blocks a_ordersOf a_imageLine a_bodyKind a_trace a_shelf a_many a_items a_carried people keptMany done tapeMany textMany base at_ ends fault opened lineMany rowMany taller tallerBy pasts isKept imageMany bodies ran ownKind ownNumber shelf many e_items) [] 83 []) :
    ∀ (fuel : Nat) (items : Nat → Int64) (v4 : Int32), f_M_row_L57 v1 fuel items v4 = some e_items → Z X G 5 (w_M_row G a_this a_height a_changeAt a_changeWas a_changeIs a_tape a_text a_names a_line a_row a_pastMany a_past a_changed a_greatest a_numbersWere a_told a_waysOf a_waysWere a_blocks a_ordersOf a_imageLine a_bodyKind a_trace a_shelf a_many a_items a_carried people keptMany done tapeMany textMany base at_ ends fault opened lineMany rowMany taller tallerBy pasts isKept imageMany bodies ran ownKind ownNumber shelf many items) [(0, .ref a_this), (1, .int v1), (4, .int v4)] 57 [] := by
  intro fuel
  induction fuel with
  | zero => intro items v4 hf; exact absurd ((f_M_row_L57.eq_1 ..).symm.trans hf) (fun h => by cases h)
  | succ fuel ih =>
    intro items v4 hf
    replace hf := (f_M_row_L57.eq_2 ..).symm.trans hf
    refine z_iload F 2 dX12_row_57 rfl ?_
    refine z_bipush F (60) dX12_row_59 rfl ?_
    refine z_iload_n F 1 dX12_row_61 rfl rfl ?_
    refine z_imul F dX12_row_62 ?_
    refine z_bipush F (60) dX12_row_63 rfl ?_
    refine z_iadd F dX12_row_65 ?_
    refine z_icmp_ge F 83 dX12_row_66 (by decide) hf (fun hf _ => ?_) (fun hf _ => ?_)
    · have ee1 := Option.some.inj hf
      subst ee1
      exact z_sub [] rfl hk
    · refine z_aload_n F 0 dX12_row_69 rfl rfl ?_
      refine z_get F 0 12 45 inlX12 rfl rfl (by decide) fl_X12_82 rfl dX12_row_70 ?_
      refine z_iload F 2 dX12_row_73 rfl ?_
      refine z_lconst F (0) dX12_row_75 rfl ?_
      refine z_last F 3 (fun items_5 => (w_M_row G a_this a_height a_changeAt a_changeWas a_changeIs a_tape a_text a_names a_line a_row a_pastMany a_past a_changed a_greatest a_numbersWere a_told a_waysOf a_waysWere a_blocks a_ordersOf a_imageLine a_bodyKind a_trace a_shelf a_many a_items a_carried people keptMany done tapeMany textMany base at_ ends fault opened lineMany rowMany taller tallerBy pasts isKept imageMany bodies ran ownKind ownNumber shelf many items_5)) rfl hf (fun _ => rfl) dX12_row_76 (fun items_5 hf => ?_)
      refine z_iinc F [(4, .int (v4 + 1)), (0, .ref a_this), (1, .int v1)] dX12_row_77 2 rfl rfl (by decide) rfl ?_
      refine z_goto F 57 dX12_row_80 (by decide) ?_
      exact z_sub [1, 2, 0] rfl (ih items_5 (v4 + 1) hf)

set_option maxRecDepth 100000 in
set_option maxHeartbeats 4000000 in
theorem c_M_row (l : Launch) (G : zG) (a_this : Nat) (a_height : Nat) (a_changeAt : Nat) (a_changeWas : Nat) (a_changeIs : Nat) (a_tape : Nat) (a_text : Nat) (a_names : Nat) (a_line : Nat) (a_row : Nat) (a_pastMany : Nat) (a_past : Nat) (a_changed : Nat) (a_greatest : Nat) (a_numbersWere : Nat) (a_told : Nat) (a_waysOf : Nat) (a_waysWere : Nat) (a_blocks : Nat) (a_ordersOf : Nat) (a_imageLine : Nat) (a_bodyKind : Nat) (a_trace : Nat) (a_shelf : Nat) (a_many : Nat) (a_items : Nat) (a_carried : Nat) (people : Int32) (keptMany : Int32) (done : Int32) (tapeMany : Int32) (textMany : Int32) (base : Int32) (at_ : Int32) (ends : Int32) (fault : Int32) (opened : Int32) (lineMany : Int32) (rowMany : Int32) (taller : Int32) (tallerBy : Int32) (pasts : Int32) (isKept : Int32) (imageMany : Int32) (bodies : Int32) (ran : Int32) (ownKind : Int32) (ownNumber : Int32) (shelf : Nat → Int32) (many : Nat → Int32) (items : Nat → Int64) (x1 : Int32) (x2 : Int32) (x3 : Int32) (r_ : Int32) (o_shelf : Nat → Int32) (o_many : Nat → Int32) (o_items : Nat → Int64) (hf : f_M_row shelf many items x1 x2 x3 = some (r_, o_shelf, o_many, o_items)) : zM l yX12_row cX12_row 5 (some .int) 2 45 G [.ref a_this, .int x1, .int x2, .int x3] (w_M_row G a_this a_height a_changeAt a_changeWas a_changeIs a_tape a_text a_names a_line a_row a_pastMany a_past a_changed a_greatest a_numbersWere a_told a_waysOf a_waysWere a_blocks a_ordersOf a_imageLine a_bodyKind a_trace a_shelf a_many a_items a_carried people keptMany done tapeMany textMany base at_ ends fault opened lineMany rowMany taller tallerBy pasts isKept imageMany bodies ran ownKind ownNumber shelf many items) (some (.int r_)) (w_M_row G a_this a_height a_changeAt a_changeWas a_changeIs a_tape a_text a_names a_line a_row a_pastMany a_past a_changed a_greatest a_numbersWere a_told a_waysOf a_waysWere a_blocks a_ordersOf a_imageLine a_bodyKind a_trace a_shelf a_many a_items a_carried people keptMany done tapeMany textMany base at_ ends fault opened lineMany rowMany taller tallerBy pasts isKept imageMany bodies ran ownKind ownNumber o_shelf o_many o_items) := by
  refine zM.of [(0, .ref a_this), (1, .int x1), (2, .int x2), (3, .int x3)] (own := RX12) rfl (by decide +kernel) (Nat.le_of_ble_eq_true rfl) rfl rfl fun X hX F => ?_
  subst hX
  replace hf := (f_M_row.eq_1 ..).symm.trans hf
  refine z_iload_n F 1 dX12_row_0 rfl rfl ?_
  refine z_callSm (rest := []) F (c_M_isShelf (xL X) G x1 _ rfl) hy_X12_isShelf ml_X12_113 hd_X12_isShelf ⟨by omega, by omega⟩ rfl [] rfl rfl (w_M_row G a_this a_height a_changeAt a_changeWas a_changeIs a_tape a_text a_names a_line a_row a_pastMany a_past a_changed a_greatest a_numbersWere a_told a_waysOf a_waysWere a_blocks a_ordersOf a_imageLine a_bodyKind a_trace a_shelf a_many a_items a_carried people keptMany done tapeMany textMany base at_ ends fault opened lineMany rowMany taller tallerBy pasts isKept imageMany bodies ran ownKind ownNumber shelf many items) [none, none, none, none] rfl (by decide +kernel) rfl rfl (Nat.le_of_ble_eq_true rfl) dX12_row_1 (fun hz_1 => ?_)
  refine z_if_eq F 25 dX12_row_4 (by decide) hf (fun hf _ => ?_) (fun hf _ => ?_)
  · refine z_iconst F (-1) dX12_row_25 rfl ?_
    have eq1 := Option.some.inj hf
    obtain ⟨ee1, eq2⟩ := Prod.mk.inj eq1
    obtain ⟨ee2, eq3⟩ := Prod.mk.inj eq2
    obtain ⟨ee3, ee4⟩ := Prod.mk.inj eq3
    subst ee1
    subst ee2
    subst ee3
    subst ee4
    exact z_iret F rfl rfl rfl rfl dX12_row_26
  · refine z_iload_n F 2 dX12_row_7 rfl rfl ?_
    refine z_i2l F dX12_row_8 ?_
    refine z_lconst F (0) dX12_row_9 rfl ?_
    refine z_ldc2 F (4) (uw18 _ (List.mem_of_getElem? (i := 4) rfl)) dX12_row_10 ?_
    refine z_callSm (rest := []) F (c_M_within (xL X) G (Int32.toInt64 x2) 0 4 _ rfl) hy_X12_within ml_X12_96 hd_X12_within ⟨by omega, by omega⟩ rfl [] rfl rfl (w_M_row G a_this a_height a_changeAt a_changeWas a_changeIs a_tape a_text a_names a_line a_row a_pastMany a_past a_changed a_greatest a_numbersWere a_told a_waysOf a_waysWere a_blocks a_ordersOf a_imageLine a_bodyKind a_trace a_shelf a_many a_items a_carried people keptMany done tapeMany textMany base at_ ends fault opened lineMany rowMany taller tallerBy pasts isKept imageMany bodies ran ownKind ownNumber shelf many items) [none, none, none, none] rfl (by decide +kernel) rfl rfl (Nat.le_of_ble_eq_true rfl) dX12_row_13 (fun hz_2 => ?_)
    refine z_if_eq F 25 dX12_row_16 (by decide) hf (fun hf _ => ?_) (fun hf _ => ?_)
    · refine z_iconst F (-1) dX12_row_25 rfl ?_
      have eq1 := Option.some.inj hf
      obtain ⟨ee1, eq2⟩ := Prod.mk.inj eq1
      obtain ⟨ee2, eq3⟩ := Prod.mk.inj eq2
      obtain ⟨ee3, ee4⟩ := Prod.mk.inj eq3
      subst ee1
      subst ee2
      subst ee3
      subst ee4
      exact z_iret F rfl rfl rfl rfl dX12_row_26
    · refine z_iload_n F 3 dX12_row_19 rfl rfl ?_
      refine z_bipush F (60) dX12_row_20 rfl ?_
      refine z_icmp_le F 27 dX12_row_22 (by decide) hf (fun hf _ => ?_) (fun hf _ => ?_)
      · refine z_iload_n F 3 dX12_row_27 rfl rfl ?_
        refine z_if_ge F 34 dX12_row_28 (by decide) hf (fun hf _ => ?_) (fun hf _ => ?_)
        · refine z_aload_n F 0 dX12_row_34 rfl rfl ?_
          refine z_get F 0 12 43 inlX12 rfl rfl (by decide) fl_X12_76 rfl dX12_row_35 ?_
          refine z_iload_n F 1 dX12_row_38 rfl rfl ?_
          refine z_bipush F (50) dX12_row_39 rfl ?_
          refine z_iload_n F 2 dX12_row_41 rfl rfl ?_
          refine z_iadd F dX12_row_42 ?_
          refine z_iast F 1 (fun shelf_3 => (w_M_row G a_this a_height a_changeAt a_changeWas a_changeIs a_tape a_text a_names a_line a_row a_pastMany a_past a_changed a_greatest a_numbersWere a_told a_waysOf a_waysWere a_blocks a_ordersOf a_imageLine a_bodyKind a_trace a_shelf a_many a_items a_carried people keptMany done tapeMany textMany base at_ ends fault opened lineMany rowMany taller tallerBy pasts isKept imageMany bodies ran ownKind ownNumber shelf_3 many items)) rfl hf (fun _ => rfl) dX12_row_43 (fun shelf_3 hf => ?_)
          refine z_aload_n F 0 dX12_row_44 rfl rfl ?_
          refine z_get F 0 12 44 inlX12 rfl rfl (by decide) fl_X12_79 rfl dX12_row_45 ?_
          refine z_iload_n F 1 dX12_row_48 rfl rfl ?_
          refine z_iload_n F 3 dX12_row_49 rfl rfl ?_
          refine z_iast F 2 (fun many_4 => (w_M_row G a_this a_height a_changeAt a_changeWas a_changeIs a_tape a_text a_names a_line a_row a_pastMany a_past a_changed a_greatest a_numbersWere a_told a_waysOf a_waysWere a_blocks a_ordersOf a_imageLine a_bodyKind a_trace a_shelf a_many a_items a_carried people keptMany done tapeMany textMany base at_ ends fault opened lineMany rowMany taller tallerBy pasts isKept imageMany bodies ran ownKind ownNumber shelf_3 many_4 items)) rfl hf (fun _ => rfl) dX12_row_50 (fun many_4 hf => ?_)
          refine z_bipush F (60) dX12_row_51 rfl ?_
          refine z_iload_n F 1 dX12_row_53 rfl rfl ?_
          refine z_imul F dX12_row_54 ?_
          refine z_istore F [(4, .int ((60 : Int32) * x1)), (0, .ref a_this), (1, .int x1), (2, .int x2), (3, .int x3)] dX12_row_55 (by decide) rfl ?_
          obtain ⟨items_6, hg, hf⟩ := zb1_some hf
          refine z_sub [1, 2, 0] rfl ?_
          refine l_M_row_57 G a_this a_height a_changeAt a_changeWas a_changeIs a_tape a_text a_names a_line a_row a_pastMany a_past a_changed a_greatest a_numbersWere a_told a_waysOf a_waysWere a_blocks a_ordersOf a_imageLine a_bodyKind a_trace a_shelf a_many a_items a_carried people keptMany done tapeMany textMany base at_ ends fault opened lineMany rowMany taller tallerBy pasts isKept imageMany bodies ran ownKind ownNumber shelf_3 many_4 x1 F items_6 ?_ FU items ((60 : Int32) * x1) hg
          refine z_iconst F (1) dX12_row_83 rfl ?_
          have eq1 := Option.some.inj hf
          obtain ⟨ee1, eq2⟩ := Prod.mk.inj eq1
          obtain ⟨ee2, eq3⟩ := Prod.mk.inj eq2
          obtain ⟨ee3, ee4⟩ := Prod.mk.inj eq3
          subst ee1
          subst ee2
          subst ee3
          subst ee4
          exact z_iret F rfl rfl rfl rfl dX12_row_84
        · refine z_bipush F (-14) dX12_row_31 rfl ?_
          have eq1 := Option.some.inj hf
          obtain ⟨ee1, eq2⟩ := Prod.mk.inj eq1
          obtain ⟨ee2, eq3⟩ := Prod.mk.inj eq2
          obtain ⟨ee3, ee4⟩ := Prod.mk.inj eq3
          subst ee1
          subst ee2
          subst ee3
          subst ee4
          exact z_iret F rfl rfl rfl rfl dX12_row_33
      · refine z_iconst F (-1) dX12_row_25 rfl ?_
        have eq1 := Option.some.inj hf
        obtain ⟨ee1, eq2⟩ := Prod.mk.inj eq1
        obtain ⟨ee2, eq3⟩ := Prod.mk.inj eq2
        obtain ⟨ee3, ee4⟩ := Prod.mk.inj eq3
        subst ee1
        subst ee2
        subst ee3
        subst ee4
        exact z_iret F rfl rfl rfl rfl dX12_row_26

abbrev w_M_refusal (G : zG) (a_this : Nat) (a_height : Nat) (a_changeAt : Nat) (a_changeWas : Nat) (a_changeIs : Nat) (a_tape : Nat) (a_text : Nat) (a_names : Nat) (a_line : Nat) (a_row : Nat) (a_pastMany : Nat) (a_past : Nat) (a_changed : Nat) (a_greatest : Nat) (a_numbersWere : Nat) (a_told : Nat) (a_waysOf : Nat) (a_waysWere : Nat) (a_blocks : Nat) (a_ordersOf : Nat) (a_imageLine : Nat) (a_bodyKind : Nat) (a_trace : Nat) (a_shelf : Nat) (a_many : Nat) (a_items : Nat) (a_carried : Nat) (people : Int32) (keptMany : Int32) (done : Int32) (tapeMany : Int32) (textMany : Int32) (base : Int32) (at_ : Int32) (ends : Int32) (fault : Int32) (opened : Int32) (lineMany : Int32) (rowMany : Int32) (taller : Int32) (tallerBy : Int32) (pasts : Int32) (isKept : Int32) (imageMany : Int32) (bodies : Int32) (ran : Int32) (ownKind : Int32) (ownNumber : Int32) (shelf : Nat → Int32) (many : Nat → Int32) : va_W := [(a_this, cO 12 [.int people, .ref a_height, .ref a_changeAt, .ref a_changeWas, .ref a_changeIs, .int keptMany, .int done, .ref a_tape, .int tapeMany, .ref a_text, .int textMany, .int base, .int at_, .int ends, .int fault, .int opened, .ref a_names, .ref a_line, .int lineMany, .ref a_row, .int rowMany, .int taller, .int tallerBy, .ref a_pastMany, .ref a_past, .int pasts, .ref a_changed, .ref a_greatest, .ref a_numbersWere, .ref a_told, .ref a_waysOf, .ref a_waysWere, .ref a_blocks, .ref a_ordersOf, .int isKept, .int imageMany, .ref a_imageLine, .int bodies, .ref a_bodyKind, .ref a_trace, .int ran, .int ownKind, .int ownNumber, .ref a_shelf, .ref a_many, .ref a_items, .ref a_carried]), (a_shelf, cI G 6 shelf), (a_many, cI G 6 many)]
def f_M_refusal (shelf : Nat → Int32) (many : Nat → Int32) (x1 : Int32) (x2 : Int32) : Option Int32 := (if (f_M_isShelf x1) = 0 then (some (-1)) else (zg shelf 6 x1 fun v_2 => (if (0 : Int32) ≤ v_2 then (zg shelf 6 x1 fun v_3 => (if (50 : Int32) ≤ v_3 then (if x2 < 0 then (some (-13)) else (zg many 6 x1 fun v_4 => (if v_4 ≤ x2 then (some (-13)) else (some 0)))) else (some (-12)))) else (some (-11)))))
set_option maxRecDepth 100000 in
set_option maxHeartbeats 4000000 in
theorem c_M_refusal (l : Launch) (G : zG) (a_this : Nat) (a_height : Nat) (a_changeAt : Nat) (a_changeWas : Nat) (a_changeIs : Nat) (a_tape : Nat) (a_text : Nat) (a_names : Nat) (a_line : Nat) (a_row : Nat) (a_pastMany : Nat) (a_past : Nat) (a_changed : Nat) (a_greatest : Nat) (a_numbersWere : Nat) (a_told : Nat) (a_waysOf : Nat) (a_waysWere : Nat) (a_blocks : Nat) (a_ordersOf : Nat) (a_imageLine : Nat) (a_bodyKind : Nat) (a_trace : Nat) (a_shelf : Nat) (a_many : Nat) (a_items : Nat) (a_carried : Nat) (people : Int32) (keptMany : Int32) (done : Int32) (tapeMany : Int32) (textMany : Int32) (base : Int32) (at_ : Int32) (ends : Int32) (fault : Int32) (opened : Int32) (lineMany : Int32) (rowMany : Int32) (taller : Int32) (tallerBy : Int32) (pasts : Int32) (isKept : Int32) (imageMany : Int32) (bodies : Int32) (ran : Int32) (ownKind : Int32) (ownNumber : Int32) (shelf : Nat → Int32) (many : Nat → Int32) (x1 : Int32) (x2 : Int32) (r_ : Int32) (hf : f_M_refusal shelf many x1 x2 = some r_) : zM l yX12_refusal cX12_refusal 3 (some .int) 2 45 G [.ref a_this, .int x1, .int x2] (w_M_refusal G a_this a_height a_changeAt a_changeWas a_changeIs a_tape a_text a_names a_line a_row a_pastMany a_past a_changed a_greatest a_numbersWere a_told a_waysOf a_waysWere a_blocks a_ordersOf a_imageLine a_bodyKind a_trace a_shelf a_many a_items a_carried people keptMany done tapeMany textMany base at_ ends fault opened lineMany rowMany taller tallerBy pasts isKept imageMany bodies ran ownKind ownNumber shelf many) (some (.int r_)) (w_M_refusal G a_this a_height a_changeAt a_changeWas a_changeIs a_tape a_text a_names a_line a_row a_pastMany a_past a_changed a_greatest a_numbersWere a_told a_waysOf a_waysWere a_blocks a_ordersOf a_imageLine a_bodyKind a_trace a_shelf a_many a_items a_carried people keptMany done tapeMany textMany base at_ ends fault opened lineMany rowMany taller tallerBy pasts isKept imageMany bodies ran ownKind ownNumber shelf many) := by
  refine zM.of [(0, .ref a_this), (1, .int x1), (2, .int x2)] (own := RX12) rfl (by decide +kernel) (Nat.le_of_ble_eq_true rfl) rfl rfl fun X hX F => ?_
  subst hX
  replace hf := (f_M_refusal.eq_1 ..).symm.trans hf
  refine z_iload_n F 1 dX12_refusal_0 rfl rfl ?_
  refine z_callSm (rest := []) F (c_M_isShelf (xL X) G x1 _ rfl) hy_X12_isShelf ml_X12_113 hd_X12_isShelf ⟨by omega, by omega⟩ rfl [] rfl rfl (w_M_refusal G a_this a_height a_changeAt a_changeWas a_changeIs a_tape a_text a_names a_line a_row a_pastMany a_past a_changed a_greatest a_numbersWere a_told a_waysOf a_waysWere a_blocks a_ordersOf a_imageLine a_bodyKind a_trace a_shelf a_many a_items a_carried people keptMany done tapeMany textMany base at_ ends fault opened lineMany rowMany taller tallerBy pasts isKept imageMany bodies ran ownKind ownNumber shelf many) [none, none, none] rfl (by decide +kernel) rfl rfl (Nat.le_of_ble_eq_true rfl) dX12_refusal_1 (fun hz_1 => ?_)
  refine z_if_ne F 9 dX12_refusal_4 (by decide) hf (fun hf _ => ?_) (fun hf _ => ?_)
  · refine z_aload_n F 0 dX12_refusal_9 rfl rfl ?_
    refine z_get F 0 12 43 inlX12 rfl rfl (by decide) fl_X12_76 rfl dX12_refusal_10 ?_
    refine z_iload_n F 1 dX12_refusal_13 rfl rfl ?_
    refine z_iald F 1 rfl hf dX12_refusal_14 (fun v_2 hf => ?_)
    refine z_if_ge F 21 dX12_refusal_15 (by decide) hf (fun hf _ => ?_) (fun hf _ => ?_)
    · refine z_aload_n F 0 dX12_refusal_21 rfl rfl ?_
      refine z_get F 0 12 43 inlX12 rfl rfl (by decide) fl_X12_76 rfl dX12_refusal_22 ?_
      refine z_iload_n F 1 dX12_refusal_25 rfl rfl ?_
      refine z_iald F 1 rfl hf dX12_refusal_26 (fun v_3 hf => ?_)
      refine z_bipush F (50) dX12_refusal_27 rfl ?_
      refine z_icmp_ge F 35 dX12_refusal_29 (by decide) hf (fun hf _ => ?_) (fun hf _ => ?_)
      · refine z_iload_n F 2 dX12_refusal_35 rfl rfl ?_
        refine z_if_lt F 53 dX12_refusal_36 (by decide) hf (fun hf _ => ?_) (fun hf _ => ?_)
        · refine z_bipush F (-13) dX12_refusal_53 rfl ?_
          have ee1 := Option.some.inj hf
          subst ee1
          exact z_iret F rfl rfl rfl rfl dX12_refusal_55
        · refine z_iload_n F 2 dX12_refusal_39 rfl rfl ?_
          refine z_aload_n F 0 dX12_refusal_40 rfl rfl ?_
          refine z_get F 0 12 44 inlX12 rfl rfl (by decide) fl_X12_79 rfl dX12_refusal_41 ?_
          refine z_iload_n F 1 dX12_refusal_44 rfl rfl ?_
          refine z_iald F 2 rfl hf dX12_refusal_45 (fun v_4 hf => ?_)
          refine z_icmp_ge F 53 dX12_refusal_46 (by decide) hf (fun hf _ => ?_) (fun hf _ => ?_)
          · refine z_bipush F (-13) dX12_refusal_53 rfl ?_
            have ee1 := Option.some.inj hf
            subst ee1
            exact z_iret F rfl rfl rfl rfl dX12_refusal_55
          · refine z_iconst F (0) dX12_refusal_49 rfl ?_
            refine z_goto F 55 dX12_refusal_50 (by decide) ?_
            have ee1 := Option.some.inj hf
            subst ee1
            exact z_iret F rfl rfl rfl rfl dX12_refusal_55
      · refine z_bipush F (-12) dX12_refusal_32 rfl ?_
        have ee1 := Option.some.inj hf
        subst ee1
        exact z_iret F rfl rfl rfl rfl dX12_refusal_34
    · refine z_bipush F (-11) dX12_refusal_18 rfl ?_
      have ee1 := Option.some.inj hf
      subst ee1
      exact z_iret F rfl rfl rfl rfl dX12_refusal_20
  · refine z_iconst F (-1) dX12_refusal_7 rfl ?_
    have ee1 := Option.some.inj hf
    subst ee1
    exact z_iret F rfl rfl rfl rfl dX12_refusal_8

abbrev w_M_asSort (G : zG) : va_W := []
def f_M_asSort (x0 : Int32) (x1 : Int64) : Int64 := (if x0 = 0 then (Int32.toInt64 (Int32.toInt8 (Int64.toInt32 x1)).toInt32) else (if x0 = 1 then (Int32.toInt64 (Int32.toInt16 (Int64.toInt32 x1)).toInt32) else (if x0 = 2 then (Int32.toInt64 (Int64.toInt32 x1)) else (if x0 = 4 then (if (lg_cmp x1 0) = 0 then 0 else 1) else x1))))
set_option maxRecDepth 100000 in
set_option maxHeartbeats 4000000 in
theorem c_M_asSort (l : Launch) (G : zG) (x0 : Int32) (x1 : Int64) (r_ : Int64) (hf : f_M_asSort x0 x1 = r_) : zM l yX12_asSort cX12_asSort 3 (some .long) 0 0 G [.int x0, .long x1] (w_M_asSort G) (some (.long r_)) (w_M_asSort G) := by
  refine zM.of [(0, .int x0), (1, .long x1)] (own := RX12) rfl (by decide +kernel) (Nat.le_of_ble_eq_true rfl) rfl rfl fun X hX F => ?_
  subst hX
  replace hf := (f_M_asSort.eq_1 ..).symm.trans hf
  refine z_iload_n F 0 dX12_asSort_0 rfl rfl ?_
  refine z_if_ne F 11 dX12_asSort_1 (by decide) hf (fun hf _ => ?_) (fun hf _ => ?_)
  · refine z_iload_n F 0 dX12_asSort_11 rfl rfl ?_
    refine z_iconst F (1) dX12_asSort_12 rfl ?_
    refine z_icmp_ne F 23 dX12_asSort_13 (by decide) hf (fun hf _ => ?_) (fun hf _ => ?_)
    · refine z_iload_n F 0 dX12_asSort_23 rfl rfl ?_
      refine z_iconst F (2) dX12_asSort_24 rfl ?_
      refine z_icmp_ne F 34 dX12_asSort_25 (by decide) hf (fun hf _ => ?_) (fun hf _ => ?_)
      · refine z_iload_n F 0 dX12_asSort_34 rfl rfl ?_
        refine z_iconst F (4) dX12_asSort_35 rfl ?_
        refine z_icmp_ne F 53 dX12_asSort_36 (by decide) hf (fun hf _ => ?_) (fun hf _ => ?_)
        · refine z_lload_n F 1 dX12_asSort_53 rfl rfl ?_
          subst hf
          exact z_lret F rfl rfl rfl dX12_asSort_54
        · refine z_lload_n F 1 dX12_asSort_39 rfl rfl ?_
          refine z_lconst F (0) dX12_asSort_40 rfl ?_
          refine z_lcmp F dX12_asSort_41 ?_
          refine z_if_eq F 49 dX12_asSort_42 (by decide) hf (fun hf _ => ?_) (fun hf _ => ?_)
          · refine z_lconst F (0) dX12_asSort_49 rfl ?_
            refine z_goto F 54 dX12_asSort_50 (by decide) ?_
            subst hf
            exact z_lret F rfl rfl rfl dX12_asSort_54
          · refine z_lconst F (1) dX12_asSort_45 rfl ?_
            refine z_goto F 54 dX12_asSort_46 (by decide) ?_
            subst hf
            exact z_lret F rfl rfl rfl dX12_asSort_54
      · refine z_lload_n F 1 dX12_asSort_28 rfl rfl ?_
        refine z_l2i F dX12_asSort_29 ?_
        refine z_i2l F dX12_asSort_30 ?_
        refine z_goto F 54 dX12_asSort_31 (by decide) ?_
        subst hf
        exact z_lret F rfl rfl rfl dX12_asSort_54
    · refine z_lload_n F 1 dX12_asSort_16 rfl rfl ?_
      refine z_l2i F dX12_asSort_17 ?_
      refine z_i2s F dX12_asSort_18 ?_
      refine z_i2l F dX12_asSort_19 ?_
      refine z_goto F 54 dX12_asSort_20 (by decide) ?_
      subst hf
      exact z_lret F rfl rfl rfl dX12_asSort_54
  · refine z_lload_n F 1 dX12_asSort_4 rfl rfl ?_
    refine z_l2i F dX12_asSort_5 ?_
    refine z_i2b F dX12_asSort_6 ?_
    refine z_i2l F dX12_asSort_7 ?_
    refine z_goto F 54 dX12_asSort_8 (by decide) ?_
    subst hf
    exact z_lret F rfl rfl rfl dX12_asSort_54

abbrev w_M_put (G : zG) (a_this : Nat) (a_height : Nat) (a_changeAt : Nat) (a_changeWas : Nat) (a_changeIs : Nat) (a_tape : Nat) (a_text : Nat) (a_names : Nat) (a_line : Nat) (a_row : Nat) (a_pastMany : Nat) (a_past : Nat) (a_changed : Nat) (a_greatest : Nat) (a_numbersWere : Nat) (a_told : Nat) (a_waysOf : Nat) (a_waysWere : Nat) (a_blocks : Nat) (a_ordersOf : Nat) (a_imageLine : Nat) (a_bodyKind : Nat) (a_trace : Nat) (a_shelf : Nat) (a_many : Nat) (a_items : Nat) (a_carried : Nat) (people : Int32) (keptMany : Int32) (done : Int32) (tapeMany : Int32) (textMany : Int32) (base : Int32) (at_ : Int32) (ends : Int32) (fault : Int32) (opened : Int32) (lineMany : Int32) (rowMany : Int32) (taller : Int32) (tallerBy : Int32) (pasts : Int32) (isKept : Int32) (imageMany : Int32) (bodies : Int32) (ran : Int32) (ownKind : Int32) (ownNumber : Int32) (shelf : Nat → Int32) (many : Nat → Int32) (items : Nat → Int64) : va_W := [(a_this, cO 12 [.int people, .ref a_height, .ref a_changeAt, .ref a_changeWas, .ref a_changeIs, .int keptMany, .int done, .ref a_tape, .int tapeMany, .ref a_text, .int textMany, .int base, .int at_, .int ends, .int fault, .int opened, .ref a_names, .ref a_line, .int lineMany, .ref a_row, .int rowMany, .int taller, .int tallerBy, .ref a_pastMany, .ref a_past, .int pasts, .ref a_changed, .ref a_greatest, .ref a_numbersWere, .ref a_told, .ref a_waysOf, .ref a_waysWere, .ref a_blocks, .ref a_ordersOf, .int isKept, .int imageMany, .ref a_imageLine, .int bodies, .ref a_bodyKind, .ref a_trace, .int ran, .int ownKind, .int ownNumber, .ref a_shelf, .ref a_many, .ref a_items, .ref a_carried]), (a_shelf, cI G 6 shelf), (a_many, cI G 6 many), (a_items, cJ G 360 items)]
def f_M_put (shelf : Nat → Int32) (many : Nat → Int32) (items : Nat → Int64) (x1 : Int32) (x2 : Int32) (x3 : Int64) : Option (Int32 × (Nat → Int64)) := (zb1 (f_M_refusal shelf many x1 x2) fun r_1 => (if r_1 = 0 then (zg shelf 6 x1 fun v_3 => (zsJ items 360 (((60 : Int32) * x1) + x2) (f_M_asSort (v_3 - (50 : Int32)) x3) fun items_5 => (if r_1 = 0 then (some (1, items_5)) else (some (r_1, items_5))))) else (if r_1 = 0 then (some (1, items)) else (some (r_1, items)))))
set_option maxRecDepth 100000 in
set_option maxHeartbeats 4000000 in
theorem c_M_put (l : Launch) (G : zG) (a_this : Nat) (a_height : Nat) (a_changeAt : Nat) (a_changeWas : Nat) (a_changeIs : Nat) (a_tape : Nat) (a_text : Nat) (a_names : Nat) (a_line : Nat) (a_row : Nat) (a_pastMany : Nat) (a_past : Nat) (a_changed : Nat) (a_greatest : Nat) (a_numbersWere : Nat) (a_told : Nat) (a_waysOf : Nat) (a_waysWere : Nat) (a_blocks : Nat) (a_ordersOf : Nat) (a_imageLine : Nat) (a_bodyKind : Nat) (a_trace : Nat) (a_shelf : Nat) (a_many : Nat) (a_items : Nat) (a_carried : Nat) (people : Int32) (keptMany : Int32) (done : Int32) (tapeMany : Int32) (textMany : Int32) (base : Int32) (at_ : Int32) (ends : Int32) (fault : Int32) (opened : Int32) (lineMany : Int32) (rowMany : Int32) (taller : Int32) (tallerBy : Int32) (pasts : Int32) (isKept : Int32) (imageMany : Int32) (bodies : Int32) (ran : Int32) (ownKind : Int32) (ownNumber : Int32) (shelf : Nat → Int32) (many : Nat → Int32) (items : Nat → Int64) (x1 : Int32) (x2 : Int32) (x3 : Int64) (r_ : Int32) (o_items : Nat → Int64) (hf : f_M_put shelf many items x1 x2 x3 = some (r_, o_items)) : zM l yX12_put cX12_put 6 (some .int) 3 67 G [.ref a_this, .int x1, .int x2, .long x3] (w_M_put G a_this a_height a_changeAt a_changeWas a_changeIs a_tape a_text a_names a_line a_row a_pastMany a_past a_changed a_greatest a_numbersWere a_told a_waysOf a_waysWere a_blocks a_ordersOf a_imageLine a_bodyKind a_trace a_shelf a_many a_items a_carried people keptMany done tapeMany textMany base at_ ends fault opened lineMany rowMany taller tallerBy pasts isKept imageMany bodies ran ownKind ownNumber shelf many items) (some (.int r_)) (w_M_put G a_this a_height a_changeAt a_changeWas a_changeIs a_tape a_text a_names a_line a_row a_pastMany a_past a_changed a_greatest a_numbersWere a_told a_waysOf a_waysWere a_blocks a_ordersOf a_imageLine a_bodyKind a_trace a_shelf a_many a_items a_carried people keptMany done tapeMany textMany base at_ ends fault opened lineMany rowMany taller tallerBy pasts isKept imageMany bodies ran ownKind ownNumber shelf many o_items) := by
  refine zM.of [(0, .ref a_this), (1, .int x1), (2, .int x2), (3, .long x3)] (own := RX12) rfl (by decide +kernel) (Nat.le_of_ble_eq_true rfl) rfl rfl fun X hX F => ?_
  subst hX
  replace hf := (f_M_put.eq_1 ..).symm.trans hf
  refine z_aload_n F 0 dX12_put_0 rfl rfl ?_
  refine z_iload_n F 1 dX12_put_1 rfl rfl ?_
  refine z_iload_n F 2 dX12_put_2 rfl rfl ?_
  obtain ⟨r_1, hg, hf⟩ := zb1_some hf
  refine z_callVm (rest := []) F 12 (c_M_refusal (xL X) G a_this a_height a_changeAt a_changeWas a_changeIs a_tape a_text a_names a_line a_row a_pastMany a_past a_changed a_greatest a_numbersWere a_told a_waysOf a_waysWere a_blocks a_ordersOf a_imageLine a_bodyKind a_trace a_shelf a_many a_items a_carried people keptMany done tapeMany textMany base at_ ends fault opened lineMany rowMany taller tallerBy pasts isKept imageMany bodies ran ownKind ownNumber shelf many x1 x2 r_1 hg) hy_X12_refusal ml_X12_364 hd_X12_refusal ⟨by omega, by omega⟩ rfl [0, 1, 2] rfl rfl 0 rfl rfl (w_M_put G a_this a_height a_changeAt a_changeWas a_changeIs a_tape a_text a_names a_line a_row a_pastMany a_past a_changed a_greatest a_numbersWere a_told a_waysOf a_waysWere a_blocks a_ordersOf a_imageLine a_bodyKind a_trace a_shelf a_many a_items a_carried people keptMany done tapeMany textMany base at_ ends fault opened lineMany rowMany taller tallerBy pasts isKept imageMany bodies ran ownKind ownNumber shelf many items) [some 0, some 1, some 2, none] rfl (by decide +kernel) rfl rfl (Nat.le_of_ble_eq_true rfl) dX12_put_3 (fun hz_2 => ?_)
  refine z_istore F [(5, .int r_1), (0, .ref a_this), (1, .int x1), (2, .int x2), (3, .long x3)] dX12_put_6 (by decide) rfl ?_
  refine z_iload F 0 dX12_put_8 rfl ?_
  refine z_if_ne F 37 dX12_put_10 (by decide) hf (fun hf _ => ?_) (fun hf _ => ?_)
  · refine z_iload F 0 dX12_put_37 rfl ?_
    refine z_if_ne F 46 dX12_put_39 (by decide) hf (fun hf _ => ?_) (fun hf _ => ?_)
    · refine z_iload F 0 dX12_put_46 rfl ?_
      have eq1 := Option.some.inj hf
      obtain ⟨ee1, ee2⟩ := Prod.mk.inj eq1
      subst ee1
      subst ee2
      exact z_iret F rfl rfl rfl rfl dX12_put_48
    · refine z_iconst F (1) dX12_put_42 rfl ?_
      refine z_goto F 48 dX12_put_43 (by decide) ?_
      have eq1 := Option.some.inj hf
      obtain ⟨ee1, ee2⟩ := Prod.mk.inj eq1
      subst ee1
      subst ee2
      exact z_iret F rfl rfl rfl rfl dX12_put_48
  · refine z_aload_n F 1 dX12_put_13 rfl rfl ?_
    refine z_get F 0 12 45 inlX12 rfl rfl (by decide) fl_X12_82 rfl dX12_put_14 ?_
    refine z_bipush F (60) dX12_put_17 rfl ?_
    refine z_iload_n F 2 dX12_put_19 rfl rfl ?_
    refine z_imul F dX12_put_20 ?_
    refine z_iload_n F 3 dX12_put_21 rfl rfl ?_
    refine z_iadd F dX12_put_22 ?_
    refine z_aload_n F 1 dX12_put_23 rfl rfl ?_
    refine z_get F 0 12 43 inlX12 rfl rfl (by decide) fl_X12_76 rfl dX12_put_24 ?_
    refine z_iload_n F 2 dX12_put_27 rfl rfl ?_
    refine z_iald F 1 rfl hf dX12_put_28 (fun v_3 hf => ?_)
    refine z_bipush F (50) dX12_put_29 rfl ?_
    refine z_isub F dX12_put_31 ?_
    refine z_lload_n F 4 dX12_put_32 rfl rfl ?_
    refine z_callSm (rest := [.int (((60 : Int32) * x1) + x2), .ref a_items]) F (c_M_asSort (xL X) G (v_3 - (50 : Int32)) x3 _ rfl) hy_X12_asSort ml_X12_367 hd_X12_asSort ⟨by omega, by omega⟩ rfl [] rfl rfl (w_M_put G a_this a_height a_changeAt a_changeWas a_changeIs a_tape a_text a_names a_line a_row a_pastMany a_past a_changed a_greatest a_numbersWere a_told a_waysOf a_waysWere a_blocks a_ordersOf a_imageLine a_bodyKind a_trace a_shelf a_many a_items a_carried people keptMany done tapeMany textMany base at_ ends fault opened lineMany rowMany taller tallerBy pasts isKept imageMany bodies ran ownKind ownNumber shelf many items) [none, none, none, none] rfl (by decide +kernel) rfl rfl (Nat.le_of_ble_eq_true rfl) dX12_put_33 (fun hz_4 => ?_)
    refine z_last F 3 (fun items_5 => (w_M_put G a_this a_height a_changeAt a_changeWas a_changeIs a_tape a_text a_names a_line a_row a_pastMany a_past a_changed a_greatest a_numbersWere a_told a_waysOf a_waysWere a_blocks a_ordersOf a_imageLine a_bodyKind a_trace a_shelf a_many a_items a_carried people keptMany done tapeMany textMany base at_ ends fault opened lineMany rowMany taller tallerBy pasts isKept imageMany bodies ran ownKind ownNumber shelf many items_5)) rfl hf (fun _ => rfl) dX12_put_36 (fun items_5 hf => ?_)
    refine z_iload F 0 dX12_put_37 rfl ?_
    refine z_if_ne F 46 dX12_put_39 (by decide) hf (fun hf _ => ?_) (fun hf _ => ?_)
    · refine z_iload F 0 dX12_put_46 rfl ?_
      have eq1 := Option.some.inj hf
      obtain ⟨ee1, ee2⟩ := Prod.mk.inj eq1
      subst ee1
      subst ee2
      exact z_iret F rfl rfl rfl rfl dX12_put_48
    · refine z_iconst F (1) dX12_put_42 rfl ?_
      refine z_goto F 48 dX12_put_43 (by decide) ?_
      have eq1 := Option.some.inj hf
      obtain ⟨ee1, ee2⟩ := Prod.mk.inj eq1
      subst ee1
      subst ee2
      exact z_iret F rfl rfl rfl rfl dX12_put_48

abbrev w_M_element (G : zG) (a_this : Nat) (a_height : Nat) (a_changeAt : Nat) (a_changeWas : Nat) (a_changeIs : Nat) (a_tape : Nat) (a_text : Nat) (a_names : Nat) (a_line : Nat) (a_row : Nat) (a_pastMany : Nat) (a_past : Nat) (a_changed : Nat) (a_greatest : Nat) (a_numbersWere : Nat) (a_told : Nat) (a_waysOf : Nat) (a_waysWere : Nat) (a_blocks : Nat) (a_ordersOf : Nat) (a_imageLine : Nat) (a_bodyKind : Nat) (a_trace : Nat) (a_shelf : Nat) (a_many : Nat) (a_items : Nat) (a_carried : Nat) (people : Int32) (keptMany : Int32) (done : Int32) (tapeMany : Int32) (textMany : Int32) (base : Int32) (at_ : Int32) (ends : Int32) (fault : Int32) (opened : Int32) (lineMany : Int32) (rowMany : Int32) (taller : Int32) (tallerBy : Int32) (pasts : Int32) (isKept : Int32) (imageMany : Int32) (bodies : Int32) (ran : Int32) (ownKind : Int32) (ownNumber : Int32) (shelf : Nat → Int32) (many : Nat → Int32) (items : Nat → Int64) : va_W := [(a_this, cO 12 [.int people, .ref a_height, .ref a_changeAt, .ref a_changeWas, .ref a_changeIs, .int keptMany, .int done, .ref a_tape, .int tapeMany, .ref a_text, .int textMany, .int base, .int at_, .int ends, .int fault, .int opened, .ref a_names, .ref a_line, .int lineMany, .ref a_row, .int rowMany, .int taller, .int tallerBy, .ref a_pastMany, .ref a_past, .int pasts, .ref a_changed, .ref a_greatest, .ref a_numbersWere, .ref a_told, .ref a_waysOf, .ref a_waysWere, .ref a_blocks, .ref a_ordersOf, .int isKept, .int imageMany, .ref a_imageLine, .int bodies, .ref a_bodyKind, .ref a_trace, .int ran, .int ownKind, .int ownNumber, .ref a_shelf, .ref a_many, .ref a_items, .ref a_carried]), (a_shelf, cI G 6 shelf), (a_many, cI G 6 many), (a_items, cJ G 360 items)]
def f_M_element (shelf : Nat → Int32) (many : Nat → Int32) (items : Nat → Int64) (x1 : Int32) (x2 : Int32) : Option Int64 := (zb1 (f_M_refusal shelf many x1 x2) fun r_1 => (if r_1 = 0 then (zg items 360 (((60 : Int32) * x1) + x2) fun v_3 => (some v_3)) else (some (-9223372036854775808))))
set_option maxRecDepth 100000 in
set_option maxHeartbeats 4000000 in
theorem c_M_element (l : Launch) (G : zG) (a_this : Nat) (a_height : Nat) (a_changeAt : Nat) (a_changeWas : Nat) (a_changeIs : Nat) (a_tape : Nat) (a_text : Nat) (a_names : Nat) (a_line : Nat) (a_row : Nat) (a_pastMany : Nat) (a_past : Nat) (a_changed : Nat) (a_greatest : Nat) (a_numbersWere : Nat) (a_told : Nat) (a_waysOf : Nat) (a_waysWere : Nat) (a_blocks : Nat) (a_ordersOf : Nat) (a_imageLine : Nat) (a_bodyKind : Nat) (a_trace : Nat) (a_shelf : Nat) (a_many : Nat) (a_items : Nat) (a_carried : Nat) (people : Int32) (keptMany : Int32) (done : Int32) (tapeMany : Int32) (textMany : Int32) (base : Int32) (at_ : Int32) (ends : Int32) (fault : Int32) (opened : Int32) (lineMany : Int32) (rowMany : Int32) (taller : Int32) (tallerBy : Int32) (pasts : Int32) (isKept : Int32) (imageMany : Int32) (bodies : Int32) (ran : Int32) (ownKind : Int32) (ownNumber : Int32) (shelf : Nat → Int32) (many : Nat → Int32) (items : Nat → Int64) (x1 : Int32) (x2 : Int32) (r_ : Int64) (hf : f_M_element shelf many items x1 x2 = some r_) : zM l yX12_element cX12_element 3 (some .long) 3 67 G [.ref a_this, .int x1, .int x2] (w_M_element G a_this a_height a_changeAt a_changeWas a_changeIs a_tape a_text a_names a_line a_row a_pastMany a_past a_changed a_greatest a_numbersWere a_told a_waysOf a_waysWere a_blocks a_ordersOf a_imageLine a_bodyKind a_trace a_shelf a_many a_items a_carried people keptMany done tapeMany textMany base at_ ends fault opened lineMany rowMany taller tallerBy pasts isKept imageMany bodies ran ownKind ownNumber shelf many items) (some (.long r_)) (w_M_element G a_this a_height a_changeAt a_changeWas a_changeIs a_tape a_text a_names a_line a_row a_pastMany a_past a_changed a_greatest a_numbersWere a_told a_waysOf a_waysWere a_blocks a_ordersOf a_imageLine a_bodyKind a_trace a_shelf a_many a_items a_carried people keptMany done tapeMany textMany base at_ ends fault opened lineMany rowMany taller tallerBy pasts isKept imageMany bodies ran ownKind ownNumber shelf many items) := by
  refine zM.of [(0, .ref a_this), (1, .int x1), (2, .int x2)] (own := RX12) rfl (by decide +kernel) (Nat.le_of_ble_eq_true rfl) rfl rfl fun X hX F => ?_
  subst hX
  replace hf := (f_M_element.eq_1 ..).symm.trans hf
  refine z_aload_n F 0 dX12_element_0 rfl rfl ?_
  refine z_iload_n F 1 dX12_element_1 rfl rfl ?_
  refine z_iload_n F 2 dX12_element_2 rfl rfl ?_
  obtain ⟨r_1, hg, hf⟩ := zb1_some hf
  refine z_callVm (rest := []) F 12 (c_M_refusal (xL X) G a_this a_height a_changeAt a_changeWas a_changeIs a_tape a_text a_names a_line a_row a_pastMany a_past a_changed a_greatest a_numbersWere a_told a_waysOf a_waysWere a_blocks a_ordersOf a_imageLine a_bodyKind a_trace a_shelf a_many a_items a_carried people keptMany done tapeMany textMany base at_ ends fault opened lineMany rowMany taller tallerBy pasts isKept imageMany bodies ran ownKind ownNumber shelf many x1 x2 r_1 hg) hy_X12_refusal ml_X12_364 hd_X12_refusal ⟨by omega, by omega⟩ rfl [0, 1, 2] rfl rfl 0 rfl rfl (w_M_element G a_this a_height a_changeAt a_changeWas a_changeIs a_tape a_text a_names a_line a_row a_pastMany a_past a_changed a_greatest a_numbersWere a_told a_waysOf a_waysWere a_blocks a_ordersOf a_imageLine a_bodyKind a_trace a_shelf a_many a_items a_carried people keptMany done tapeMany textMany base at_ ends fault opened lineMany rowMany taller tallerBy pasts isKept imageMany bodies ran ownKind ownNumber shelf many items) [some 0, some 1, some 2, none] rfl (by decide +kernel) rfl rfl (Nat.le_of_ble_eq_true rfl) dX12_element_3 (fun hz_2 => ?_)
  refine z_if_eq F 15 dX12_element_6 (by decide) hf (fun hf _ => ?_) (fun hf _ => ?_)
  · refine z_aload_n F 0 dX12_element_15 rfl rfl ?_
    refine z_get F 0 12 45 inlX12 rfl rfl (by decide) fl_X12_82 rfl dX12_element_16 ?_
    refine z_bipush F (60) dX12_element_19 rfl ?_
    refine z_iload_n F 1 dX12_element_21 rfl rfl ?_
    refine z_imul F dX12_element_22 ?_
    refine z_iload_n F 2 dX12_element_23 rfl rfl ?_
    refine z_iadd F dX12_element_24 ?_
    refine z_lald F 3 rfl hf dX12_element_25 (fun v_3 hf => ?_)
    have ee1 := Option.some.inj hf
    subst ee1
    exact z_lret F rfl rfl rfl dX12_element_26
  · refine z_ldc2 F (-9223372036854775808) (uw57 _ (List.mem_of_getElem? (i := 0) rfl)) dX12_element_9 ?_
    refine z_goto F 26 dX12_element_12 (by decide) ?_
    have ee1 := Option.some.inj hf
    subst ee1
    exact z_lret F rfl rfl rfl dX12_element_26

abbrev w_M_shift (G : zG) (a_this : Nat) (a_height : Nat) (a_changeAt : Nat) (a_changeWas : Nat) (a_changeIs : Nat) (a_tape : Nat) (a_text : Nat) (a_names : Nat) (a_line : Nat) (a_row : Nat) (a_pastMany : Nat) (a_past : Nat) (a_changed : Nat) (a_greatest : Nat) (a_numbersWere : Nat) (a_told : Nat) (a_waysOf : Nat) (a_waysWere : Nat) (a_blocks : Nat) (a_ordersOf : Nat) (a_imageLine : Nat) (a_bodyKind : Nat) (a_trace : Nat) (a_shelf : Nat) (a_many : Nat) (a_items : Nat) (a_carried : Nat) (people : Int32) (keptMany : Int32) (done : Int32) (tapeMany : Int32) (textMany : Int32) (base : Int32) (at_ : Int32) (ends : Int32) (fault : Int32) (opened : Int32) (lineMany : Int32) (rowMany : Int32) (taller : Int32) (tallerBy : Int32) (pasts : Int32) (isKept : Int32) (imageMany : Int32) (bodies : Int32) (ran : Int32) (ownKind : Int32) (ownNumber : Int32) (shelf : Nat → Int32) (many : Nat → Int32) (items : Nat → Int64) (carried : Nat → Int64) : va_W := [(a_this, cO 12 [.int people, .ref a_height, .ref a_changeAt, .ref a_changeWas, .ref a_changeIs, .int keptMany, .int done, .ref a_tape, .int tapeMany, .ref a_text, .int textMany, .int base, .int at_, .int ends, .int fault, .int opened, .ref a_names, .ref a_line, .int lineMany, .ref a_row, .int rowMany, .int taller, .int tallerBy, .ref a_pastMany, .ref a_past, .int pasts, .ref a_changed, .ref a_greatest, .ref a_numbersWere, .ref a_told, .ref a_waysOf, .ref a_waysWere, .ref a_blocks, .ref a_ordersOf, .int isKept, .int imageMany, .ref a_imageLine, .int bodies, .ref a_bodyKind, .ref a_trace, .int ran, .int ownKind, .int ownNumber, .ref a_shelf, .ref a_many, .ref a_items, .ref a_carried]), (a_shelf, cI G 6 shelf), (a_many, cI G 6 many), (a_items, cJ G 360 items), (a_carried, cJ G 60 carried)]
def f_M_shift_L113 (items : Nat → Int64) (v1 : Int32) (v2 : Int32) (v5 : Int32) : Nat → (Nat → Int64) → Int32 → Option ((Nat → Int64))
  | 0, _, _ => none
  | fuel + 1, carried, v6 => (if v5 ≤ v6 then (some carried) else (zg items 360 ((((60 : Int32) * v1) + v2) + v6) fun v_10 => (zsJ carried 60 v6 v_10 fun carried_11 => (f_M_shift_L113 items v1 v2 v5 fuel carried_11 (v6 + 1)))))
def f_M_shift_L150 (carried : Nat → Int64) (v3 : Int32) (v4 : Int32) (v5 : Int32) : Nat → (Nat → Int64) → Int32 → Option ((Nat → Int64))
  | 0, _, _ => none
  | fuel + 1, items, v6 => (if v5 ≤ v6 then (some items) else (zg carried 60 v6 fun v_13 => (zsJ items 360 ((((60 : Int32) * v3) + v4) + v6) v_13 fun items_14 => (f_M_shift_L150 carried v3 v4 v5 fuel items_14 (v6 + 1)))))
def f_M_shift (shelf : Nat → Int32) (many : Nat → Int32) (items : Nat → Int64) (carried : Nat → Int64) (x1 : Int32) (x2 : Int32) (x3 : Int32) (x4 : Int32) (x5 : Int32) : Option (Int32 × (Nat → Int64) × (Nat → Int64)) := (if (f_M_isShelf x1) = 0 then (some ((-1), items, carried)) else (if (f_M_isShelf x3) = 0 then (some ((-1), items, carried)) else (zg shelf 6 x1 fun v_3 => (if v_3 < 0 then (some ((-11), items, carried)) else (zg shelf 6 x3 fun v_4 => (if (0 : Int32) ≤ v_4 then (zg shelf 6 x1 fun v_5 => (if v_5 < 50 then (some ((-12), items, carried)) else (zg shelf 6 x1 fun v_6 => (zg shelf 6 x3 fun v_7 => (if v_6 = v_7 then (if x5 < 0 then (some ((-13), items, carried)) else (if x2 < 0 then (some ((-13), items, carried)) else (if x4 < 0 then (some ((-13), items, carried)) else (zg many 6 x1 fun v_8 => (if (v_8 - x5) < x2 then (some ((-13), items, carried)) else (zg many 6 x3 fun v_9 => (if x4 ≤ (v_9 - x5) then (zb1 (f_M_shift_L113 items x1 x2 x5 FU carried 0) fun carried_12 => (zb1 (f_M_shift_L150 carried_12 x3 x4 x5 FU items 0) fun items_15 => (some (x5, items_15, carried_12)))) else (some ((-13), items, carried))))))))) else (some ((-12), items, carried))))))) else (some ((-11), items, carried))))))))
set_option maxRecDepth 100000 in
set_option maxHeartbeats 4000000 in
theorem l_M_shift_113 {X : zX} (G : zG) (a_this : Nat) (a_height : Nat) (a_changeAt : Nat) (a_changeWas : Nat) (a_changeIs : Nat) (a_tape : Nat) (a_text : Nat) (a_names : Nat) (a_line : Nat) (a_row : Nat) (a_pastMany : Nat) (a_past : Nat) (a_changed : Nat) (a_greatest : Nat) (a_numbersWere : Nat) (a_told : Nat) (a_waysOf : Nat) (a_waysWere : Nat) (a_blocks : Nat) (a_ordersOf : Nat) (a_imageLine : Nat) (a_bodyKind : Nat) (a_trace : Nat) (a_shelf : Nat) (a_many : Nat) (a_items : Nat) (a_carried : Nat) (people : Int32) (keptMany : Int32) (done : Int32) (tapeMany : Int32) (textMany : Int32) (base : Int32) (at_ : Int32) (ends : Int32) (fault : Int32) (opened : Int32) (lineMany : Int32) (rowMany : Int32) (taller : Int32) (tallerBy : Int32) (pasts : Int32) (isKept : Int32) (imageMany : Int32) (bodies : Int32) (ran : Int32) (ownKind : Int32) (ownNumber : Int32) (shelf : Nat → Int32) (many : Nat → Int32) (items : Nat → Int64) (v1 : Int32) (v2 : Int32) (v3 : Int32) (v4 : Int32) (v5 : Int32) {v0 : Option Value} {w0 : va_W} (F : zF X G cX12_shift RX12 7 (some .int) 2 45 v0 w0) (e_carried : Nat → Int64) (hk : Z X G 7 (w_M_shift G a_this a_height a_changeAt a_changeWas a_changeIs a_tape a_text a_names a_line a_row a_pastMany a_past a_changed a_greatest a_numbersWere a_told a_waysOf a_waysWere a_blocks a_ordersOf a_imageLine a_bodyKind a_trace a_shelf a_many a_items a_carried people keptMany done tapeMany textMany base at_ ends fault opened lineMany rowMany taller tallerBy pasts isKept imageMany bodies ran ownKind ownNumber shelf many items e_carried) [(0, .ref a_this), (3, .int v3), (4, .int v4), (5, .int v5)] 147 []) :
    ∀ (fuel : Nat) (carried : Nat → Int64) (v6 : Int32), f_M_shift_L113 items v1 v2 v5 fuel carried v6 = some e_carried → Z X G 7 (w_M_shift G a_this a_height a_changeAt a_changeWas a_changeIs a_tape a_text a_names a_line a_row a_pastMany a_past a_changed a_greatest a_numbersWere a_told a_waysOf a_waysWere a_blocks a_ordersOf a_imageLine a_bodyKind a_trace a_shelf a_many a_items a_carried people keptMany done tapeMany textMany base at_ ends fault opened lineMany rowMany taller tallerBy pasts isKept imageMany bodies ran ownKind ownNumber shelf many items carried) [(0, .ref a_this), (1, .int v1), (2, .int v2), (3, .int v3), (4, .int v4), (5, .int v5), (6, .int v6)] 113 [] := by
  intro fuel
  induction fuel with
  | zero => intro carried v6 hf; exact absurd ((f_M_shift_L113.eq_1 ..).symm.trans hf) (fun h => by cases h)
  | succ fuel ih =>
    intro carried v6 hf
    replace hf := (f_M_shift_L113.eq_2 ..).symm.trans hf
    refine z_iload F 6 dX12_shift_113 rfl ?_
    refine z_iload F 5 dX12_shift_115 rfl ?_
    refine z_icmp_ge F 147 dX12_shift_117 (by decide) hf (fun hf _ => ?_) (fun hf _ => ?_)
    · have ee1 := Option.some.inj hf
      subst ee1
      exact z_sub [0, 3, 4, 5] rfl hk
    · refine z_aload_n F 0 dX12_shift_120 rfl rfl ?_
      refine z_get F 0 12 46 inlX12 rfl rfl (by decide) fl_X12_86 rfl dX12_shift_121 ?_
      refine z_iload F 6 dX12_shift_124 rfl ?_
      refine z_aload_n F 0 dX12_shift_126 rfl rfl ?_
      refine z_get F 0 12 45 inlX12 rfl rfl (by decide) fl_X12_82 rfl dX12_shift_127 ?_
      refine z_bipush F (60) dX12_shift_130 rfl ?_
      refine z_iload_n F 1 dX12_shift_132 rfl rfl ?_
      refine z_imul F dX12_shift_133 ?_
      refine z_iload_n F 2 dX12_shift_134 rfl rfl ?_
      refine z_iadd F dX12_shift_135 ?_
      refine z_iload F 6 dX12_shift_136 rfl ?_
      refine z_iadd F dX12_shift_138 ?_
      refine z_lald F 3 rfl hf dX12_shift_139 (fun v_10 hf => ?_)
      refine z_last F 4 (fun carried_11 => (w_M_shift G a_this a_height a_changeAt a_changeWas a_changeIs a_tape a_text a_names a_line a_row a_pastMany a_past a_changed a_greatest a_numbersWere a_told a_waysOf a_waysWere a_blocks a_ordersOf a_imageLine a_bodyKind a_trace a_shelf a_many a_items a_carried people keptMany done tapeMany textMany base at_ ends fault opened lineMany rowMany taller tallerBy pasts isKept imageMany bodies ran ownKind ownNumber shelf many items carried_11)) rfl hf (fun _ => rfl) dX12_shift_140 (fun carried_11 hf => ?_)
      refine z_iinc F [(6, .int (v6 + 1)), (0, .ref a_this), (1, .int v1), (2, .int v2), (3, .int v3), (4, .int v4), (5, .int v5)] dX12_shift_141 6 rfl rfl (by decide) rfl ?_
      refine z_goto F 113 dX12_shift_144 (by decide) ?_
      exact z_sub [1, 2, 3, 4, 5, 6, 0] rfl (ih carried_11 (v6 + 1) hf)

set_option maxRecDepth 100000 in
set_option maxHeartbeats 4000000 in
theorem l_M_shift_150 {X : zX} (G : zG) (a_this : Nat) (a_height : Nat) (a_changeAt : Nat) (a_changeWas : Nat) (a_changeIs : Nat) (a_tape : Nat) (a_text : Nat) (a_names : Nat) (a_line : Nat) (a_row : Nat) (a_pastMany : Nat) (a_past : Nat) (a_changed : Nat) (a_greatest : Nat) (a_numbersWere : Nat) (a_told : Nat) (a_waysOf : Nat) (a_waysWere : Nat) (a_blocks : Nat) (a_ordersOf : Nat) (a_imageLine : Nat) (a_bodyKind : Nat) (a_trace : Nat) (a_shelf : Nat) (a_many : Nat) (a_items : Nat) (a_carried : Nat) (people : Int32) (keptMany : Int32) (done : Int32) (tapeMany : Int32) (textMany : Int32) (base : Int32) (at_ : Int32) (ends : Int32) (fault : Int32) (opened : Int32) (lineMany : Int32) (rowMany : Int32) (taller : Int32) (tallerBy : Int32) (pasts : Int32) (isKept : Int32) (imageMany : Int32) (bodies : Int32) (ran : Int32) (ownKind : Int32) (ownNumber : Int32) (shelf : Nat → Int32) (many : Nat → Int32) (carried : Nat → Int64) (v3 : Int32) (v4 : Int32) (v5 : Int32) {v0 : Option Value} {w0 : va_W} (F : zF X G cX12_shift RX12 7 (some .int) 2 45 v0 w0) (e_items : Nat → Int64) (hk : Z X G 7 (w_M_shift G a_this a_height a_changeAt a_changeWas a_changeIs a_tape a_text a_names a_line a_row a_pastMany a_past a_changed a_greatest a_numbersWere a_told a_waysOf a_waysWere a_blocks a_ordersOf a_imageLine a_bodyKind a_trace a_shelf a_many a_items a_carried people keptMany done tapeMany textMany base at_ ends fault opened lineMany rowMany taller tallerBy pasts isKept imageMany bodies ran ownKind ownNumber shelf many e_items carried) [(5, .int v5)] 185 []) :
    ∀ (fuel : Nat) (items : Nat → Int64) (v6 : Int32), f_M_shift_L150 carried v3 v4 v5 fuel items v6 = some e_items → Z X G 7 (w_M_shift G a_this a_height a_changeAt a_changeWas a_changeIs a_tape a_text a_names a_line a_row a_pastMany a_past a_changed a_greatest a_numbersWere a_told a_waysOf a_waysWere a_blocks a_ordersOf a_imageLine a_bodyKind a_trace a_shelf a_many a_items a_carried people keptMany done tapeMany textMany base at_ ends fault opened lineMany rowMany taller tallerBy pasts isKept imageMany bodies ran ownKind ownNumber shelf many items carried) [(0, .ref a_this), (3, .int v3), (4, .int v4), (5, .int v5), (6, .int v6)] 150 [] := by
  intro fuel
  induction fuel with
  | zero => intro items v6 hf; exact absurd ((f_M_shift_L150.eq_1 ..).symm.trans hf) (fun h => by cases h)
  | succ fuel ih =>
    intro items v6 hf
    replace hf := (f_M_shift_L150.eq_2 ..).symm.trans hf
    refine z_iload F 4 dX12_shift_150 rfl ?_
    refine z_iload F 3 dX12_shift_152 rfl ?_
    refine z_icmp_ge F 185 dX12_shift_154 (by decide) hf (fun hf _ => ?_) (fun hf _ => ?_)
    · have ee1 := Option.some.inj hf
      subst ee1
      exact z_sub [3] rfl hk
    · refine z_aload_n F 0 dX12_shift_157 rfl rfl ?_
      refine z_get F 0 12 45 inlX12 rfl rfl (by decide) fl_X12_82 rfl dX12_shift_158 ?_
      refine z_bipush F (60) dX12_shift_161 rfl ?_
      refine z_iload_n F 1 dX12_shift_163 rfl rfl ?_
      refine z_imul F dX12_shift_164 ?_
      refine z_iload F 2 dX12_shift_165 rfl ?_
      refine z_iadd F dX12_shift_167 ?_
      refine z_iload F 4 dX12_shift_168 rfl ?_
      refine z_iadd F dX12_shift_170 ?_
      refine z_aload_n F 0 dX12_shift_171 rfl rfl ?_
      refine z_get F 0 12 46 inlX12 rfl rfl (by decide) fl_X12_86 rfl dX12_shift_172 ?_
      refine z_iload F 4 dX12_shift_175 rfl ?_
      refine z_lald F 4 rfl hf dX12_shift_177 (fun v_13 hf => ?_)
      refine z_last F 3 (fun items_14 => (w_M_shift G a_this a_height a_changeAt a_changeWas a_changeIs a_tape a_text a_names a_line a_row a_pastMany a_past a_changed a_greatest a_numbersWere a_told a_waysOf a_waysWere a_blocks a_ordersOf a_imageLine a_bodyKind a_trace a_shelf a_many a_items a_carried people keptMany done tapeMany textMany base at_ ends fault opened lineMany rowMany taller tallerBy pasts isKept imageMany bodies ran ownKind ownNumber shelf many items_14 carried)) rfl hf (fun _ => rfl) dX12_shift_178 (fun items_14 hf => ?_)
      refine z_iinc F [(6, .int (v6 + 1)), (0, .ref a_this), (3, .int v3), (4, .int v4), (5, .int v5)] dX12_shift_179 4 rfl rfl (by decide) rfl ?_
      refine z_goto F 150 dX12_shift_182 (by decide) ?_
      exact z_sub [1, 2, 3, 4, 0] rfl (ih items_14 (v6 + 1) hf)

set_option maxRecDepth 100000 in
set_option maxHeartbeats 4000000 in
theorem c_M_shift (l : Launch) (G : zG) (a_this : Nat) (a_height : Nat) (a_changeAt : Nat) (a_changeWas : Nat) (a_changeIs : Nat) (a_tape : Nat) (a_text : Nat) (a_names : Nat) (a_line : Nat) (a_row : Nat) (a_pastMany : Nat) (a_past : Nat) (a_changed : Nat) (a_greatest : Nat) (a_numbersWere : Nat) (a_told : Nat) (a_waysOf : Nat) (a_waysWere : Nat) (a_blocks : Nat) (a_ordersOf : Nat) (a_imageLine : Nat) (a_bodyKind : Nat) (a_trace : Nat) (a_shelf : Nat) (a_many : Nat) (a_items : Nat) (a_carried : Nat) (people : Int32) (keptMany : Int32) (done : Int32) (tapeMany : Int32) (textMany : Int32) (base : Int32) (at_ : Int32) (ends : Int32) (fault : Int32) (opened : Int32) (lineMany : Int32) (rowMany : Int32) (taller : Int32) (tallerBy : Int32) (pasts : Int32) (isKept : Int32) (imageMany : Int32) (bodies : Int32) (ran : Int32) (ownKind : Int32) (ownNumber : Int32) (shelf : Nat → Int32) (many : Nat → Int32) (items : Nat → Int64) (carried : Nat → Int64) (x1 : Int32) (x2 : Int32) (x3 : Int32) (x4 : Int32) (x5 : Int32) (r_ : Int32) (o_items : Nat → Int64) (o_carried : Nat → Int64) (hf : f_M_shift shelf many items carried x1 x2 x3 x4 x5 = some (r_, o_items, o_carried)) : zM l yX12_shift cX12_shift 7 (some .int) 2 45 G [.ref a_this, .int x1, .int x2, .int x3, .int x4, .int x5] (w_M_shift G a_this a_height a_changeAt a_changeWas a_changeIs a_tape a_text a_names a_line a_row a_pastMany a_past a_changed a_greatest a_numbersWere a_told a_waysOf a_waysWere a_blocks a_ordersOf a_imageLine a_bodyKind a_trace a_shelf a_many a_items a_carried people keptMany done tapeMany textMany base at_ ends fault opened lineMany rowMany taller tallerBy pasts isKept imageMany bodies ran ownKind ownNumber shelf many items carried) (some (.int r_)) (w_M_shift G a_this a_height a_changeAt a_changeWas a_changeIs a_tape a_text a_names a_line a_row a_pastMany a_past a_changed a_greatest a_numbersWere a_told a_waysOf a_waysWere a_blocks a_ordersOf a_imageLine a_bodyKind a_trace a_shelf a_many a_items a_carried people keptMany done tapeMany textMany base at_ ends fault opened lineMany rowMany taller tallerBy pasts isKept imageMany bodies ran ownKind ownNumber shelf many o_items o_carried) := by
  refine zM.of [(0, .ref a_this), (1, .int x1), (2, .int x2), (3, .int x3), (4, .int x4), (5, .int x5)] (own := RX12) rfl (by decide +kernel) (Nat.le_of_ble_eq_true rfl) rfl rfl fun X hX F => ?_
  subst hX
  replace hf := (f_M_shift.eq_1 ..).symm.trans hf
  refine z_iload_n F 1 dX12_shift_0 rfl rfl ?_
  refine z_callSm (rest := []) F (c_M_isShelf (xL X) G x1 _ rfl) hy_X12_isShelf ml_X12_113 hd_X12_isShelf ⟨by omega, by omega⟩ rfl [] rfl rfl (w_M_shift G a_this a_height a_changeAt a_changeWas a_changeIs a_tape a_text a_names a_line a_row a_pastMany a_past a_changed a_greatest a_numbersWere a_told a_waysOf a_waysWere a_blocks a_ordersOf a_imageLine a_bodyKind a_trace a_shelf a_many a_items a_carried people keptMany done tapeMany textMany base at_ ends fault opened lineMany rowMany taller tallerBy pasts isKept imageMany bodies ran ownKind ownNumber shelf many items carried) [none, none, none, none, none] rfl (by decide +kernel) rfl rfl (Nat.le_of_ble_eq_true rfl) dX12_shift_1 (fun hz_1 => ?_)
  refine z_if_eq F 14 dX12_shift_4 (by decide) hf (fun hf _ => ?_) (fun hf _ => ?_)
  · refine z_iconst F (-1) dX12_shift_14 rfl ?_
    have eq1 := Option.some.inj hf
    obtain ⟨ee1, eq2⟩ := Prod.mk.inj eq1
    obtain ⟨ee2, ee3⟩ := Prod.mk.inj eq2
    subst ee1
    subst ee2
    subst ee3
    exact z_iret F rfl rfl rfl rfl dX12_shift_15
  · refine z_iload_n F 3 dX12_shift_7 rfl rfl ?_
    refine z_callSm (rest := []) F (c_M_isShelf (xL X) G x3 _ rfl) hy_X12_isShelf ml_X12_113 hd_X12_isShelf ⟨by omega, by omega⟩ rfl [] rfl rfl (w_M_shift G a_this a_height a_changeAt a_changeWas a_changeIs a_tape a_text a_names a_line a_row a_pastMany a_past a_changed a_greatest a_numbersWere a_told a_waysOf a_waysWere a_blocks a_ordersOf a_imageLine a_bodyKind a_trace a_shelf a_many a_items a_carried people keptMany done tapeMany textMany base at_ ends fault opened lineMany rowMany taller tallerBy pasts isKept imageMany bodies ran ownKind ownNumber shelf many items carried) [none, none, none, none, none] rfl (by decide +kernel) rfl rfl (Nat.le_of_ble_eq_true rfl) dX12_shift_8 (fun hz_2 => ?_)
    refine z_if_ne F 16 dX12_shift_11 (by decide) hf (fun hf _ => ?_) (fun hf _ => ?_)
    · refine z_aload_n F 0 dX12_shift_16 rfl rfl ?_
      refine z_get F 0 12 43 inlX12 rfl rfl (by decide) fl_X12_76 rfl dX12_shift_17 ?_
      refine z_iload_n F 1 dX12_shift_20 rfl rfl ?_
      refine z_iald F 1 rfl hf dX12_shift_21 (fun v_3 hf => ?_)
      refine z_if_lt F 34 dX12_shift_22 (by decide) hf (fun hf _ => ?_) (fun hf _ => ?_)
      · refine z_bipush F (-11) dX12_shift_34 rfl ?_
        have eq1 := Option.some.inj hf
        obtain ⟨ee1, eq2⟩ := Prod.mk.inj eq1
        obtain ⟨ee2, ee3⟩ := Prod.mk.inj eq2
        subst ee1
        subst ee2
        subst ee3
        exact z_iret F rfl rfl rfl rfl dX12_shift_36
      · refine z_aload_n F 0 dX12_shift_25 rfl rfl ?_
        refine z_get F 0 12 43 inlX12 rfl rfl (by decide) fl_X12_76 rfl dX12_shift_26 ?_
        refine z_iload_n F 3 dX12_shift_29 rfl rfl ?_
        refine z_iald F 1 rfl hf dX12_shift_30 (fun v_4 hf => ?_)
        refine z_if_ge F 37 dX12_shift_31 (by decide) hf (fun hf _ => ?_) (fun hf _ => ?_)
        · refine z_aload_n F 0 dX12_shift_37 rfl rfl ?_
          refine z_get F 0 12 43 inlX12 rfl rfl (by decide) fl_X12_76 rfl dX12_shift_38 ?_
          refine z_iload_n F 1 dX12_shift_41 rfl rfl ?_
          refine z_iald F 1 rfl hf dX12_shift_42 (fun v_5 hf => ?_)
          refine z_bipush F (50) dX12_shift_43 rfl ?_
          refine z_icmp_lt F 63 dX12_shift_45 (by decide) hf (fun hf _ => ?_) (fun hf _ => ?_)
          · refine z_bipush F (-12) dX12_shift_63 rfl ?_
            have eq1 := Option.some.inj hf
            obtain ⟨ee1, eq2⟩ := Prod.mk.inj eq1
            obtain ⟨ee2, ee3⟩ := Prod.mk.inj eq2
            subst ee1
            subst ee2
            subst ee3
            exact z_iret F rfl rfl rfl rfl dX12_shift_65
          · refine z_aload_n F 0 dX12_shift_48 rfl rfl ?_
            refine z_get F 0 12 43 inlX12 rfl rfl (by decide) fl_X12_76 rfl dX12_shift_49 ?_
            refine z_iload_n F 1 dX12_shift_52 rfl rfl ?_
            refine z_iald F 1 rfl hf dX12_shift_53 (fun v_6 hf => ?_)
            refine z_aload_n F 0 dX12_shift_54 rfl rfl ?_
            refine z_get F 0 12 43 inlX12 rfl rfl (by decide) fl_X12_76 rfl dX12_shift_55 ?_
            refine z_iload_n F 3 dX12_shift_58 rfl rfl ?_
            refine z_iald F 1 rfl hf dX12_shift_59 (fun v_7 hf => ?_)
            refine z_icmp_eq F 66 dX12_shift_60 (by decide) hf (fun hf _ => ?_) (fun hf _ => ?_)
            · refine z_iload F 5 dX12_shift_66 rfl ?_
              refine z_if_lt F 107 dX12_shift_68 (by decide) hf (fun hf _ => ?_) (fun hf _ => ?_)
              · refine z_bipush F (-13) dX12_shift_107 rfl ?_
                have eq1 := Option.some.inj hf
                obtain ⟨ee1, eq2⟩ := Prod.mk.inj eq1
                obtain ⟨ee2, ee3⟩ := Prod.mk.inj eq2
                subst ee1
                subst ee2
                subst ee3
                exact z_iret F rfl rfl rfl rfl dX12_shift_109
              · refine z_iload_n F 2 dX12_shift_71 rfl rfl ?_
                refine z_if_lt F 107 dX12_shift_72 (by decide) hf (fun hf _ => ?_) (fun hf _ => ?_)
                · refine z_bipush F (-13) dX12_shift_107 rfl ?_
                  have eq1 := Option.some.inj hf
                  obtain ⟨ee1, eq2⟩ := Prod.mk.inj eq1
                  obtain ⟨ee2, ee3⟩ := Prod.mk.inj eq2
                  subst ee1
                  subst ee2
                  subst ee3
                  exact z_iret F rfl rfl rfl rfl dX12_shift_109
                · refine z_iload F 4 dX12_shift_75 rfl ?_
                  refine z_if_lt F 107 dX12_shift_77 (by decide) hf (fun hf _ => ?_) (fun hf _ => ?_)
                  · refine z_bipush F (-13) dX12_shift_107 rfl ?_
                    have eq1 := Option.some.inj hf
                    obtain ⟨ee1, eq2⟩ := Prod.mk.inj eq1
                    obtain ⟨ee2, ee3⟩ := Prod.mk.inj eq2
                    subst ee1
                    subst ee2
                    subst ee3
                    exact z_iret F rfl rfl rfl rfl dX12_shift_109
                  · refine z_iload_n F 2 dX12_shift_80 rfl rfl ?_
                    refine z_aload_n F 0 dX12_shift_81 rfl rfl ?_
                    refine z_get F 0 12 44 inlX12 rfl rfl (by decide) fl_X12_79 rfl dX12_shift_82 ?_
                    refine z_iload_n F 1 dX12_shift_85 rfl rfl ?_
                    refine z_iald F 2 rfl hf dX12_shift_86 (fun v_8 hf => ?_)
                    refine z_iload F 5 dX12_shift_87 rfl ?_
                    refine z_isub F dX12_shift_89 ?_
                    refine z_icmp_gt F 107 dX12_shift_90 (by decide) hf (fun hf _ => ?_) (fun hf _ => ?_)
                    · refine z_bipush F (-13) dX12_shift_107 rfl ?_
                      have eq1 := Option.some.inj hf
                      obtain ⟨ee1, eq2⟩ := Prod.mk.inj eq1
                      obtain ⟨ee2, ee3⟩ := Prod.mk.inj eq2
                      subst ee1
                      subst ee2
                      subst ee3
                      exact z_iret F rfl rfl rfl rfl dX12_shift_109
                    · refine z_iload F 4 dX12_shift_93 rfl ?_
                      refine z_aload_n F 0 dX12_shift_95 rfl rfl ?_
                      refine z_get F 0 12 44 inlX12 rfl rfl (by decide) fl_X12_79 rfl dX12_shift_96 ?_
                      refine z_iload_n F 3 dX12_shift_99 rfl rfl ?_
                      refine z_iald F 2 rfl hf dX12_shift_100 (fun v_9 hf => ?_)
                      refine z_iload F 5 dX12_shift_101 rfl ?_
                      refine z_isub F dX12_shift_103 ?_
                      refine z_icmp_le F 110 dX12_shift_104 (by decide) hf (fun hf _ => ?_) (fun hf _ => ?_)
                      · refine z_iconst F (0) dX12_shift_110 rfl ?_
                        refine z_istore F [(6, .int 0), (0, .ref a_this), (1, .int x1), (2, .int x2), (3, .int x3), (4, .int x4), (5, .int x5)] dX12_shift_111 (by decide) rfl ?_
                        obtain ⟨carried_12, hg, hf⟩ := zb1_some hf
                        refine z_sub [1, 2, 3, 4, 5, 6, 0] rfl ?_
                        refine l_M_shift_113 G a_this a_height a_changeAt a_changeWas a_changeIs a_tape a_text a_names a_line a_row a_pastMany a_past a_changed a_greatest a_numbersWere a_told a_waysOf a_waysWere a_blocks a_ordersOf a_imageLine a_bodyKind a_trace a_shelf a_many a_items a_carried people keptMany done tapeMany textMany base at_ ends fault opened lineMany rowMany taller tallerBy pasts isKept imageMany bodies ran ownKind ownNumber shelf many items x1 x2 x3 x4 x5 F carried_12 ?_ FU carried 0 hg
                        refine z_iconst F (0) dX12_shift_147 rfl ?_
                        refine z_istore F [(6, .int 0), (0, .ref a_this), (3, .int x3), (4, .int x4), (5, .int x5)] dX12_shift_148 (by decide) rfl ?_
                        obtain ⟨items_15, hg, hf⟩ := zb1_some hf
                        refine z_sub [1, 2, 3, 4, 0] rfl ?_
                        refine l_M_shift_150 G a_this a_height a_changeAt a_changeWas a_changeIs a_tape a_text a_names a_line a_row a_pastMany a_past a_changed a_greatest a_numbersWere a_told a_waysOf a_waysWere a_blocks a_ordersOf a_imageLine a_bodyKind a_trace a_shelf a_many a_items a_carried people keptMany done tapeMany textMany base at_ ends fault opened lineMany rowMany taller tallerBy pasts isKept imageMany bodies ran ownKind ownNumber shelf many carried_12 x3 x4 x5 F items_15 ?_ FU items 0 hg
                        refine z_iload F 0 dX12_shift_185 rfl ?_
                        have eq1 := Option.some.inj hf
                        obtain ⟨ee1, eq2⟩ := Prod.mk.inj eq1
                        obtain ⟨ee2, ee3⟩ := Prod.mk.inj eq2
                        subst ee1
                        subst ee2
                        subst ee3
                        exact z_iret F rfl rfl rfl rfl dX12_shift_187
                      · refine z_bipush F (-13) dX12_shift_107 rfl ?_
                        have eq1 := Option.some.inj hf
                        obtain ⟨ee1, eq2⟩ := Prod.mk.inj eq1
                        obtain ⟨ee2, ee3⟩ := Prod.mk.inj eq2
                        subst ee1
                        subst ee2
                        subst ee3
                        exact z_iret F rfl rfl rfl rfl dX12_shift_109
            · refine z_bipush F (-12) dX12_shift_63 rfl ?_
              have eq1 := Option.some.inj hf
              obtain ⟨ee1, eq2⟩ := Prod.mk.inj eq1
              obtain ⟨ee2, ee3⟩ := Prod.mk.inj eq2
              subst ee1
              subst ee2
              subst ee3
              exact z_iret F rfl rfl rfl rfl dX12_shift_65
        · refine z_bipush F (-11) dX12_shift_34 rfl ?_
          have eq1 := Option.some.inj hf
          obtain ⟨ee1, eq2⟩ := Prod.mk.inj eq1
          obtain ⟨ee2, ee3⟩ := Prod.mk.inj eq2
          subst ee1
          subst ee2
          subst ee3
          exact z_iret F rfl rfl rfl rfl dX12_shift_36
    · refine z_iconst F (-1) dX12_shift_14 rfl ?_
      have eq1 := Option.some.inj hf
      obtain ⟨ee1, eq2⟩ := Prod.mk.inj eq1
      obtain ⟨ee2, ee3⟩ := Prod.mk.inj eq2
      subst ee1
      subst ee2
      subst ee3
      exact z_iret F rfl rfl rfl rfl dX12_shift_15

