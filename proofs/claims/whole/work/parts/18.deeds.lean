/-! by program (wip/whole/gen.py): pure functions and contracts -/
theorem dX2_isLed_0 : decode cX2_isLed 0 = .ok (.iload_n 0, 1) := by decide +kernel
theorem dX2_isLed_1 : decode cX2_isLed 1 = .ok (.ifCond .lt 13, 3) := by decide +kernel
theorem dX2_isLed_4 : decode cX2_isLed 4 = .ok (.iload_n 0, 1) := by decide +kernel
theorem dX2_isLed_5 : decode cX2_isLed 5 = .ok (.bipush 9, 2) := by decide +kernel
theorem dX2_isLed_7 : decode cX2_isLed 7 = .ok (.if_icmp .ge 7, 3) := by decide +kernel
theorem dX2_isLed_10 : decode cX2_isLed 10 = .ok (.iconst 1, 1) := by decide +kernel
theorem dX2_isLed_11 : decode cX2_isLed 11 = .ok (.goto 4, 3) := by decide +kernel
theorem dX2_isLed_14 : decode cX2_isLed 14 = .ok (.iconst 0, 1) := by decide +kernel
theorem dX2_isLed_15 : decode cX2_isLed 15 = .ok (.ireturn, 1) := by decide +kernel
theorem dX2_changesOf_0 : decode cX2_changesOf 0 = .ok (.iload_n 1, 1) := by decide +kernel
theorem dX2_changesOf_1 : decode cX2_changesOf 1 = .ok (.invokestatic 60, 3) := by decide +kernel
theorem dX2_changesOf_4 : decode cX2_changesOf 4 = .ok (.ifCond .eq 12, 3) := by decide +kernel
theorem dX2_changesOf_7 : decode cX2_changesOf 7 = .ok (.aload_n 0, 1) := by decide +kernel
theorem dX2_changesOf_8 : decode cX2_changesOf 8 = .ok (.getfield 26, 3) := by decide +kernel
theorem dX2_changesOf_11 : decode cX2_changesOf 11 = .ok (.iload_n 1, 1) := by decide +kernel
theorem dX2_changesOf_12 : decode cX2_changesOf 12 = .ok (.iaload, 1) := by decide +kernel
theorem dX2_changesOf_13 : decode cX2_changesOf 13 = .ok (.goto 4, 3) := by decide +kernel
theorem dX2_changesOf_16 : decode cX2_changesOf 16 = .ok (.iconst 0, 1) := by decide +kernel
theorem dX2_changesOf_17 : decode cX2_changesOf 17 = .ok (.ireturn, 1) := by decide +kernel
theorem dX2_greatestOf_0 : decode cX2_greatestOf 0 = .ok (.iload_n 1, 1) := by decide +kernel
theorem dX2_greatestOf_1 : decode cX2_greatestOf 1 = .ok (.invokestatic 60, 3) := by decide +kernel
theorem dX2_greatestOf_4 : decode cX2_greatestOf 4 = .ok (.ifCond .eq 12, 3) := by decide +kernel
theorem dX2_greatestOf_7 : decode cX2_greatestOf 7 = .ok (.aload_n 0, 1) := by decide +kernel
theorem dX2_greatestOf_8 : decode cX2_greatestOf 8 = .ok (.getfield 29, 3) := by decide +kernel
theorem dX2_greatestOf_11 : decode cX2_greatestOf 11 = .ok (.iload_n 1, 1) := by decide +kernel
theorem dX2_greatestOf_12 : decode cX2_greatestOf 12 = .ok (.iaload, 1) := by decide +kernel
theorem dX2_greatestOf_13 : decode cX2_greatestOf 13 = .ok (.goto 4, 3) := by decide +kernel
theorem dX2_greatestOf_16 : decode cX2_greatestOf 16 = .ok (.iconst 0, 1) := by decide +kernel
theorem dX2_greatestOf_17 : decode cX2_greatestOf 17 = .ok (.ireturn, 1) := by decide +kernel
theorem dX2_lineAhead_0 : decode cX2_lineAhead 0 = .ok (.aload_n 0, 1) := by decide +kernel
theorem dX2_lineAhead_1 : decode cX2_lineAhead 1 = .ok (.getfield 17, 3) := by decide +kernel
theorem dX2_lineAhead_4 : decode cX2_lineAhead 4 = .ok (.aload_n 0, 1) := by decide +kernel
theorem dX2_lineAhead_5 : decode cX2_lineAhead 5 = .ok (.getfield 36, 3) := by decide +kernel
theorem dX2_lineAhead_8 : decode cX2_lineAhead 8 = .ok (.aload_n 0, 1) := by decide +kernel
theorem dX2_lineAhead_9 : decode cX2_lineAhead 9 = .ok (.getfield 32, 3) := by decide +kernel
theorem dX2_lineAhead_12 : decode cX2_lineAhead 12 = .ok (.iadd, 1) := by decide +kernel
theorem dX2_lineAhead_13 : decode cX2_lineAhead 13 = .ok (.iload_n 1, 1) := by decide +kernel
theorem dX2_lineAhead_14 : decode cX2_lineAhead 14 = .ok (.isub, 1) := by decide +kernel
theorem dX2_lineAhead_15 : decode cX2_lineAhead 15 = .ok (.bipush 12, 2) := by decide +kernel
theorem dX2_lineAhead_17 : decode cX2_lineAhead 17 = .ok (.invokestatic 76, 3) := by decide +kernel
theorem dX2_lineAhead_20 : decode cX2_lineAhead 20 = .ok (.aaload, 1) := by decide +kernel
theorem dX2_lineAhead_21 : decode cX2_lineAhead 21 = .ok (.areturn, 1) := by decide +kernel
theorem dX2_begin_0 : decode cX2_begin 0 = .ok (.aload_n 0, 1) := by decide +kernel
theorem dX2_begin_1 : decode cX2_begin 1 = .ok (.getfield 32, 3) := by decide +kernel
theorem dX2_begin_4 : decode cX2_begin 4 = .ok (.bipush 12, 2) := by decide +kernel
theorem dX2_begin_6 : decode cX2_begin 6 = .ok (.if_icmp .ne 19, 3) := by decide +kernel
theorem dX2_begin_9 : decode cX2_begin 9 = .ok (.aload_n 0, 1) := by decide +kernel
theorem dX2_begin_10 : decode cX2_begin 10 = .ok (.aload_n 0, 1) := by decide +kernel
theorem dX2_begin_11 : decode cX2_begin 11 = .ok (.getfield 36, 3) := by decide +kernel
theorem dX2_begin_14 : decode cX2_begin 14 = .ok (.iconst 1, 1) := by decide +kernel
theorem dX2_begin_15 : decode cX2_begin 15 = .ok (.iadd, 1) := by decide +kernel
theorem dX2_begin_16 : decode cX2_begin 16 = .ok (.bipush 12, 2) := by decide +kernel
theorem dX2_begin_18 : decode cX2_begin 18 = .ok (.irem, 1) := by decide +kernel
theorem dX2_begin_19 : decode cX2_begin 19 = .ok (.putfield 36, 3) := by decide +kernel
theorem dX2_begin_22 : decode cX2_begin 22 = .ok (.goto 13, 3) := by decide +kernel
theorem dX2_begin_25 : decode cX2_begin 25 = .ok (.aload_n 0, 1) := by decide +kernel
theorem dX2_begin_26 : decode cX2_begin 26 = .ok (.dup, 1) := by decide +kernel
theorem dX2_begin_27 : decode cX2_begin 27 = .ok (.getfield 32, 3) := by decide +kernel
theorem dX2_begin_30 : decode cX2_begin 30 = .ok (.iconst 1, 1) := by decide +kernel
theorem dX2_begin_31 : decode cX2_begin 31 = .ok (.iadd, 1) := by decide +kernel
theorem dX2_begin_32 : decode cX2_begin 32 = .ok (.putfield 32, 3) := by decide +kernel
theorem dX2_begin_35 : decode cX2_begin 35 = .ok (.aload_n 0, 1) := by decide +kernel
theorem dX2_begin_36 : decode cX2_begin 36 = .ok (.iconst 1, 1) := by decide +kernel
theorem dX2_begin_37 : decode cX2_begin 37 = .ok (.invokevirtual 39, 3) := by decide +kernel
theorem dX2_begin_40 : decode cX2_begin 40 = .ok (.aload_n 1, 1) := by decide +kernel
theorem dX2_begin_41 : decode cX2_begin 41 = .ok (.invokevirtual 43, 3) := by decide +kernel
theorem dX2_begin_44 : decode cX2_begin 44 = .ok (.aload_n 0, 1) := by decide +kernel
theorem dX2_begin_45 : decode cX2_begin 45 = .ok (.getfield 22, 3) := by decide +kernel
theorem dX2_begin_48 : decode cX2_begin 48 = .ok (.bipush (-2), 2) := by decide +kernel
theorem dX2_begin_50 : decode cX2_begin 50 = .ok (.invokestatic 47, 3) := by decide +kernel
theorem dX2_begin_53 : decode cX2_begin 53 = .ok (.iconst 0, 1) := by decide +kernel
theorem dX2_begin_54 : decode cX2_begin 54 = .ok (.istore_n 2, 1) := by decide +kernel
theorem dX2_begin_55 : decode cX2_begin 55 = .ok (.iload_n 2, 1) := by decide +kernel
theorem dX2_begin_56 : decode cX2_begin 56 = .ok (.aload_n 1, 1) := by decide +kernel
theorem dX2_begin_57 : decode cX2_begin 57 = .ok (.invokevirtual 53, 3) := by decide +kernel
theorem dX2_begin_60 : decode cX2_begin 60 = .ok (.if_icmp .ge 37, 3) := by decide +kernel
theorem dX2_begin_63 : decode cX2_begin 63 = .ok (.aload_n 1, 1) := by decide +kernel
theorem dX2_begin_64 : decode cX2_begin 64 = .ok (.iload_n 2, 1) := by decide +kernel
theorem dX2_begin_65 : decode cX2_begin 65 = .ok (.invokevirtual 56, 3) := by decide +kernel
theorem dX2_begin_68 : decode cX2_begin 68 = .ok (.istore_n 3, 1) := by decide +kernel
theorem dX2_begin_69 : decode cX2_begin 69 = .ok (.iload_n 3, 1) := by decide +kernel
theorem dX2_begin_70 : decode cX2_begin 70 = .ok (.invokestatic 60, 3) := by decide +kernel
theorem dX2_begin_73 : decode cX2_begin 73 = .ok (.ifCond .eq 18, 3) := by decide +kernel
theorem dX2_begin_76 : decode cX2_begin 76 = .ok (.aload_n 0, 1) := by decide +kernel
theorem dX2_begin_77 : decode cX2_begin 77 = .ok (.getfield 22, 3) := by decide +kernel
theorem dX2_begin_80 : decode cX2_begin 80 = .ok (.iload_n 3, 1) := by decide +kernel
theorem dX2_begin_81 : decode cX2_begin 81 = .ok (.aload_n 0, 1) := by decide +kernel
theorem dX2_begin_82 : decode cX2_begin 82 = .ok (.getfield 9, 3) := by decide +kernel
theorem dX2_begin_85 : decode cX2_begin 85 = .ok (.aload_n 1, 1) := by decide +kernel
theorem dX2_begin_86 : decode cX2_begin 86 = .ok (.iload_n 2, 1) := by decide +kernel
theorem dX2_begin_87 : decode cX2_begin 87 = .ok (.invokevirtual 64, 3) := by decide +kernel
theorem dX2_begin_90 : decode cX2_begin 90 = .ok (.iastore, 1) := by decide +kernel
theorem dX2_begin_91 : decode cX2_begin 91 = .ok (.iinc 2 1, 3) := by decide +kernel
theorem dX2_begin_94 : decode cX2_begin 94 = .ok (.goto (-39), 3) := by decide +kernel
theorem dX2_begin_97 : decode cX2_begin 97 = .ok (.return_, 1) := by decide +kernel
theorem dX2_end_0 : decode cX2_end 0 = .ok (.iconst 0, 1) := by decide +kernel
theorem dX2_end_1 : decode cX2_end 1 = .ok (.istore_n 2, 1) := by decide +kernel
theorem dX2_end_2 : decode cX2_end 2 = .ok (.iload_n 2, 1) := by decide +kernel
theorem dX2_end_3 : decode cX2_end 3 = .ok (.aload_n 1, 1) := by decide +kernel
theorem dX2_end_4 : decode cX2_end 4 = .ok (.invokevirtual 53, 3) := by decide +kernel
theorem dX2_end_7 : decode cX2_end 7 = .ok (.if_icmp .ge 85, 3) := by decide +kernel
theorem dX2_end_10 : decode cX2_end 10 = .ok (.aload_n 1, 1) := by decide +kernel
theorem dX2_end_11 : decode cX2_end 11 = .ok (.iload_n 2, 1) := by decide +kernel
theorem dX2_end_12 : decode cX2_end 12 = .ok (.invokevirtual 56, 3) := by decide +kernel
theorem dX2_end_15 : decode cX2_end 15 = .ok (.istore_n 3, 1) := by decide +kernel
theorem dX2_end_16 : decode cX2_end 16 = .ok (.iload_n 3, 1) := by decide +kernel
theorem dX2_end_17 : decode cX2_end 17 = .ok (.invokestatic 60, 3) := by decide +kernel
theorem dX2_end_20 : decode cX2_end 20 = .ok (.ifCond .ne 6, 3) := by decide +kernel
theorem dX2_end_23 : decode cX2_end 23 = .ok (.goto 63, 3) := by decide +kernel
theorem dX2_end_26 : decode cX2_end 26 = .ok (.aload_n 0, 1) := by decide +kernel
theorem dX2_end_27 : decode cX2_end 27 = .ok (.getfield 9, 3) := by decide +kernel
theorem dX2_end_30 : decode cX2_end 30 = .ok (.aload_n 1, 1) := by decide +kernel
theorem dX2_end_31 : decode cX2_end 31 = .ok (.iload_n 2, 1) := by decide +kernel
theorem dX2_end_32 : decode cX2_end 32 = .ok (.invokevirtual 64, 3) := by decide +kernel
theorem dX2_end_35 : decode cX2_end 35 = .ok (.istore 4, 2) := by decide +kernel
theorem dX2_end_37 : decode cX2_end 37 = .ok (.aload_n 0, 1) := by decide +kernel
theorem dX2_end_38 : decode cX2_end 38 = .ok (.getfield 22, 3) := by decide +kernel
theorem dX2_end_41 : decode cX2_end 41 = .ok (.iload_n 3, 1) := by decide +kernel
theorem dX2_end_42 : decode cX2_end 42 = .ok (.iaload, 1) := by decide +kernel
theorem dX2_end_43 : decode cX2_end 43 = .ok (.bipush (-2), 2) := by decide +kernel
theorem dX2_end_45 : decode cX2_end 45 = .ok (.if_icmp .eq 24, 3) := by decide +kernel
theorem dX2_end_48 : decode cX2_end 48 = .ok (.aload_n 0, 1) := by decide +kernel
theorem dX2_end_49 : decode cX2_end 49 = .ok (.getfield 22, 3) := by decide +kernel
theorem dX2_end_52 : decode cX2_end 52 = .ok (.iload_n 3, 1) := by decide +kernel
theorem dX2_end_53 : decode cX2_end 53 = .ok (.iaload, 1) := by decide +kernel
theorem dX2_end_54 : decode cX2_end 54 = .ok (.iload 4, 2) := by decide +kernel
theorem dX2_end_56 : decode cX2_end 56 = .ok (.if_icmp .eq 13, 3) := by decide +kernel
theorem dX2_end_59 : decode cX2_end 59 = .ok (.aload_n 0, 1) := by decide +kernel
theorem dX2_end_60 : decode cX2_end 60 = .ok (.getfield 26, 3) := by decide +kernel
theorem dX2_end_63 : decode cX2_end 63 = .ok (.iload_n 3, 1) := by decide +kernel
theorem dX2_end_64 : decode cX2_end 64 = .ok (.dup2, 1) := by decide +kernel
theorem dX2_end_65 : decode cX2_end 65 = .ok (.iaload, 1) := by decide +kernel
theorem dX2_end_66 : decode cX2_end 66 = .ok (.iconst 1, 1) := by decide +kernel
theorem dX2_end_67 : decode cX2_end 67 = .ok (.iadd, 1) := by decide +kernel
theorem dX2_end_68 : decode cX2_end 68 = .ok (.iastore, 1) := by decide +kernel
theorem dX2_end_69 : decode cX2_end 69 = .ok (.aload_n 0, 1) := by decide +kernel
theorem dX2_end_70 : decode cX2_end 70 = .ok (.getfield 29, 3) := by decide +kernel
theorem dX2_end_73 : decode cX2_end 73 = .ok (.iload_n 3, 1) := by decide +kernel
theorem dX2_end_74 : decode cX2_end 74 = .ok (.aload_n 0, 1) := by decide +kernel
theorem dX2_end_75 : decode cX2_end 75 = .ok (.getfield 29, 3) := by decide +kernel
theorem dX2_end_78 : decode cX2_end 78 = .ok (.iload_n 3, 1) := by decide +kernel
theorem dX2_end_79 : decode cX2_end 79 = .ok (.iaload, 1) := by decide +kernel
theorem dX2_end_80 : decode cX2_end 80 = .ok (.iload 4, 2) := by decide +kernel
theorem dX2_end_82 : decode cX2_end 82 = .ok (.invokestatic 70, 3) := by decide +kernel
theorem dX2_end_85 : decode cX2_end 85 = .ok (.iastore, 1) := by decide +kernel
theorem dX2_end_86 : decode cX2_end 86 = .ok (.iinc 2 1, 3) := by decide +kernel
theorem dX2_end_89 : decode cX2_end 89 = .ok (.goto (-87), 3) := by decide +kernel
theorem dX2_end_92 : decode cX2_end 92 = .ok (.return_, 1) := by decide +kernel
theorem dX2_isKept_0 : decode cX2_isKept 0 = .ok (.iload_n 1, 1) := by decide +kernel
theorem dX2_isKept_1 : decode cX2_isKept 1 = .ok (.iconst 1, 1) := by decide +kernel
theorem dX2_isKept_2 : decode cX2_isKept 2 = .ok (.if_icmp .lt 15, 3) := by decide +kernel
theorem dX2_isKept_5 : decode cX2_isKept 5 = .ok (.iload_n 1, 1) := by decide +kernel
theorem dX2_isKept_6 : decode cX2_isKept 6 = .ok (.aload_n 0, 1) := by decide +kernel
theorem dX2_isKept_7 : decode cX2_isKept 7 = .ok (.getfield 32, 3) := by decide +kernel
theorem dX2_isKept_10 : decode cX2_isKept 10 = .ok (.if_icmp .gt 7, 3) := by decide +kernel
theorem dX2_isKept_13 : decode cX2_isKept 13 = .ok (.iconst 1, 1) := by decide +kernel
theorem dX2_isKept_14 : decode cX2_isKept 14 = .ok (.goto 4, 3) := by decide +kernel
theorem dX2_isKept_17 : decode cX2_isKept 17 = .ok (.iconst 0, 1) := by decide +kernel
theorem dX2_isKept_18 : decode cX2_isKept 18 = .ok (.ireturn, 1) := by decide +kernel
theorem dX2_forget_0 : decode cX2_forget 0 = .ok (.aload_n 0, 1) := by decide +kernel
theorem dX2_forget_1 : decode cX2_forget 1 = .ok (.iload_n 1, 1) := by decide +kernel
theorem dX2_forget_2 : decode cX2_forget 2 = .ok (.invokevirtual 79, 3) := by decide +kernel
theorem dX2_forget_5 : decode cX2_forget 5 = .ok (.ifCond .eq 13, 3) := by decide +kernel
theorem dX2_forget_8 : decode cX2_forget 8 = .ok (.aload_n 0, 1) := by decide +kernel
theorem dX2_forget_9 : decode cX2_forget 9 = .ok (.dup, 1) := by decide +kernel
theorem dX2_forget_10 : decode cX2_forget 10 = .ok (.getfield 32, 3) := by decide +kernel
theorem dX2_forget_13 : decode cX2_forget 13 = .ok (.iload_n 1, 1) := by decide +kernel
theorem dX2_forget_14 : decode cX2_forget 14 = .ok (.isub, 1) := by decide +kernel
theorem dX2_forget_15 : decode cX2_forget 15 = .ok (.putfield 32, 3) := by decide +kernel
theorem dX2_forget_18 : decode cX2_forget 18 = .ok (.return_, 1) := by decide +kernel
theorem dX2_size_0 : decode cX2_size 0 = .ok (.aload_n 0, 1) := by decide +kernel
theorem dX2_size_1 : decode cX2_size 1 = .ok (.getfield 32, 3) := by decide +kernel
theorem dX2_size_4 : decode cX2_size 4 = .ok (.ireturn, 1) := by decide +kernel
theorem fl_X2_17 : Cond.fieldLink RX2 17 (TX2 1).1 (TX2 1).2.1 (TX2 1).2.2.1 ∈ wsL_law := (uw5 _ (List.mem_of_getElem? (i := 0) rfl))
theorem fl_X2_22 : Cond.fieldLink RX2 22 (TX2 4).1 (TX2 4).2.1 (TX2 4).2.2.1 ∈ wsL_law := (uw5 _ (List.mem_of_getElem? (i := 1) rfl))
theorem fl_X2_26 : Cond.fieldLink RX2 26 (TX2 5).1 (TX2 5).2.1 (TX2 5).2.2.1 ∈ wsL_law := (uw5 _ (List.mem_of_getElem? (i := 2) rfl))
theorem fl_X2_29 : Cond.fieldLink RX2 29 (TX2 6).1 (TX2 6).2.1 (TX2 6).2.2.1 ∈ wsL_law := (uw5 _ (List.mem_of_getElem? (i := 3) rfl))
theorem fl_X2_32 : Cond.fieldLink RX2 32 (TX2 3).1 (TX2 3).2.1 (TX2 3).2.2.1 ∈ wsL_law := (uw27 _ (List.mem_of_getElem? (i := 23) rfl))
theorem fl_X2_36 : Cond.fieldLink RX2 36 (TX2 2).1 (TX2 2).2.1 (TX2 2).2.2.1 ∈ wsL_law := (uw28 _ (List.mem_of_getElem? (i := 0) rfl))
theorem fl_X2_9 : Cond.fieldLink RX2 9 (TX2 0).1 (TX2 0).2.1 (TX2 0).2.2.1 ∈ wsL_law := (uw4 _ (List.mem_of_getElem? (i := 22) rfl))
theorem hy_J7_fill_53178 : Cond.code yJ7_fill_53178 cJ7_fill_53178 4 none ∈ wsL_law ∧ Cond.initialized yJ7_fill_53178.cls ∈ wsL_law ∧ Cond.static yJ7_fill_53178 ∈ wsL_law := ⟨(uw6 _ (List.mem_of_getElem? (i := 1) rfl)), (uw6 _ (List.mem_of_getElem? (i := 0) rfl)), (uw5 _ (List.mem_of_getElem? (i := 23) rfl))⟩
theorem hd_J7_fill_53178 : yJ7_fill_53178.cls ≠ "java/lang/invoke/MethodHandle" ∧ yJ7_fill_53178.cls ≠ "java/lang/invoke/VarHandle" ∧ (parseMethodDescriptor yJ7_fill_53178.desc).map (fun d => d.parameters.length) = some 2 := ⟨by decide +kernel, by decide +kernel, by decide +kernel⟩
theorem hy_J9_floorMod_7cf53 : Cond.code yJ9_floorMod_7cf53 cJ9_floorMod_7cf53 3 (some .int) ∈ wsL_law ∧ Cond.initialized yJ9_floorMod_7cf53.cls ∈ wsL_law ∧ Cond.static yJ9_floorMod_7cf53 ∈ wsL_law := ⟨(uw28 _ (List.mem_of_getElem? (i := 8) rfl)), (uw28 _ (List.mem_of_getElem? (i := 7) rfl)), (uw28 _ (List.mem_of_getElem? (i := 6) rfl))⟩
theorem hd_J9_floorMod_7cf53 : yJ9_floorMod_7cf53.cls ≠ "java/lang/invoke/MethodHandle" ∧ yJ9_floorMod_7cf53.cls ≠ "java/lang/invoke/VarHandle" ∧ (parseMethodDescriptor yJ9_floorMod_7cf53.desc).map (fun d => d.parameters.length) = some 2 := ⟨by decide +kernel, by decide +kernel, by decide +kernel⟩
theorem hy_X2_isKept : Cond.code yX2_isKept cX2_isKept 2 (some .boolean) ∈ wsL_law ∧ Cond.initialized yX2_isKept.cls ∈ wsL_law ∧ Cond.instanceMethod yX2_isKept ∈ wsL_law ∧ Cond.selects yX2_isKept.cls yX2_isKept yX2_isKept ∈ wsL_law := ⟨(uw35 _ (List.mem_of_getElem? (i := 13) rfl)), (uw2 _ (List.mem_of_getElem? (i := 7) rfl)), (uw35 _ (List.mem_of_getElem? (i := 11) rfl)), (uw35 _ (List.mem_of_getElem? (i := 12) rfl))⟩
theorem hd_X2_isKept : yX2_isKept.cls ≠ "java/lang/invoke/MethodHandle" ∧ yX2_isKept.cls ≠ "java/lang/invoke/VarHandle" ∧ (parseMethodDescriptor yX2_isKept.desc).map (fun d => d.parameters.length) = some 1 := ⟨by decide +kernel, by decide +kernel, by decide +kernel⟩
theorem hy_X2_isLed : Cond.code yX2_isLed cX2_isLed 1 (some .boolean) ∈ wsL_law ∧ Cond.initialized yX2_isLed.cls ∈ wsL_law ∧ Cond.static yX2_isLed ∈ wsL_law := ⟨(uw17 _ (List.mem_of_getElem? (i := 9) rfl)), (uw2 _ (List.mem_of_getElem? (i := 7) rfl)), (uw17 _ (List.mem_of_getElem? (i := 8) rfl))⟩
theorem hd_X2_isLed : yX2_isLed.cls ≠ "java/lang/invoke/MethodHandle" ∧ yX2_isLed.cls ≠ "java/lang/invoke/VarHandle" ∧ (parseMethodDescriptor yX2_isLed.desc).map (fun d => d.parameters.length) = some 1 := ⟨by decide +kernel, by decide +kernel, by decide +kernel⟩
theorem hy_X2_lineAhead : Cond.code yX2_lineAhead cX2_lineAhead 2 (some (.object "TallerAhead$Line")) ∈ wsL_law ∧ Cond.initialized yX2_lineAhead.cls ∈ wsL_law ∧ Cond.instanceMethod yX2_lineAhead ∈ wsL_law ∧ Cond.selects yX2_lineAhead.cls yX2_lineAhead yX2_lineAhead ∈ wsL_law := ⟨(uw28 _ (List.mem_of_getElem? (i := 4) rfl)), (uw2 _ (List.mem_of_getElem? (i := 7) rfl)), (uw28 _ (List.mem_of_getElem? (i := 2) rfl)), (uw28 _ (List.mem_of_getElem? (i := 3) rfl))⟩
theorem hd_X2_lineAhead : yX2_lineAhead.cls ≠ "java/lang/invoke/MethodHandle" ∧ yX2_lineAhead.cls ≠ "java/lang/invoke/VarHandle" ∧ (parseMethodDescriptor yX2_lineAhead.desc).map (fun d => d.parameters.length) = some 1 := ⟨by decide +kernel, by decide +kernel, by decide +kernel⟩
theorem hy_X7_copyFrom : Cond.code yX7_copyFrom cX7_copyFrom 2 none ∈ wsL_law ∧ Cond.initialized yX7_copyFrom.cls ∈ wsL_law ∧ Cond.instanceMethod yX7_copyFrom ∈ wsL_law ∧ Cond.selects yX7_copyFrom.cls yX7_copyFrom yX7_copyFrom ∈ wsL_law := ⟨(uw28 _ (List.mem_of_getElem? (i := 12) rfl)), (uw1 _ (List.mem_of_getElem? (i := 19) rfl)), (uw28 _ (List.mem_of_getElem? (i := 10) rfl)), (uw28 _ (List.mem_of_getElem? (i := 11) rfl))⟩
theorem hd_X7_copyFrom : yX7_copyFrom.cls ≠ "java/lang/invoke/MethodHandle" ∧ yX7_copyFrom.cls ≠ "java/lang/invoke/VarHandle" ∧ (parseMethodDescriptor yX7_copyFrom.desc).map (fun d => d.parameters.length) = some 1 := ⟨by decide +kernel, by decide +kernel, by decide +kernel⟩
theorem ml_X2_39 : Cond.methodLink RX2 39 yX2_lineAhead ∈ wsL_law := (uw28 _ (List.mem_of_getElem? (i := 1) rfl))
theorem ml_X2_43 : Cond.methodLink RX2 43 yX7_copyFrom ∈ wsL_law := (uw28 _ (List.mem_of_getElem? (i := 9) rfl))
theorem ml_X2_47 : Cond.methodLink RX2 47 yJ7_fill_53178 ∈ wsL_law := (uw28 _ (List.mem_of_getElem? (i := 14) rfl))
theorem ml_X2_53 : Cond.methodLink RX2 53 yX7_size ∈ wsL_law := (uw28 _ (List.mem_of_getElem? (i := 15) rfl))
theorem ml_X2_56 : Cond.methodLink RX2 56 yX7_at ∈ wsL_law := (uw28 _ (List.mem_of_getElem? (i := 16) rfl))
theorem ml_X2_60 : Cond.methodLink RX2 60 yX2_isLed ∈ wsL_law := (uw17 _ (List.mem_of_getElem? (i := 7) rfl))
theorem ml_X2_64 : Cond.methodLink RX2 64 yX4_numberAt ∈ wsL_law := (uw28 _ (List.mem_of_getElem? (i := 17) rfl))
theorem ml_X2_76 : Cond.methodLink RX2 76 yJ9_floorMod_7cf53 ∈ wsL_law := (uw28 _ (List.mem_of_getElem? (i := 5) rfl))
theorem ml_X2_79 : Cond.methodLink RX2 79 yX2_isKept ∈ wsL_law := (uw36 _ (List.mem_of_getElem? (i := 3) rfl))
abbrev w_Deeds_isLed (G : zG) : va_W := []
def f_Deeds_isLed (x0 : Int32) : Int32 := (if x0 < 0 then 0 else (if (9 : Int32) ≤ x0 then 0 else 1))
set_option maxRecDepth 100000 in
set_option maxHeartbeats 4000000 in
theorem c_Deeds_isLed (l : Launch) (G : zG) (x0 : Int32) (r_ : Int32) (hf : f_Deeds_isLed x0 = r_) : zM l yX2_isLed cX2_isLed 1 (some .boolean) 0 0 G [.int x0] (w_Deeds_isLed G) (some (.int r_)) (w_Deeds_isLed G) := by
  refine zM.of [(0, .int x0)] (own := RX2) rfl (by decide +kernel) (Nat.le_of_ble_eq_true rfl) rfl rfl fun X hX F => ?_
  subst hX
  replace hf := (f_Deeds_isLed.eq_1 ..).symm.trans hf
  refine z_iload_n F 0 dX2_isLed_0 rfl rfl ?_
  refine z_if_lt F 14 dX2_isLed_1 (by decide) hf (fun hf _ => ?_) (fun hf _ => ?_)
  · refine z_iconst F (0) dX2_isLed_14 rfl ?_
    subst hf
    exact z_iret F rfl rfl rfl rfl dX2_isLed_15
  · refine z_iload_n F 0 dX2_isLed_4 rfl rfl ?_
    refine z_bipush F (9) dX2_isLed_5 rfl ?_
    refine z_icmp_ge F 14 dX2_isLed_7 (by decide) hf (fun hf _ => ?_) (fun hf _ => ?_)
    · refine z_iconst F (0) dX2_isLed_14 rfl ?_
      subst hf
      exact z_iret F rfl rfl rfl rfl dX2_isLed_15
    · refine z_iconst F (1) dX2_isLed_10 rfl ?_
      refine z_goto F 15 dX2_isLed_11 (by decide) ?_
      subst hf
      exact z_iret F rfl rfl rfl rfl dX2_isLed_15

abbrev w_Deeds_changesOf (G : zG) (a_this : Nat) (a_judge : Nat) (a_kept : Nat) (a_numbers : Nat) (a_changes : Nat) (a_greatest : Nat) (first_ : Int32) (size : Int32) (changes : Nat → Int32) : va_W := [(a_this, cO 2 [.ref a_judge, .ref a_kept, .int first_, .int size, .ref a_numbers, .ref a_changes, .ref a_greatest]), (a_changes, cI G 9 changes)]
def f_Deeds_changesOf (changes : Nat → Int32) (x1 : Int32) : Option Int32 := (if (f_Deeds_isLed x1) = 0 then (some 0) else (zg changes 9 x1 fun v_2 => (some v_2)))
set_option maxRecDepth 100000 in
set_option maxHeartbeats 4000000 in
theorem c_Deeds_changesOf (l : Launch) (G : zG) (a_this : Nat) (a_judge : Nat) (a_kept : Nat) (a_numbers : Nat) (a_changes : Nat) (a_greatest : Nat) (first_ : Int32) (size : Int32) (changes : Nat → Int32) (x1 : Int32) (r_ : Int32) (hf : f_Deeds_changesOf changes x1 = some r_) : zM l yX2_changesOf cX2_changesOf 2 (some .int) 1 20 G [.ref a_this, .int x1] (w_Deeds_changesOf G a_this a_judge a_kept a_numbers a_changes a_greatest first_ size changes) (some (.int r_)) (w_Deeds_changesOf G a_this a_judge a_kept a_numbers a_changes a_greatest first_ size changes) := by
  refine zM.of [(0, .ref a_this), (1, .int x1)] (own := RX2) rfl (by decide +kernel) (Nat.le_of_ble_eq_true rfl) rfl rfl fun X hX F => ?_
  subst hX
  replace hf := (f_Deeds_changesOf.eq_1 ..).symm.trans hf
  refine z_iload_n F 1 dX2_changesOf_0 rfl rfl ?_
  refine z_callSm (rest := []) F (c_Deeds_isLed (xL X) G x1 _ rfl) hy_X2_isLed ml_X2_60 hd_X2_isLed ⟨by omega, by omega⟩ rfl [] rfl rfl (w_Deeds_changesOf G a_this a_judge a_kept a_numbers a_changes a_greatest first_ size changes) [none, none] rfl (by decide +kernel) rfl rfl (Nat.le_of_ble_eq_true rfl) dX2_changesOf_1 (fun hz_1 => ?_)
  refine z_if_eq F 16 dX2_changesOf_4 (by decide) hf (fun hf _ => ?_) (fun hf _ => ?_)
  · refine z_iconst F (0) dX2_changesOf_16 rfl ?_
    have ee1 := Option.some.inj hf
    subst ee1
    exact z_iret F rfl rfl rfl rfl dX2_changesOf_17
  · refine z_aload_n F 0 dX2_changesOf_7 rfl rfl ?_
    refine z_get F 0 2 5 inlX2 rfl rfl (by decide) fl_X2_26 rfl dX2_changesOf_8 ?_
    refine z_iload_n F 1 dX2_changesOf_11 rfl rfl ?_
    refine z_iald F 1 rfl hf dX2_changesOf_12 (fun v_2 hf => ?_)
    refine z_goto F 17 dX2_changesOf_13 (by decide) ?_
    have ee1 := Option.some.inj hf
    subst ee1
    exact z_iret F rfl rfl rfl rfl dX2_changesOf_17

abbrev w_Deeds_greatestOf (G : zG) (a_this : Nat) (a_judge : Nat) (a_kept : Nat) (a_numbers : Nat) (a_changes : Nat) (a_greatest : Nat) (first_ : Int32) (size : Int32) (greatest : Nat → Int32) : va_W := [(a_this, cO 2 [.ref a_judge, .ref a_kept, .int first_, .int size, .ref a_numbers, .ref a_changes, .ref a_greatest]), (a_greatest, cI G 9 greatest)]
def f_Deeds_greatestOf (greatest : Nat → Int32) (x1 : Int32) : Option Int32 := (if (f_Deeds_isLed x1) = 0 then (some 0) else (zg greatest 9 x1 fun v_2 => (some v_2)))
set_option maxRecDepth 100000 in
set_option maxHeartbeats 4000000 in
theorem c_Deeds_greatestOf (l : Launch) (G : zG) (a_this : Nat) (a_judge : Nat) (a_kept : Nat) (a_numbers : Nat) (a_changes : Nat) (a_greatest : Nat) (first_ : Int32) (size : Int32) (greatest : Nat → Int32) (x1 : Int32) (r_ : Int32) (hf : f_Deeds_greatestOf greatest x1 = some r_) : zM l yX2_greatestOf cX2_greatestOf 2 (some .int) 1 20 G [.ref a_this, .int x1] (w_Deeds_greatestOf G a_this a_judge a_kept a_numbers a_changes a_greatest first_ size greatest) (some (.int r_)) (w_Deeds_greatestOf G a_this a_judge a_kept a_numbers a_changes a_greatest first_ size greatest) := by
  refine zM.of [(0, .ref a_this), (1, .int x1)] (own := RX2) rfl (by decide +kernel) (Nat.le_of_ble_eq_true rfl) rfl rfl fun X hX F => ?_
  subst hX
  replace hf := (f_Deeds_greatestOf.eq_1 ..).symm.trans hf
  refine z_iload_n F 1 dX2_greatestOf_0 rfl rfl ?_
  refine z_callSm (rest := []) F (c_Deeds_isLed (xL X) G x1 _ rfl) hy_X2_isLed ml_X2_60 hd_X2_isLed ⟨by omega, by omega⟩ rfl [] rfl rfl (w_Deeds_greatestOf G a_this a_judge a_kept a_numbers a_changes a_greatest first_ size greatest) [none, none] rfl (by decide +kernel) rfl rfl (Nat.le_of_ble_eq_true rfl) dX2_greatestOf_1 (fun hz_1 => ?_)
  refine z_if_eq F 16 dX2_greatestOf_4 (by decide) hf (fun hf _ => ?_) (fun hf _ => ?_)
  · refine z_iconst F (0) dX2_greatestOf_16 rfl ?_
    have ee1 := Option.some.inj hf
    subst ee1
    exact z_iret F rfl rfl rfl rfl dX2_greatestOf_17
  · refine z_aload_n F 0 dX2_greatestOf_7 rfl rfl ?_
    refine z_get F 0 2 6 inlX2 rfl rfl (by decide) fl_X2_29 rfl dX2_greatestOf_8 ?_
    refine z_iload_n F 1 dX2_greatestOf_11 rfl rfl ?_
    refine z_iald F 1 rfl hf dX2_greatestOf_12 (fun v_2 hf => ?_)
    refine z_goto F 17 dX2_greatestOf_13 (by decide) ?_
    have ee1 := Option.some.inj hf
    subst ee1
    exact z_iret F rfl rfl rfl rfl dX2_greatestOf_17

abbrev w_Deeds_lineAhead (G : zG) (a_this : Nat) (a_judge : Nat) (a_kept : Nat) (a_numbers : Nat) (a_changes : Nat) (a_greatest : Nat) (a_kept_e : Nat → Nat) (first_ : Int32) (size : Int32) : va_W := [(a_this, cO 2 [.ref a_judge, .ref a_kept, .int first_, .int size, .ref a_numbers, .ref a_changes, .ref a_greatest]), (a_kept, cL G 12 (fun j => some (a_kept_e j)))]
def f_Deeds_lineAhead (first_ : Int32) (size : Int32) (x1 : Int32) : Option Nat := (zb1 (f_Math_floorMod ((first_ + size) - x1) 12) fun r_1 => (zg (fun j => j) 12 r_1 fun j_3 => (some j_3)))
set_option maxRecDepth 100000 in
set_option maxHeartbeats 4000000 in
theorem c_Deeds_lineAhead (l : Launch) (G : zG) (a_this : Nat) (a_judge : Nat) (a_kept : Nat) (a_numbers : Nat) (a_changes : Nat) (a_greatest : Nat) (a_kept_e : Nat → Nat) (first_ : Int32) (size : Int32) (x1 : Int32) (r_ : Nat) (hf : f_Deeds_lineAhead first_ size x1 = some r_) : zM l yX2_lineAhead cX2_lineAhead 2 (some (.object "TallerAhead$Line")) 1 22 G [.ref a_this, .int x1] (w_Deeds_lineAhead G a_this a_judge a_kept a_numbers a_changes a_greatest a_kept_e first_ size) (some (.ref (a_kept_e r_))) (w_Deeds_lineAhead G a_this a_judge a_kept a_numbers a_changes a_greatest a_kept_e first_ size) := by
  refine zM.of [(0, .ref a_this), (1, .int x1)] (own := RX2) rfl (by decide +kernel) (Nat.le_of_ble_eq_true rfl) rfl rfl fun X hX F => ?_
  subst hX
  replace hf := (f_Deeds_lineAhead.eq_1 ..).symm.trans hf
  refine z_aload_n F 0 dX2_lineAhead_0 rfl rfl ?_
  refine z_get F 0 2 1 inlX2 rfl rfl (by decide) fl_X2_17 rfl dX2_lineAhead_1 ?_
  refine z_aload_n F 0 dX2_lineAhead_4 rfl rfl ?_
  refine z_get F 0 2 2 inlX2 rfl rfl (by decide) fl_X2_36 rfl dX2_lineAhead_5 ?_
  refine z_aload_n F 0 dX2_lineAhead_8 rfl rfl ?_
  refine z_get F 0 2 3 inlX2 rfl rfl (by decide) fl_X2_32 rfl dX2_lineAhead_9 ?_
  refine z_iadd F dX2_lineAhead_12 ?_
  refine z_iload_n F 1 dX2_lineAhead_13 rfl rfl ?_
  refine z_isub F dX2_lineAhead_14 ?_
  refine z_bipush F (12) dX2_lineAhead_15 rfl ?_
  obtain ⟨r_1, hg, hf⟩ := zb1_some hf
  refine z_callSm (rest := [.ref a_kept]) F (c_Math_floorMod (xL X) G ((first_ + size) - x1) 12 r_1 hg) hy_J9_floorMod_7cf53 ml_X2_76 hd_J9_floorMod_7cf53 ⟨by omega, by omega⟩ rfl [] rfl rfl (w_Deeds_lineAhead G a_this a_judge a_kept a_numbers a_changes a_greatest a_kept_e first_ size) [none, none] rfl (by decide +kernel) rfl rfl (Nat.le_of_ble_eq_true rfl) dX2_lineAhead_17 (fun hz_2 => ?_)
  refine z_aald F 1 3 rfl rfl rfl hf dX2_lineAhead_20 (fun j_3 hj_3 hf => ?_)
  have ee1 := Option.some.inj hf
  subst ee1
  exact z_aret F rfl rfl rfl dX2_lineAhead_21

abbrev w_Deeds_begin (G : zG) (a_this : Nat) (a_judge : Nat) (a_kept : Nat) (a_numbers : Nat) (a_changes : Nat) (a_greatest : Nat) (a_judge_crowd : Nat) (a_judge_text : Nat) (a_judge_known : Nat) (a_judge_crowd_heights : Nat) (a_judge_text_tape : Nat) (a_judge_text_reader : Nat) (a_judge_text_steps : Nat) (a_judge_text_worked : Nat) (a_kept_e : Nat → Nat) (a_kept_e_who : Nat → Nat) (a_p1 : Nat) (a_p1_who : Nat) (first_ : Int32) (size : Int32) (judge_crowd_people : Int32) (judge_crowd_heights : Nat → Int32) (judge_text_fed : Int32) (judge_text_length : Int32) (judge_text_top : Int32) (judge_text_steps : Nat → Int32) (judge_text_worked : Nat → Int32) (judge_known : Nat → Int32) (kept_e_length : Nat → Int32) (kept_e_who : Nat → (Nat → Int32)) (numbers : Nat → Int32) (p1_length : Int32) (p1_who : Nat → Int32) : va_W := [(a_this, cO 2 [.ref a_judge, .ref a_kept, .int first_, .int size, .ref a_numbers, .ref a_changes, .ref a_greatest]), (a_judge, cO 4 [.ref a_judge_crowd, .ref a_judge_text, .ref a_judge_known]), (a_judge_crowd, cO 1 [.ref a_judge_crowd_heights, .int judge_crowd_people]), (a_judge_crowd_heights, cI G 9 judge_crowd_heights), (a_judge_text, cO 5 [.ref a_judge_text_tape, .int judge_text_fed, .ref a_judge_text_reader, .ref a_judge_text_steps, .int judge_text_length, .ref a_judge_text_worked, .int judge_text_top]), (a_judge_text_steps, cI G 121 judge_text_steps), (a_judge_text_worked, cI G 121 judge_text_worked), (a_judge_known, cB G 729 judge_known), (a_kept, cL G 12 (fun j => some (a_kept_e j))), ((a_kept_e 0), cO 7 [.ref (a_kept_e_who 0), .int (kept_e_length 0)]), ((a_kept_e_who 0), cI G 9 (kept_e_who 0)), ((a_kept_e 1), cO 7 [.ref (a_kept_e_who 1), .int (kept_e_length 1)]), ((a_kept_e_who 1), cI G 9 (kept_e_who 1)), ((a_kept_e 2), cO 7 [.ref (a_kept_e_who 2), .int (kept_e_length 2)]), ((a_kept_e_who 2), cI G 9 (kept_e_who 2)), ((a_kept_e 3), cO 7 [.ref (a_kept_e_who 3), .int (kept_e_length 3)]), ((a_kept_e_who 3), cI G 9 (kept_e_who 3)), ((a_kept_e 4), cO 7 [.ref (a_kept_e_who 4), .int (kept_e_length 4)]), ((a_kept_e_who 4), cI G 9 (kept_e_who 4)), ((a_kept_e 5), cO 7 [.ref (a_kept_e_who 5), .int (kept_e_length 5)]), ((a_kept_e_who 5), cI G 9 (kept_e_who 5)), ((a_kept_e 6), cO 7 [.ref (a_kept_e_who 6), .int (kept_e_length 6)]), ((a_kept_e_who 6), cI G 9 (kept_e_who 6)), ((a_kept_e 7), cO 7 [.ref (a_kept_e_who 7), .int (kept_e_length 7)]), ((a_kept_e_who 7), cI G 9 (kept_e_who 7)), ((a_kept_e 8), cO 7 [.ref (a_kept_e_who 8), .int (kept_e_length 8)]), ((a_kept_e_who 8), cI G 9 (kept_e_who 8)), ((a_kept_e 9), cO 7 [.ref (a_kept_e_who 9), .int (kept_e_length 9)]), ((a_kept_e_who 9), cI G 9 (kept_e_who 9)), ((a_kept_e 10), cO 7 [.ref (a_kept_e_who 10), .int (kept_e_length 10)]), ((a_kept_e_who 10), cI G 9 (kept_e_who 10)), ((a_kept_e 11), cO 7 [.ref (a_kept_e_who 11), .int (kept_e_length 11)]), ((a_kept_e_who 11), cI G 9 (kept_e_who 11)), (a_numbers, cI G 9 numbers), (a_p1, cO 7 [.ref a_p1_who, .int p1_length]), (a_p1_who, cI G 9 p1_who)]
def f_Deeds_begin_L55 (judge_crowd_people : Int32) (judge_crowd_heights : Nat → Int32) (judge_text_length : Int32) (judge_text_steps : Nat → Int32) (p1_length : Int32) (p1_who : Nat → Int32) : Nat → Int32 → (Nat → Int32) → (Nat → Int32) → (Nat → Int32) → Int32 → Option (Int32 × (Nat → Int32) × (Nat → Int32) × (Nat → Int32))
  | 0, _, _, _, _, _ => none
  | fuel + 1, judge_text_top, judge_text_worked, judge_known, numbers, v2 => (if (f_Line_size p1_length) ≤ v2 then (some (judge_text_top, judge_text_worked, judge_known, numbers)) else (zb1 (f_Line_at p1_length p1_who v2) fun r_9 => (if (f_Deeds_isLed r_9) = 0 then (f_Deeds_begin_L55 judge_crowd_people judge_crowd_heights judge_text_length judge_text_steps p1_length p1_who fuel judge_text_top judge_text_worked judge_known numbers (v2 + 1)) else (zb4 (f_Judge_numberAt judge_crowd_people judge_crowd_heights judge_text_length judge_text_top judge_text_steps judge_text_worked judge_known p1_length p1_who v2) fun r_12 judge_text_top_13 judge_text_worked_14 judge_known_15 => (zs numbers 9 r_9 r_12 fun numbers_17 => (f_Deeds_begin_L55 judge_crowd_people judge_crowd_heights judge_text_length judge_text_steps p1_length p1_who fuel judge_text_top_13 judge_text_worked_14 judge_known_15 numbers_17 (v2 + 1)))))))
def f_Deeds_begin (first_ : Int32) (size : Int32) (judge_crowd_people : Int32) (judge_crowd_heights : Nat → Int32) (judge_text_length : Int32) (judge_text_top : Int32) (judge_text_steps : Nat → Int32) (judge_text_worked : Nat → Int32) (judge_known : Nat → Int32) (kept_e_length : Nat → Int32) (kept_e_who : Nat → (Nat → Int32)) (numbers : Nat → Int32) (p1_length : Int32) (p1_who : Nat → Int32) : Option (Int32 × Int32 × Int32 × (Nat → Int32) × (Nat → Int32) × (Nat → Int32) × (Nat → (Nat → Int32)) × (Nat → Int32)) := (if size = 12 then (zb1 (f_Deeds_lineAhead ((first_ + (1 : Int32)) - (first_ + (1 : Int32)) / 12 * 12) size 1) fun j_22 => (zgd (j_22 < 12) (zb2 (f_Line_copyFrom (kept_e_length j_22) (kept_e_who j_22) p1_length p1_who) fun kept_e_length_24 kept_e_who_25 => (zb1 (f_Arr_fillI 9 numbers ((-2) : Int32)) fun numbers_27 => (zb4 (f_Deeds_begin_L55 judge_crowd_people judge_crowd_heights judge_text_length judge_text_steps p1_length p1_who FU judge_text_top judge_text_worked judge_known numbers_27 0) fun judge_text_top_29 judge_text_worked_30 judge_known_31 numbers_32 => (some (((first_ + (1 : Int32)) - (first_ + (1 : Int32)) / 12 * 12), size, judge_text_top_29, judge_text_worked_30, judge_known_31, (va_up kept_e_length j_22 kept_e_length_24), (va_up kept_e_who j_22 kept_e_who_25), numbers_32))))))) else (zb1 (f_Deeds_lineAhead first_ (size + (1 : Int32)) 1) fun j_1 => (zgd (j_1 < 12) (zb2 (f_Line_copyFrom (kept_e_length j_1) (kept_e_who j_1) p1_length p1_who) fun kept_e_length_3 kept_e_who_4 => (zb1 (f_Arr_fillI 9 numbers ((-2) : Int32)) fun numbers_6 => (zb4 (f_Deeds_begin_L55 judge_crowd_people judge_crowd_heights judge_text_length judge_text_steps p1_length p1_who FU judge_text_top judge_text_worked judge_known numbers_6 0) fun judge_text_top_18 judge_text_worked_19 judge_known_20 numbers_21 => (some (first_, (size + (1 : Int32)), judge_text_top_18, judge_text_worked_19, judge_known_20, (va_up kept_e_length j_1 kept_e_length_3), (va_up kept_e_who j_1 kept_e_who_4), numbers_21))))))))
set_option maxRecDepth 100000 in
set_option maxHeartbeats 4000000 in
theorem l_Deeds_begin_55 {X : zX} (G : zG) (a_this : Nat) (a_judge : Nat) (a_kept : Nat) (a_numbers : Nat) (a_changes : Nat) (a_greatest : Nat) (a_judge_crowd : Nat) (a_judge_text : Nat) (a_judge_known : Nat) (a_judge_crowd_heights : Nat) (a_judge_text_tape : Nat) (a_judge_text_reader : Nat) (a_judge_text_steps : Nat) (a_judge_text_worked : Nat) (a_kept_e : Nat → Nat) (a_kept_e_who : Nat → Nat) (a_p1 : Nat) (a_p1_who : Nat) (first_ : Int32) (size : Int32) (judge_crowd_people : Int32) (judge_crowd_heights : Nat → Int32) (judge_text_fed : Int32) (judge_text_length : Int32) (judge_text_steps : Nat → Int32) (kept_e_length : Nat → Int32) (kept_e_who : Nat → (Nat → Int32)) (p1_length : Int32) (p1_who : Nat → Int32) {v0 : Option Value} {w0 : va_W} (F : zF X G cX2_begin RX2 4 none 4 141 v0 w0) (e_judge_text_top : Int32) (e_judge_text_worked : Nat → Int32) (e_judge_known : Nat → Int32) (e_numbers : Nat → Int32) (hk : Z X G 4 (w_Deeds_begin G a_this a_judge a_kept a_numbers a_changes a_greatest a_judge_crowd a_judge_text a_judge_known a_judge_crowd_heights a_judge_text_tape a_judge_text_reader a_judge_text_steps a_judge_text_worked a_kept_e a_kept_e_who a_p1 a_p1_who first_ size judge_crowd_people judge_crowd_heights judge_text_fed judge_text_length e_judge_text_top judge_text_steps e_judge_text_worked e_judge_known kept_e_length kept_e_who e_numbers p1_length p1_who) [] 97 []) :
    ∀ (fuel : Nat) (judge_text_top : Int32) (judge_text_worked : Nat → Int32) (judge_known : Nat → Int32) (numbers : Nat → Int32) (v2 : Int32), f_Deeds_begin_L55 judge_crowd_people judge_crowd_heights judge_text_length judge_text_steps p1_length p1_who fuel judge_text_top judge_text_worked judge_known numbers v2 = some (e_judge_text_top, e_judge_text_worked, e_judge_known, e_numbers) → Z X G 4 (w_Deeds_begin G a_this a_judge a_kept a_numbers a_changes a_greatest a_judge_crowd a_judge_text a_judge_known a_judge_crowd_heights a_judge_text_tape a_judge_text_reader a_judge_text_steps a_judge_text_worked a_kept_e a_kept_e_who a_p1 a_p1_who first_ size judge_crowd_people judge_crowd_heights judge_text_fed judge_text_length judge_text_top judge_text_steps judge_text_worked judge_known kept_e_length kept_e_who numbers p1_length p1_who) [(0, .ref a_this), (1, .ref a_p1), (2, .int v2)] 55 [] := by
  intro fuel
  induction fuel with
  | zero => intro judge_text_top judge_text_worked judge_known numbers v2 hf; exact absurd ((f_Deeds_begin_L55.eq_1 ..).symm.trans hf) (fun h => by cases h)
  | succ fuel ih =>
    intro judge_text_top judge_text_worked judge_known numbers v2 hf
    replace hf := (f_Deeds_begin_L55.eq_2 ..).symm.trans hf
    refine z_iload_n F 2 dX2_begin_55 rfl rfl ?_
    refine z_aload_n F 1 dX2_begin_56 rfl rfl ?_
    refine z_callVm (rest := [.int v2]) F 7 (c_Line_size (xL X) G a_p1 a_p1_who p1_length _ rfl) hy_X7_size ml_X2_53 hd_X7_size ⟨by omega, by omega⟩ rfl [34] rfl rfl 34 rfl rfl (w_Deeds_begin G a_this a_judge a_kept a_numbers a_changes a_greatest a_judge_crowd a_judge_text a_judge_known a_judge_crowd_heights a_judge_text_tape a_judge_text_reader a_judge_text_steps a_judge_text_worked a_kept_e a_kept_e_who a_p1 a_p1_who first_ size judge_crowd_people judge_crowd_heights judge_text_fed judge_text_length judge_text_top judge_text_steps judge_text_worked judge_known kept_e_length kept_e_who numbers p1_length p1_who) [none, none, none, none, none, none, none, none, none, none, none, none, none, none, none, none, none, none, none, none, none, none, none, none, none, none, none, none, none, none, none, none, none, none, some 0, none] rfl (by decide +kernel) rfl rfl (Nat.le_of_ble_eq_true rfl) dX2_begin_57 (fun hz_8 => ?_)
    refine z_icmp_ge F 97 dX2_begin_60 (by decide) hf (fun hf _ => ?_) (fun hf _ => ?_)
    · have eq1 := Option.some.inj hf
      obtain ⟨ee1, eq2⟩ := Prod.mk.inj eq1
      obtain ⟨ee2, eq3⟩ := Prod.mk.inj eq2
      obtain ⟨ee3, ee4⟩ := Prod.mk.inj eq3
      subst ee1
      subst ee2
      subst ee3
      subst ee4
      exact z_sub [] rfl hk
    · refine z_aload_n F 1 dX2_begin_63 rfl rfl ?_
      refine z_iload_n F 2 dX2_begin_64 rfl rfl ?_
      obtain ⟨r_9, hg, hf⟩ := zb1_some hf
      refine z_callVm (rest := []) F 7 (c_Line_at (xL X) G a_p1 a_p1_who p1_length p1_who v2 r_9 hg) hy_X7_at ml_X2_56 hd_X7_at ⟨by omega, by omega⟩ rfl [34, 35] rfl rfl 34 rfl rfl (w_Deeds_begin G a_this a_judge a_kept a_numbers a_changes a_greatest a_judge_crowd a_judge_text a_judge_known a_judge_crowd_heights a_judge_text_tape a_judge_text_reader a_judge_text_steps a_judge_text_worked a_kept_e a_kept_e_who a_p1 a_p1_who first_ size judge_crowd_people judge_crowd_heights judge_text_fed judge_text_length judge_text_top judge_text_steps judge_text_worked judge_known kept_e_length kept_e_who numbers p1_length p1_who) [none, none, none, none, none, none, none, none, none, none, none, none, none, none, none, none, none, none, none, none, none, none, none, none, none, none, none, none, none, none, none, none, none, none, some 0, some 1] rfl (by decide +kernel) rfl rfl (Nat.le_of_ble_eq_true rfl) dX2_begin_65 (fun hz_10 => ?_)
      refine z_istore_n F [(3, .int r_9), (0, .ref a_this), (1, .ref a_p1), (2, .int v2)] dX2_begin_68 rfl (by decide) rfl ?_
      refine z_iload_n F 0 dX2_begin_69 rfl rfl ?_
      refine z_callSm (rest := []) F (c_Deeds_isLed (xL X) G r_9 _ rfl) hy_X2_isLed ml_X2_60 hd_X2_isLed ⟨by omega, by omega⟩ rfl [] rfl rfl (w_Deeds_begin G a_this a_judge a_kept a_numbers a_changes a_greatest a_judge_crowd a_judge_text a_judge_known a_judge_crowd_heights a_judge_text_tape a_judge_text_reader a_judge_text_steps a_judge_text_worked a_kept_e a_kept_e_who a_p1 a_p1_who first_ size judge_crowd_people judge_crowd_heights judge_text_fed judge_text_length judge_text_top judge_text_steps judge_text_worked judge_known kept_e_length kept_e_who numbers p1_length p1_who) [none, none, none, none, none, none, none, none, none, none, none, none, none, none, none, none, none, none, none, none, none, none, none, none, none, none, none, none, none, none, none, none, none, none, none, none] rfl (by decide +kernel) rfl rfl (Nat.le_of_ble_eq_true rfl) dX2_begin_70 (fun hz_11 => ?_)
      refine z_if_eq F 91 dX2_begin_73 (by decide) hf (fun hf _ => ?_) (fun hf _ => ?_)
      · refine z_iinc F [(2, .int (v2 + 1)), (3, .int r_9), (0, .ref a_this), (1, .ref a_p1)] dX2_begin_91 3 rfl rfl (by decide) rfl ?_
        refine z_goto F 55 dX2_begin_94 (by decide) ?_
        exact z_sub [2, 3, 0] rfl (ih judge_text_top judge_text_worked judge_known numbers (v2 + 1) hf)
      · refine z_aload_n F 1 dX2_begin_76 rfl rfl ?_
        refine z_get F 0 2 4 inlX2 rfl rfl (by decide) fl_X2_22 rfl dX2_begin_77 ?_
        refine z_iload_n F 0 dX2_begin_80 rfl rfl ?_
        refine z_aload_n F 1 dX2_begin_81 rfl rfl ?_
        refine z_get F 0 2 0 inlX2 rfl rfl (by decide) fl_X2_9 rfl dX2_begin_82 ?_
        refine z_aload_n F 2 dX2_begin_85 rfl rfl ?_
        refine z_iload_n F 3 dX2_begin_86 rfl rfl ?_
        obtain ⟨r_12, judge_text_top_13, judge_text_worked_14, judge_known_15, hg, hf⟩ := zb4_some hf
        refine z_callVm (rest := [.int r_9, .ref a_numbers]) F 4 (c_Judge_numberAt (xL X) G a_judge a_judge_crowd a_judge_text a_judge_known a_judge_crowd_heights a_judge_text_tape a_judge_text_reader a_judge_text_steps a_judge_text_worked a_p1 a_p1_who judge_crowd_people judge_crowd_heights judge_text_fed judge_text_length judge_text_top judge_text_steps judge_text_worked judge_known p1_length p1_who v2 r_12 judge_text_top_13 judge_text_worked_14 judge_known_15 hg) hy_X4_numberAt ml_X2_64 hd_X4_numberAt ⟨by omega, by omega⟩ rfl [1, 2, 3, 4, 5, 6, 7, 34, 35] rfl rfl 1 rfl rfl (w_Deeds_begin G a_this a_judge a_kept a_numbers a_changes a_greatest a_judge_crowd a_judge_text a_judge_known a_judge_crowd_heights a_judge_text_tape a_judge_text_reader a_judge_text_steps a_judge_text_worked a_kept_e a_kept_e_who a_p1 a_p1_who first_ size judge_crowd_people judge_crowd_heights judge_text_fed judge_text_length judge_text_top_13 judge_text_steps judge_text_worked_14 judge_known_15 kept_e_length kept_e_who numbers p1_length p1_who) [none, some 0, some 1, some 2, some 3, some 4, some 5, some 6, none, none, none, none, none, none, none, none, none, none, none, none, none, none, none, none, none, none, none, none, none, none, none, none, none, none, some 7, some 8] rfl (by decide +kernel) rfl rfl (Nat.le_of_ble_eq_true rfl) dX2_begin_87 (fun hz_16 => ?_)
        refine z_iast F 33 (fun numbers_17 => (w_Deeds_begin G a_this a_judge a_kept a_numbers a_changes a_greatest a_judge_crowd a_judge_text a_judge_known a_judge_crowd_heights a_judge_text_tape a_judge_text_reader a_judge_text_steps a_judge_text_worked a_kept_e a_kept_e_who a_p1 a_p1_who first_ size judge_crowd_people judge_crowd_heights judge_text_fed judge_text_length judge_text_top_13 judge_text_steps judge_text_worked_14 judge_known_15 kept_e_length kept_e_who numbers_17 p1_length p1_who)) rfl hf (fun _ => rfl) dX2_begin_90 (fun numbers_17 hf => ?_)
        refine z_iinc F [(2, .int (v2 + 1)), (3, .int r_9), (0, .ref a_this), (1, .ref a_p1)] dX2_begin_91 3 rfl rfl (by decide) rfl ?_
        refine z_goto F 55 dX2_begin_94 (by decide) ?_
        exact z_sub [2, 3, 0] rfl (ih judge_text_top_13 judge_text_worked_14 judge_known_15 numbers_17 (v2 + 1) hf)

set_option maxRecDepth 100000 in
set_option maxHeartbeats 4000000 in
theorem c_Deeds_begin (l : Launch) (G : zG) (a_this : Nat) (a_judge : Nat) (a_kept : Nat) (a_numbers : Nat) (a_changes : Nat) (a_greatest : Nat) (a_judge_crowd : Nat) (a_judge_text : Nat) (a_judge_known : Nat) (a_judge_crowd_heights : Nat) (a_judge_text_tape : Nat) (a_judge_text_reader : Nat) (a_judge_text_steps : Nat) (a_judge_text_worked : Nat) (a_kept_e : Nat → Nat) (a_kept_e_who : Nat → Nat) (a_p1 : Nat) (a_p1_who : Nat) (first_ : Int32) (size : Int32) (judge_crowd_people : Int32) (judge_crowd_heights : Nat → Int32) (judge_text_fed : Int32) (judge_text_length : Int32) (judge_text_top : Int32) (judge_text_steps : Nat → Int32) (judge_text_worked : Nat → Int32) (judge_known : Nat → Int32) (kept_e_length : Nat → Int32) (kept_e_who : Nat → (Nat → Int32)) (numbers : Nat → Int32) (p1_length : Int32) (p1_who : Nat → Int32) (o_first_ : Int32) (o_size : Int32) (o_judge_text_top : Int32) (o_judge_text_worked : Nat → Int32) (o_judge_known : Nat → Int32) (o_kept_e_length : Nat → Int32) (o_kept_e_who : Nat → (Nat → Int32)) (o_numbers : Nat → Int32) (hf : f_Deeds_begin first_ size judge_crowd_people judge_crowd_heights judge_text_length judge_text_top judge_text_steps judge_text_worked judge_known kept_e_length kept_e_who numbers p1_length p1_who = some (o_first_, o_size, o_judge_text_top, o_judge_text_worked, o_judge_known, o_kept_e_length, o_kept_e_who, o_numbers)) : zM l yX2_begin cX2_begin 4 none 4 141 G [.ref a_this, .ref a_p1] (w_Deeds_begin G a_this a_judge a_kept a_numbers a_changes a_greatest a_judge_crowd a_judge_text a_judge_known a_judge_crowd_heights a_judge_text_tape a_judge_text_reader a_judge_text_steps a_judge_text_worked a_kept_e a_kept_e_who a_p1 a_p1_who first_ size judge_crowd_people judge_crowd_heights judge_text_fed judge_text_length judge_text_top judge_text_steps judge_text_worked judge_known kept_e_length kept_e_who numbers p1_length p1_who) (none) (w_Deeds_begin G a_this a_judge a_kept a_numbers a_changes a_greatest a_judge_crowd a_judge_text a_judge_known a_judge_crowd_heights a_judge_text_tape a_judge_text_reader a_judge_text_steps a_judge_text_worked a_kept_e a_kept_e_who a_p1 a_p1_who o_first_ o_size judge_crowd_people judge_crowd_heights judge_text_fed judge_text_length o_judge_text_top judge_text_steps o_judge_text_worked o_judge_known o_kept_e_length o_kept_e_who o_numbers p1_length p1_who) := by
  refine zM.of [(0, .ref a_this), (1, .ref a_p1)] (own := RX2) rfl (by decide +kernel) (Nat.le_of_ble_eq_true rfl) rfl rfl fun X hX F => ?_
  subst hX
  replace hf := (f_Deeds_begin.eq_1 ..).symm.trans hf
  refine z_aload_n F 0 dX2_begin_0 rfl rfl ?_
  refine z_get F 0 2 3 inlX2 rfl rfl (by decide) fl_X2_32 rfl dX2_begin_1 ?_
  refine z_bipush F (12) dX2_begin_4 rfl ?_
  refine z_icmp_ne F 25 dX2_begin_6 (by decide) hf (fun hf _ => ?_) (fun hf _ => ?_)
  · refine z_aload_n F 0 dX2_begin_25 rfl rfl ?_
    refine z_dup F rfl dX2_begin_26 ?_
    refine z_get F 0 2 3 inlX2 rfl rfl (by decide) fl_X2_32 rfl dX2_begin_27 ?_
    refine z_iconst F (1) dX2_begin_30 rfl ?_
    refine z_iadd F dX2_begin_31 ?_
    refine z_put F 0 2 3 (w_Deeds_begin G a_this a_judge a_kept a_numbers a_changes a_greatest a_judge_crowd a_judge_text a_judge_known a_judge_crowd_heights a_judge_text_tape a_judge_text_reader a_judge_text_steps a_judge_text_worked a_kept_e a_kept_e_who a_p1 a_p1_who first_ (size + (1 : Int32)) judge_crowd_people judge_crowd_heights judge_text_fed judge_text_length judge_text_top judge_text_steps judge_text_worked judge_known kept_e_length kept_e_who numbers p1_length p1_who) inlX2 tyX2 tyX2_ok nmX2 rfl rfl (by decide) fl_X2_32 rfl rfl rfl (Nat.le_of_ble_eq_true rfl) rfl dX2_begin_32 ?_
    refine z_aload_n F 0 dX2_begin_35 rfl rfl ?_
    refine z_iconst F (1) dX2_begin_36 rfl ?_
    obtain ⟨j_1, hg, hf⟩ := zb1_some hf
    refine z_callVm (rest := []) F 2 (c_Deeds_lineAhead (xL X) G a_this a_judge a_kept a_numbers a_changes a_greatest a_kept_e first_ (size + (1 : Int32)) 1 j_1 hg) hy_X2_lineAhead ml_X2_39 hd_X2_lineAhead ⟨by omega, by omega⟩ rfl [0, 8] rfl rfl 0 rfl rfl (w_Deeds_begin G a_this a_judge a_kept a_numbers a_changes a_greatest a_judge_crowd a_judge_text a_judge_known a_judge_crowd_heights a_judge_text_tape a_judge_text_reader a_judge_text_steps a_judge_text_worked a_kept_e a_kept_e_who a_p1 a_p1_who first_ (size + (1 : Int32)) judge_crowd_people judge_crowd_heights judge_text_fed judge_text_length judge_text_top judge_text_steps judge_text_worked judge_known kept_e_length kept_e_who numbers p1_length p1_who) [some 0, none, none, none, none, none, none, none, some 1, none, none, none, none, none, none, none, none, none, none, none, none, none, none, none, none, none, none, none, none, none, none, none, none, none, none, none] rfl (by decide +kernel) rfl rfl (Nat.le_of_ble_eq_true rfl) dX2_begin_37 (fun hz_2 => ?_)
    obtain ⟨hj_1, hf⟩ := zgd_some hf
    refine z_aload_n F 1 dX2_begin_40 rfl rfl ?_
    obtain ⟨kept_e_length_3, kept_e_who_4, hg, hf⟩ := zb2_some hf
    refine z_callV (rest := []) (fs := [.ref (a_kept_e_who j_1), .int (kept_e_length j_1)]) F 7 (c_Line_copyFrom (xL X) G (a_kept_e j_1) (a_kept_e_who j_1) a_p1 a_p1_who (kept_e_length j_1) (kept_e_who j_1) p1_length p1_who kept_e_length_3 kept_e_who_4 hg) hy_X7_copyFrom ml_X2_43 hd_X7_copyFrom ⟨by omega, by omega⟩ rfl [9 + 2 * j_1, 10 + 2 * j_1, 34, 35] (by match j_1, hj_1 with | 0, _ => exact rfl | 1, _ => exact rfl | 2, _ => exact rfl | 3, _ => exact rfl | 4, _ => exact rfl | 5, _ => exact rfl | 6, _ => exact rfl | 7, _ => exact rfl | 8, _ => exact rfl | 9, _ => exact rfl | 10, _ => exact rfl | 11, _ => exact rfl) (by match j_1, hj_1 with | 0, _ => exact rfl | 1, _ => exact rfl | 2, _ => exact rfl | 3, _ => exact rfl | 4, _ => exact rfl | 5, _ => exact rfl | 6, _ => exact rfl | 7, _ => exact rfl | 8, _ => exact rfl | 9, _ => exact rfl | 10, _ => exact rfl | 11, _ => exact rfl) (9 + 2 * j_1) (by match j_1, hj_1 with | 0, _ => exact rfl | 1, _ => exact rfl | 2, _ => exact rfl | 3, _ => exact rfl | 4, _ => exact rfl | 5, _ => exact rfl | 6, _ => exact rfl | 7, _ => exact rfl | 8, _ => exact rfl | 9, _ => exact rfl | 10, _ => exact rfl | 11, _ => exact rfl) rfl (w_Deeds_begin G a_this a_judge a_kept a_numbers a_changes a_greatest a_judge_crowd a_judge_text a_judge_known a_judge_crowd_heights a_judge_text_tape a_judge_text_reader a_judge_text_steps a_judge_text_worked a_kept_e a_kept_e_who a_p1 a_p1_who first_ (size + (1 : Int32)) judge_crowd_people judge_crowd_heights judge_text_fed judge_text_length judge_text_top judge_text_steps judge_text_worked judge_known (va_up kept_e_length j_1 kept_e_length_3) (va_up kept_e_who j_1 kept_e_who_4) numbers p1_length p1_who) (by match j_1, hj_1 with | 0, _ => exact rfl | 1, _ => exact rfl | 2, _ => exact rfl | 3, _ => exact rfl | 4, _ => exact rfl | 5, _ => exact rfl | 6, _ => exact rfl | 7, _ => exact rfl | 8, _ => exact rfl | 9, _ => exact rfl | 10, _ => exact rfl | 11, _ => exact rfl) rfl (Nat.le_of_ble_eq_true rfl) dX2_begin_41 (fun hz_5 => ?_)
    refine z_aload_n F 0 dX2_begin_44 rfl rfl ?_
    refine z_get F 0 2 4 inlX2 rfl rfl (by decide) fl_X2_22 rfl dX2_begin_45 ?_
    refine z_bipush F (-2) dX2_begin_48 rfl ?_
    obtain ⟨numbers_6, hg, hf⟩ := zb1_some hf
    refine z_callSm (rest := []) F (c_Arr_fillI (xL X) G 9 a_numbers numbers (-2) numbers_6 hg) hy_J7_fill_53178 ml_X2_47 hd_J7_fill_53178 ⟨by omega, by omega⟩ rfl [33] rfl rfl (w_Deeds_begin G a_this a_judge a_kept a_numbers a_changes a_greatest a_judge_crowd a_judge_text a_judge_known a_judge_crowd_heights a_judge_text_tape a_judge_text_reader a_judge_text_steps a_judge_text_worked a_kept_e a_kept_e_who a_p1 a_p1_who first_ (size + (1 : Int32)) judge_crowd_people judge_crowd_heights judge_text_fed judge_text_length judge_text_top judge_text_steps judge_text_worked judge_known (va_up kept_e_length j_1 kept_e_length_3) (va_up kept_e_who j_1 kept_e_who_4) numbers_6 p1_length p1_who) [none, none, none, none, none, none, none, none, none, none, none, none, none, none, none, none, none, none, none, none, none, none, none, none, none, none, none, none, none, none, none, none, none, some 0, none, none] rfl (by decide +kernel) rfl rfl (Nat.le_of_ble_eq_true rfl) dX2_begin_50 (fun hz_7 => ?_)
    refine z_iconst F (0) dX2_begin_53 rfl ?_
    refine z_istore_n F [(2, .int 0), (0, .ref a_this), (1, .ref a_p1)] dX2_begin_54 rfl (by decide) rfl ?_
    obtain ⟨judge_text_top_18, judge_text_worked_19, judge_known_20, numbers_21, hg, hf⟩ := zb4_some hf
    refine z_sub [1, 2, 0] rfl ?_
    refine l_Deeds_begin_55 G a_this a_judge a_kept a_numbers a_changes a_greatest a_judge_crowd a_judge_text a_judge_known a_judge_crowd_heights a_judge_text_tape a_judge_text_reader a_judge_text_steps a_judge_text_worked a_kept_e a_kept_e_who a_p1 a_p1_who first_ (size + (1 : Int32)) judge_crowd_people judge_crowd_heights judge_text_fed judge_text_length judge_text_steps (va_up kept_e_length j_1 kept_e_length_3) (va_up kept_e_who j_1 kept_e_who_4) p1_length p1_who F judge_text_top_18 judge_text_worked_19 judge_known_20 numbers_21 ?_ FU judge_text_top judge_text_worked judge_known numbers_6 0 hg
    have eq1 := Option.some.inj hf
    obtain ⟨ee1, eq2⟩ := Prod.mk.inj eq1
    obtain ⟨ee2, eq3⟩ := Prod.mk.inj eq2
    obtain ⟨ee3, eq4⟩ := Prod.mk.inj eq3
    obtain ⟨ee4, eq5⟩ := Prod.mk.inj eq4
    obtain ⟨ee5, eq6⟩ := Prod.mk.inj eq5
    obtain ⟨ee6, eq7⟩ := Prod.mk.inj eq6
    obtain ⟨ee7, ee8⟩ := Prod.mk.inj eq7
    subst ee1
    subst ee2
    subst ee3
    subst ee4
    subst ee5
    subst ee6
    subst ee7
    subst ee8
    exact z_vret F rfl rfl rfl dX2_begin_97
  · refine z_aload_n F 0 dX2_begin_9 rfl rfl ?_
    refine z_aload_n F 0 dX2_begin_10 rfl rfl ?_
    refine z_get F 0 2 2 inlX2 rfl rfl (by decide) fl_X2_36 rfl dX2_begin_11 ?_
    refine z_iconst F (1) dX2_begin_14 rfl ?_
    refine z_iadd F dX2_begin_15 ?_
    refine z_bipush F (12) dX2_begin_16 rfl ?_
    refine z_irem F (by decide) dX2_begin_18 ?_
    refine z_put F 0 2 2 (w_Deeds_begin G a_this a_judge a_kept a_numbers a_changes a_greatest a_judge_crowd a_judge_text a_judge_known a_judge_crowd_heights a_judge_text_tape a_judge_text_reader a_judge_text_steps a_judge_text_worked a_kept_e a_kept_e_who a_p1 a_p1_who ((first_ + (1 : Int32)) - (first_ + (1 : Int32)) / 12 * 12) size judge_crowd_people judge_crowd_heights judge_text_fed judge_text_length judge_text_top judge_text_steps judge_text_worked judge_known kept_e_length kept_e_who numbers p1_length p1_who) inlX2 tyX2 tyX2_ok nmX2 rfl rfl (by decide) fl_X2_36 rfl rfl rfl (Nat.le_of_ble_eq_true rfl) rfl dX2_begin_19 ?_
    refine z_goto F 35 dX2_begin_22 (by decide) ?_
    refine z_aload_n F 0 dX2_begin_35 rfl rfl ?_
    refine z_iconst F (1) dX2_begin_36 rfl ?_
    obtain ⟨j_22, hg, hf⟩ := zb1_some hf
    refine z_callVm (rest := []) F 2 (c_Deeds_lineAhead (xL X) G a_this a_judge a_kept a_numbers a_changes a_greatest a_kept_e ((first_ + (1 : Int32)) - (first_ + (1 : Int32)) / 12 * 12) size 1 j_22 hg) hy_X2_lineAhead ml_X2_39 hd_X2_lineAhead ⟨by omega, by omega⟩ rfl [0, 8] rfl rfl 0 rfl rfl (w_Deeds_begin G a_this a_judge a_kept a_numbers a_changes a_greatest a_judge_crowd a_judge_text a_judge_known a_judge_crowd_heights a_judge_text_tape a_judge_text_reader a_judge_text_steps a_judge_text_worked a_kept_e a_kept_e_who a_p1 a_p1_who ((first_ + (1 : Int32)) - (first_ + (1 : Int32)) / 12 * 12) size judge_crowd_people judge_crowd_heights judge_text_fed judge_text_length judge_text_top judge_text_steps judge_text_worked judge_known kept_e_length kept_e_who numbers p1_length p1_who) [some 0, none, none, none, none, none, none, none, some 1, none, none, none, none, none, none, none, none, none, none, none, none, none, none, none, none, none, none, none, none, none, none, none, none, none, none, none] rfl (by decide +kernel) rfl rfl (Nat.le_of_ble_eq_true rfl) dX2_begin_37 (fun hz_23 => ?_)
    obtain ⟨hj_22, hf⟩ := zgd_some hf
    refine z_aload_n F 1 dX2_begin_40 rfl rfl ?_
    obtain ⟨kept_e_length_24, kept_e_who_25, hg, hf⟩ := zb2_some hf
    refine z_callV (rest := []) (fs := [.ref (a_kept_e_who j_22), .int (kept_e_length j_22)]) F 7 (c_Line_copyFrom (xL X) G (a_kept_e j_22) (a_kept_e_who j_22) a_p1 a_p1_who (kept_e_length j_22) (kept_e_who j_22) p1_length p1_who kept_e_length_24 kept_e_who_25 hg) hy_X7_copyFrom ml_X2_43 hd_X7_copyFrom ⟨by omega, by omega⟩ rfl [9 + 2 * j_22, 10 + 2 * j_22, 34, 35] (by match j_22, hj_22 with | 0, _ => exact rfl | 1, _ => exact rfl | 2, _ => exact rfl | 3, _ => exact rfl | 4, _ => exact rfl | 5, _ => exact rfl | 6, _ => exact rfl | 7, _ => exact rfl | 8, _ => exact rfl | 9, _ => exact rfl | 10, _ => exact rfl | 11, _ => exact rfl) (by match j_22, hj_22 with | 0, _ => exact rfl | 1, _ => exact rfl | 2, _ => exact rfl | 3, _ => exact rfl | 4, _ => exact rfl | 5, _ => exact rfl | 6, _ => exact rfl | 7, _ => exact rfl | 8, _ => exact rfl | 9, _ => exact rfl | 10, _ => exact rfl | 11, _ => exact rfl) (9 + 2 * j_22) (by match j_22, hj_22 with | 0, _ => exact rfl | 1, _ => exact rfl | 2, _ => exact rfl | 3, _ => exact rfl | 4, _ => exact rfl | 5, _ => exact rfl | 6, _ => exact rfl | 7, _ => exact rfl | 8, _ => exact rfl | 9, _ => exact rfl | 10, _ => exact rfl | 11, _ => exact rfl) rfl (w_Deeds_begin G a_this a_judge a_kept a_numbers a_changes a_greatest a_judge_crowd a_judge_text a_judge_known a_judge_crowd_heights a_judge_text_tape a_judge_text_reader a_judge_text_steps a_judge_text_worked a_kept_e a_kept_e_who a_p1 a_p1_who ((first_ + (1 : Int32)) - (first_ + (1 : Int32)) / 12 * 12) size judge_crowd_people judge_crowd_heights judge_text_fed judge_text_length judge_text_top judge_text_steps judge_text_worked judge_known (va_up kept_e_length j_22 kept_e_length_24) (va_up kept_e_who j_22 kept_e_who_25) numbers p1_length p1_who) (by match j_22, hj_22 with | 0, _ => exact rfl | 1, _ => exact rfl | 2, _ => exact rfl | 3, _ => exact rfl | 4, _ => exact rfl | 5, _ => exact rfl | 6, _ => exact rfl | 7, _ => exact rfl | 8, _ => exact rfl | 9, _ => exact rfl | 10, _ => exact rfl | 11, _ => exact rfl) rfl (Nat.le_of_ble_eq_true rfl) dX2_begin_41 (fun hz_26 => ?_)
    refine z_aload_n F 0 dX2_begin_44 rfl rfl ?_
    refine z_get F 0 2 4 inlX2 rfl rfl (by decide) fl_X2_22 rfl dX2_begin_45 ?_
    refine z_bipush F (-2) dX2_begin_48 rfl ?_
    obtain ⟨numbers_27, hg, hf⟩ := zb1_some hf
    refine z_callSm (rest := []) F (c_Arr_fillI (xL X) G 9 a_numbers numbers (-2) numbers_27 hg) hy_J7_fill_53178 ml_X2_47 hd_J7_fill_53178 ⟨by omega, by omega⟩ rfl [33] rfl rfl (w_Deeds_begin G a_this a_judge a_kept a_numbers a_changes a_greatest a_judge_crowd a_judge_text a_judge_known a_judge_crowd_heights a_judge_text_tape a_judge_text_reader a_judge_text_steps a_judge_text_worked a_kept_e a_kept_e_who a_p1 a_p1_who ((first_ + (1 : Int32)) - (first_ + (1 : Int32)) / 12 * 12) size judge_crowd_people judge_crowd_heights judge_text_fed judge_text_length judge_text_top judge_text_steps judge_text_worked judge_known (va_up kept_e_length j_22 kept_e_length_24) (va_up kept_e_who j_22 kept_e_who_25) numbers_27 p1_length p1_who) [none, none, none, none, none, none, none, none, none, none, none, none, none, none, none, none, none, none, none, none, none, none, none, none, none, none, none, none, none, none, none, none, none, some 0, none, none] rfl (by decide +kernel) rfl rfl (Nat.le_of_ble_eq_true rfl) dX2_begin_50 (fun hz_28 => ?_)
    refine z_iconst F (0) dX2_begin_53 rfl ?_
    refine z_istore_n F [(2, .int 0), (0, .ref a_this), (1, .ref a_p1)] dX2_begin_54 rfl (by decide) rfl ?_
    obtain ⟨judge_text_top_29, judge_text_worked_30, judge_known_31, numbers_32, hg, hf⟩ := zb4_some hf
    refine z_sub [1, 2, 0] rfl ?_
    refine l_Deeds_begin_55 G a_this a_judge a_kept a_numbers a_changes a_greatest a_judge_crowd a_judge_text a_judge_known a_judge_crowd_heights a_judge_text_tape a_judge_text_reader a_judge_text_steps a_judge_text_worked a_kept_e a_kept_e_who a_p1 a_p1_who ((first_ + (1 : Int32)) - (first_ + (1 : Int32)) / 12 * 12) size judge_crowd_people judge_crowd_heights judge_text_fed judge_text_length judge_text_steps (va_up kept_e_length j_22 kept_e_length_24) (va_up kept_e_who j_22 kept_e_who_25) p1_length p1_who F judge_text_top_29 judge_text_worked_30 judge_known_31 numbers_32 ?_ FU judge_text_top judge_text_worked judge_known numbers_27 0 hg
    have eq1 := Option.some.inj hf
    obtain ⟨ee1, eq2⟩ := Prod.mk.inj eq1
    obtain ⟨ee2, eq3⟩ := Prod.mk.inj eq2
    obtain ⟨ee3, eq4⟩ := Prod.mk.inj eq3
    obtain ⟨ee4, eq5⟩ := Prod.mk.inj eq4
    obtain ⟨ee5, eq6⟩ := Prod.mk.inj eq5
    obtain ⟨ee6, eq7⟩ := Prod.mk.inj eq6
    obtain ⟨ee7, ee8⟩ := Prod.mk.inj eq7
    subst ee1
    subst ee2
    subst ee3
    subst ee4
    subst ee5
    subst ee6
    subst ee7
    subst ee8
    exact z_vret F rfl rfl rfl dX2_begin_97

abbrev w_Deeds_end (G : zG) (a_this : Nat) (a_judge : Nat) (a_kept : Nat) (a_numbers : Nat) (a_changes : Nat) (a_greatest : Nat) (a_judge_crowd : Nat) (a_judge_text : Nat) (a_judge_known : Nat) (a_judge_crowd_heights : Nat) (a_judge_text_tape : Nat) (a_judge_text_reader : Nat) (a_judge_text_steps : Nat) (a_judge_text_worked : Nat) (a_p1 : Nat) (a_p1_who : Nat) (first_ : Int32) (size : Int32) (judge_crowd_people : Int32) (judge_crowd_heights : Nat → Int32) (judge_text_fed : Int32) (judge_text_length : Int32) (judge_text_top : Int32) (judge_text_steps : Nat → Int32) (judge_text_worked : Nat → Int32) (judge_known : Nat → Int32) (numbers : Nat → Int32) (changes : Nat → Int32) (greatest : Nat → Int32) (p1_length : Int32) (p1_who : Nat → Int32) : va_W := [(a_this, cO 2 [.ref a_judge, .ref a_kept, .int first_, .int size, .ref a_numbers, .ref a_changes, .ref a_greatest]), (a_judge, cO 4 [.ref a_judge_crowd, .ref a_judge_text, .ref a_judge_known]), (a_judge_crowd, cO 1 [.ref a_judge_crowd_heights, .int judge_crowd_people]), (a_judge_crowd_heights, cI G 9 judge_crowd_heights), (a_judge_text, cO 5 [.ref a_judge_text_tape, .int judge_text_fed, .ref a_judge_text_reader, .ref a_judge_text_steps, .int judge_text_length, .ref a_judge_text_worked, .int judge_text_top]), (a_judge_text_steps, cI G 121 judge_text_steps), (a_judge_text_worked, cI G 121 judge_text_worked), (a_judge_known, cB G 729 judge_known), (a_numbers, cI G 9 numbers), (a_changes, cI G 9 changes), (a_greatest, cI G 9 greatest), (a_p1, cO 7 [.ref a_p1_who, .int p1_length]), (a_p1_who, cI G 9 p1_who)]
def f_Deeds_end_L2 (judge_crowd_people : Int32) (judge_crowd_heights : Nat → Int32) (judge_text_length : Int32) (judge_text_steps : Nat → Int32) (numbers : Nat → Int32) (p1_length : Int32) (p1_who : Nat → Int32) : Nat → Int32 → (Nat → Int32) → (Nat → Int32) → (Nat → Int32) → (Nat → Int32) → Int32 → Option (Int32 × (Nat → Int32) × (Nat → Int32) × (Nat → Int32) × (Nat → Int32))
  | 0, _, _, _, _, _, _ => none
  | fuel + 1, judge_text_top, judge_text_worked, judge_known, changes, greatest, v2 => (if (f_Line_size p1_length) ≤ v2 then (some (judge_text_top, judge_text_worked, judge_known, changes, greatest)) else (zb1 (f_Line_at p1_length p1_who v2) fun r_2 => (if (f_Deeds_isLed r_2) = 0 then (f_Deeds_end_L2 judge_crowd_people judge_crowd_heights judge_text_length judge_text_steps numbers p1_length p1_who fuel judge_text_top judge_text_worked judge_known changes greatest (v2 + 1)) else (zb4 (f_Judge_numberAt judge_crowd_people judge_crowd_heights judge_text_length judge_text_top judge_text_steps judge_text_worked judge_known p1_length p1_who v2) fun r_5 judge_text_top_6 judge_text_worked_7 judge_known_8 => (zg numbers 9 r_2 fun v_10 => (if v_10 = (-2) then (zg greatest 9 r_2 fun v_11 => (zs greatest 9 r_2 (if v_11 < r_5 then r_5 else v_11) fun greatest_12 => (f_Deeds_end_L2 judge_crowd_people judge_crowd_heights judge_text_length judge_text_steps numbers p1_length p1_who fuel judge_text_top_6 judge_text_worked_7 judge_known_8 changes greatest_12 (v2 + 1)))) else (zg numbers 9 r_2 fun v_13 => (if v_13 = r_5 then (zg greatest 9 r_2 fun v_14 => (zs greatest 9 r_2 (if v_14 < r_5 then r_5 else v_14) fun greatest_15 => (f_Deeds_end_L2 judge_crowd_people judge_crowd_heights judge_text_length judge_text_steps numbers p1_length p1_who fuel judge_text_top_6 judge_text_worked_7 judge_known_8 changes greatest_15 (v2 + 1)))) else (zg changes 9 r_2 fun v_16 => (zs changes 9 r_2 (v_16 + (1 : Int32)) fun changes_17 => (zg greatest 9 r_2 fun v_18 => (zs greatest 9 r_2 (if v_18 < r_5 then r_5 else v_18) fun greatest_19 => (f_Deeds_end_L2 judge_crowd_people judge_crowd_heights judge_text_length judge_text_steps numbers p1_length p1_who fuel judge_text_top_6 judge_text_worked_7 judge_known_8 changes_17 greatest_19 (v2 + 1))))))))))))))
def f_Deeds_end (judge_crowd_people : Int32) (judge_crowd_heights : Nat → Int32) (judge_text_length : Int32) (judge_text_top : Int32) (judge_text_steps : Nat → Int32) (judge_text_worked : Nat → Int32) (judge_known : Nat → Int32) (numbers : Nat → Int32) (changes : Nat → Int32) (greatest : Nat → Int32) (p1_length : Int32) (p1_who : Nat → Int32) : Option (Int32 × (Nat → Int32) × (Nat → Int32) × (Nat → Int32) × (Nat → Int32)) := (zb5 (f_Deeds_end_L2 judge_crowd_people judge_crowd_heights judge_text_length judge_text_steps numbers p1_length p1_who FU judge_text_top judge_text_worked judge_known changes greatest 0) fun judge_text_top_20 judge_text_worked_21 judge_known_22 changes_23 greatest_24 => (some (judge_text_top_20, judge_text_worked_21, judge_known_22, changes_23, greatest_24)))
set_option maxRecDepth 100000 in
set_option maxHeartbeats 4000000 in
theorem l_Deeds_end_2 {X : zX} (G : zG) (a_this : Nat) (a_judge : Nat) (a_kept : Nat) (a_numbers : Nat) (a_changes : Nat) (a_greatest : Nat) (a_judge_crowd : Nat) (a_judge_text : Nat) (a_judge_known : Nat) (a_judge_crowd_heights : Nat) (a_judge_text_tape : Nat) (a_judge_text_reader : Nat) (a_judge_text_steps : Nat) (a_judge_text_worked : Nat) (a_p1 : Nat) (a_p1_who : Nat) (first_ : Int32) (size : Int32) (judge_crowd_people : Int32) (judge_crowd_heights : Nat → Int32) (judge_text_fed : Int32) (judge_text_length : Int32) (judge_text_steps : Nat → Int32) (numbers : Nat → Int32) (p1_length : Int32) (p1_who : Nat → Int32) {v0 : Option Value} {w0 : va_W} (F : zF X G cX2_end RX2 5 none 4 104 v0 w0) (e_judge_text_top : Int32) (e_judge_text_worked : Nat → Int32) (e_judge_known : Nat → Int32) (e_changes : Nat → Int32) (e_greatest : Nat → Int32) (hk : Z X G 5 (w_Deeds_end G a_this a_judge a_kept a_numbers a_changes a_greatest a_judge_crowd a_judge_text a_judge_known a_judge_crowd_heights a_judge_text_tape a_judge_text_reader a_judge_text_steps a_judge_text_worked a_p1 a_p1_who first_ size judge_crowd_people judge_crowd_heights judge_text_fed judge_text_length e_judge_text_top judge_text_steps e_judge_text_worked e_judge_known numbers e_changes e_greatest p1_length p1_who) [] 92 []) :
    ∀ (fuel : Nat) (judge_text_top : Int32) (judge_text_worked : Nat → Int32) (judge_known : Nat → Int32) (changes : Nat → Int32) (greatest : Nat → Int32) (v2 : Int32), f_Deeds_end_L2 judge_crowd_people judge_crowd_heights judge_text_length judge_text_steps numbers p1_length p1_who fuel judge_text_top judge_text_worked judge_known changes greatest v2 = some (e_judge_text_top, e_judge_text_worked, e_judge_known, e_changes, e_greatest) → Z X G 5 (w_Deeds_end G a_this a_judge a_kept a_numbers a_changes a_greatest a_judge_crowd a_judge_text a_judge_known a_judge_crowd_heights a_judge_text_tape a_judge_text_reader a_judge_text_steps a_judge_text_worked a_p1 a_p1_who first_ size judge_crowd_people judge_crowd_heights judge_text_fed judge_text_length judge_text_top judge_text_steps judge_text_worked judge_known numbers changes greatest p1_length p1_who) [(0, .ref a_this), (1, .ref a_p1), (2, .int v2)] 2 [] := by
  intro fuel
  induction fuel with
  | zero => intro judge_text_top judge_text_worked judge_known changes greatest v2 hf; exact absurd ((f_Deeds_end_L2.eq_1 ..).symm.trans hf) (fun h => by cases h)
  | succ fuel ih =>
    intro judge_text_top judge_text_worked judge_known changes greatest v2 hf
    replace hf := (f_Deeds_end_L2.eq_2 ..).symm.trans hf
    refine z_iload_n F 2 dX2_end_2 rfl rfl ?_
    refine z_aload_n F 1 dX2_end_3 rfl rfl ?_
    refine z_callVm (rest := [.int v2]) F 7 (c_Line_size (xL X) G a_p1 a_p1_who p1_length _ rfl) hy_X7_size ml_X2_53 hd_X7_size ⟨by omega, by omega⟩ rfl [11] rfl rfl 11 rfl rfl (w_Deeds_end G a_this a_judge a_kept a_numbers a_changes a_greatest a_judge_crowd a_judge_text a_judge_known a_judge_crowd_heights a_judge_text_tape a_judge_text_reader a_judge_text_steps a_judge_text_worked a_p1 a_p1_who first_ size judge_crowd_people judge_crowd_heights judge_text_fed judge_text_length judge_text_top judge_text_steps judge_text_worked judge_known numbers changes greatest p1_length p1_who) [none, none, none, none, none, none, none, none, none, none, none, some 0, none] rfl (by decide +kernel) rfl rfl (Nat.le_of_ble_eq_true rfl) dX2_end_4 (fun hz_1 => ?_)
    refine z_icmp_ge F 92 dX2_end_7 (by decide) hf (fun hf _ => ?_) (fun hf _ => ?_)
    · have eq1 := Option.some.inj hf
      obtain ⟨ee1, eq2⟩ := Prod.mk.inj eq1
      obtain ⟨ee2, eq3⟩ := Prod.mk.inj eq2
      obtain ⟨ee3, eq4⟩ := Prod.mk.inj eq3
      obtain ⟨ee4, ee5⟩ := Prod.mk.inj eq4
      subst ee1
      subst ee2
      subst ee3
      subst ee4
      subst ee5
      exact z_sub [] rfl hk
    · refine z_aload_n F 1 dX2_end_10 rfl rfl ?_
      refine z_iload_n F 2 dX2_end_11 rfl rfl ?_
      obtain ⟨r_2, hg, hf⟩ := zb1_some hf
      refine z_callVm (rest := []) F 7 (c_Line_at (xL X) G a_p1 a_p1_who p1_length p1_who v2 r_2 hg) hy_X7_at ml_X2_56 hd_X7_at ⟨by omega, by omega⟩ rfl [11, 12] rfl rfl 11 rfl rfl (w_Deeds_end G a_this a_judge a_kept a_numbers a_changes a_greatest a_judge_crowd a_judge_text a_judge_known a_judge_crowd_heights a_judge_text_tape a_judge_text_reader a_judge_text_steps a_judge_text_worked a_p1 a_p1_who first_ size judge_crowd_people judge_crowd_heights judge_text_fed judge_text_length judge_text_top judge_text_steps judge_text_worked judge_known numbers changes greatest p1_length p1_who) [none, none, none, none, none, none, none, none, none, none, none, some 0, some 1] rfl (by decide +kernel) rfl rfl (Nat.le_of_ble_eq_true rfl) dX2_end_12 (fun hz_3 => ?_)
      refine z_istore_n F [(3, .int r_2), (0, .ref a_this), (1, .ref a_p1), (2, .int v2)] dX2_end_15 rfl (by decide) rfl ?_
      refine z_iload_n F 0 dX2_end_16 rfl rfl ?_
      refine z_callSm (rest := []) F (c_Deeds_isLed (xL X) G r_2 _ rfl) hy_X2_isLed ml_X2_60 hd_X2_isLed ⟨by omega, by omega⟩ rfl [] rfl rfl (w_Deeds_end G a_this a_judge a_kept a_numbers a_changes a_greatest a_judge_crowd a_judge_text a_judge_known a_judge_crowd_heights a_judge_text_tape a_judge_text_reader a_judge_text_steps a_judge_text_worked a_p1 a_p1_who first_ size judge_crowd_people judge_crowd_heights judge_text_fed judge_text_length judge_text_top judge_text_steps judge_text_worked judge_known numbers changes greatest p1_length p1_who) [none, none, none, none, none, none, none, none, none, none, none, none, none] rfl (by decide +kernel) rfl rfl (Nat.le_of_ble_eq_true rfl) dX2_end_17 (fun hz_4 => ?_)
      refine z_if_ne F 26 dX2_end_20 (by decide) hf (fun hf _ => ?_) (fun hf _ => ?_)
      · refine z_aload_n F 1 dX2_end_26 rfl rfl ?_
        refine z_get F 0 2 0 inlX2 rfl rfl (by decide) fl_X2_9 rfl dX2_end_27 ?_
        refine z_aload_n F 2 dX2_end_30 rfl rfl ?_
        refine z_iload_n F 3 dX2_end_31 rfl rfl ?_
        obtain ⟨r_5, judge_text_top_6, judge_text_worked_7, judge_known_8, hg, hf⟩ := zb4_some hf
        refine z_callVm (rest := []) F 4 (c_Judge_numberAt (xL X) G a_judge a_judge_crowd a_judge_text a_judge_known a_judge_crowd_heights a_judge_text_tape a_judge_text_reader a_judge_text_steps a_judge_text_worked a_p1 a_p1_who judge_crowd_people judge_crowd_heights judge_text_fed judge_text_length judge_text_top judge_text_steps judge_text_worked judge_known p1_length p1_who v2 r_5 judge_text_top_6 judge_text_worked_7 judge_known_8 hg) hy_X4_numberAt ml_X2_64 hd_X4_numberAt ⟨by omega, by omega⟩ rfl [1, 2, 3, 4, 5, 6, 7, 11, 12] rfl rfl 1 rfl rfl (w_Deeds_end G a_this a_judge a_kept a_numbers a_changes a_greatest a_judge_crowd a_judge_text a_judge_known a_judge_crowd_heights a_judge_text_tape a_judge_text_reader a_judge_text_steps a_judge_text_worked a_p1 a_p1_who first_ size judge_crowd_people judge_crowd_heights judge_text_fed judge_text_length judge_text_top_6 judge_text_steps judge_text_worked_7 judge_known_8 numbers changes greatest p1_length p1_who) [none, some 0, some 1, some 2, some 3, some 4, some 5, some 6, none, none, none, some 7, some 8] rfl (by decide +kernel) rfl rfl (Nat.le_of_ble_eq_true rfl) dX2_end_32 (fun hz_9 => ?_)
        refine z_istore F [(4, .int r_5), (3, .int r_2), (0, .ref a_this), (1, .ref a_p1), (2, .int v2)] dX2_end_35 (by decide) rfl ?_
        refine z_aload_n F 2 dX2_end_37 rfl rfl ?_
        refine z_get F 0 2 4 inlX2 rfl rfl (by decide) fl_X2_22 rfl dX2_end_38 ?_
        refine z_iload_n F 1 dX2_end_41 rfl rfl ?_
        refine z_iald F 8 rfl hf dX2_end_42 (fun v_10 hf => ?_)
        refine z_bipush F (-2) dX2_end_43 rfl ?_
        refine z_icmp_eq F 69 dX2_end_45 (by decide) hf (fun hf _ => ?_) (fun hf _ => ?_)
        · refine z_aload_n F 2 dX2_end_69 rfl rfl ?_
          refine z_get F 0 2 6 inlX2 rfl rfl (by decide) fl_X2_29 rfl dX2_end_70 ?_
          refine z_iload_n F 1 dX2_end_73 rfl rfl ?_
          refine z_aload_n F 2 dX2_end_74 rfl rfl ?_
          refine z_get F 0 2 6 inlX2 rfl rfl (by decide) fl_X2_29 rfl dX2_end_75 ?_
          refine z_iload_n F 1 dX2_end_78 rfl rfl ?_
          refine z_iald F 10 rfl hf dX2_end_79 (fun v_11 hf => ?_)
          refine z_iload F 0 dX2_end_80 rfl ?_
          refine z_max F ⟨(uw29 _ (List.mem_of_getElem? (i := 2) rfl)), (uw23 _ (List.mem_of_getElem? (i := 11) rfl)), (uw23 _ (List.mem_of_getElem? (i := 3) rfl)), (uw23 _ (List.mem_of_getElem? (i := 12) rfl))⟩ (by omega) (Nat.le_of_ble_eq_true rfl) dX2_end_82 ?_
          refine z_iast F 10 (fun greatest_12 => (w_Deeds_end G a_this a_judge a_kept a_numbers a_changes a_greatest a_judge_crowd a_judge_text a_judge_known a_judge_crowd_heights a_judge_text_tape a_judge_text_reader a_judge_text_steps a_judge_text_worked a_p1 a_p1_who first_ size judge_crowd_people judge_crowd_heights judge_text_fed judge_text_length judge_text_top_6 judge_text_steps judge_text_worked_7 judge_known_8 numbers changes greatest_12 p1_length p1_who)) rfl hf (fun _ => rfl) dX2_end_85 (fun greatest_12 hf => ?_)
          refine z_iinc F [(2, .int (v2 + 1)), (4, .int r_5), (3, .int r_2), (0, .ref a_this), (1, .ref a_p1)] dX2_end_86 4 rfl rfl (by decide) rfl ?_
          refine z_goto F 2 dX2_end_89 (by decide) ?_
          exact z_sub [3, 4, 0] rfl (ih judge_text_top_6 judge_text_worked_7 judge_known_8 changes greatest_12 (v2 + 1) hf)
        · refine z_aload_n F 2 dX2_end_48 rfl rfl ?_
          refine z_get F 0 2 4 inlX2 rfl rfl (by decide) fl_X2_22 rfl dX2_end_49 ?_
          refine z_iload_n F 1 dX2_end_52 rfl rfl ?_
          refine z_iald F 8 rfl hf dX2_end_53 (fun v_13 hf => ?_)
          refine z_iload F 0 dX2_end_54 rfl ?_
          refine z_icmp_eq F 69 dX2_end_56 (by decide) hf (fun hf _ => ?_) (fun hf _ => ?_)
          · refine z_aload_n F 2 dX2_end_69 rfl rfl ?_
            refine z_get F 0 2 6 inlX2 rfl rfl (by decide) fl_X2_29 rfl dX2_end_70 ?_
            refine z_iload_n F 1 dX2_end_73 rfl rfl ?_
            refine z_aload_n F 2 dX2_end_74 rfl rfl ?_
            refine z_get F 0 2 6 inlX2 rfl rfl (by decide) fl_X2_29 rfl dX2_end_75 ?_
            refine z_iload_n F 1 dX2_end_78 rfl rfl ?_
            refine z_iald F 10 rfl hf dX2_end_79 (fun v_14 hf => ?_)
            refine z_iload F 0 dX2_end_80 rfl ?_
            refine z_max F ⟨(uw29 _ (List.mem_of_getElem? (i := 2) rfl)), (uw23 _ (List.mem_of_getElem? (i := 11) rfl)), (uw23 _ (List.mem_of_getElem? (i := 3) rfl)), (uw23 _ (List.mem_of_getElem? (i := 12) rfl))⟩ (by omega) (Nat.le_of_ble_eq_true rfl) dX2_end_82 ?_
            refine z_iast F 10 (fun greatest_15 => (w_Deeds_end G a_this a_judge a_kept a_numbers a_changes a_greatest a_judge_crowd a_judge_text a_judge_known a_judge_crowd_heights a_judge_text_tape a_judge_text_reader a_judge_text_steps a_judge_text_worked a_p1 a_p1_who first_ size judge_crowd_people judge_crowd_heights judge_text_fed judge_text_length judge_text_top_6 judge_text_steps judge_text_worked_7 judge_known_8 numbers changes greatest_15 p1_length p1_who)) rfl hf (fun _ => rfl) dX2_end_85 (fun greatest_15 hf => ?_)
            refine z_iinc F [(2, .int (v2 + 1)), (4, .int r_5), (3, .int r_2), (0, .ref a_this), (1, .ref a_p1)] dX2_end_86 4 rfl rfl (by decide) rfl ?_
            refine z_goto F 2 dX2_end_89 (by decide) ?_
            exact z_sub [3, 4, 0] rfl (ih judge_text_top_6 judge_text_worked_7 judge_known_8 changes greatest_15 (v2 + 1) hf)
          · refine z_aload_n F 2 dX2_end_59 rfl rfl ?_
            refine z_get F 0 2 5 inlX2 rfl rfl (by decide) fl_X2_26 rfl dX2_end_60 ?_
            refine z_iload_n F 1 dX2_end_63 rfl rfl ?_
            refine z_dup2 F rfl rfl dX2_end_64 ?_
            refine z_iald F 9 rfl hf dX2_end_65 (fun v_16 hf => ?_)
            refine z_iconst F (1) dX2_end_66 rfl ?_
            refine z_iadd F dX2_end_67 ?_
            refine z_iast F 9 (fun changes_17 => (w_Deeds_end G a_this a_judge a_kept a_numbers a_changes a_greatest a_judge_crowd a_judge_text a_judge_known a_judge_crowd_heights a_judge_text_tape a_judge_text_reader a_judge_text_steps a_judge_text_worked a_p1 a_p1_who first_ size judge_crowd_people judge_crowd_heights judge_text_fed judge_text_length judge_text_top_6 judge_text_steps judge_text_worked_7 judge_known_8 numbers changes_17 greatest p1_length p1_who)) rfl hf (fun _ => rfl) dX2_end_68 (fun changes_17 hf => ?_)
            refine z_aload_n F 2 dX2_end_69 rfl rfl ?_
            refine z_get F 0 2 6 inlX2 rfl rfl (by decide) fl_X2_29 rfl dX2_end_70 ?_
            refine z_iload_n F 1 dX2_end_73 rfl rfl ?_
            refine z_aload_n F 2 dX2_end_74 rfl rfl ?_
            refine z_get F 0 2 6 inlX2 rfl rfl (by decide) fl_X2_29 rfl dX2_end_75 ?_
            refine z_iload_n F 1 dX2_end_78 rfl rfl ?_
            refine z_iald F 10 rfl hf dX2_end_79 (fun v_18 hf => ?_)
            refine z_iload F 0 dX2_end_80 rfl ?_
            refine z_max F ⟨(uw29 _ (List.mem_of_getElem? (i := 2) rfl)), (uw23 _ (List.mem_of_getElem? (i := 11) rfl)), (uw23 _ (List.mem_of_getElem? (i := 3) rfl)), (uw23 _ (List.mem_of_getElem? (i := 12) rfl))⟩ (by omega) (Nat.le_of_ble_eq_true rfl) dX2_end_82 ?_
            refine z_iast F 10 (fun greatest_19 => (w_Deeds_end G a_this a_judge a_kept a_numbers a_changes a_greatest a_judge_crowd a_judge_text a_judge_known a_judge_crowd_heights a_judge_text_tape a_judge_text_reader a_judge_text_steps a_judge_text_worked a_p1 a_p1_who first_ size judge_crowd_people judge_crowd_heights judge_text_fed judge_text_length judge_text_top_6 judge_text_steps judge_text_worked_7 judge_known_8 numbers changes_17 greatest_19 p1_length p1_who)) rfl hf (fun _ => rfl) dX2_end_85 (fun greatest_19 hf => ?_)
            refine z_iinc F [(2, .int (v2 + 1)), (4, .int r_5), (3, .int r_2), (0, .ref a_this), (1, .ref a_p1)] dX2_end_86 4 rfl rfl (by decide) rfl ?_
            refine z_goto F 2 dX2_end_89 (by decide) ?_
            exact z_sub [3, 4, 0] rfl (ih judge_text_top_6 judge_text_worked_7 judge_known_8 changes_17 greatest_19 (v2 + 1) hf)
      · refine z_goto F 86 dX2_end_23 (by decide) ?_
        refine z_iinc F [(2, .int (v2 + 1)), (3, .int r_2), (0, .ref a_this), (1, .ref a_p1)] dX2_end_86 3 rfl rfl (by decide) rfl ?_
        refine z_goto F 2 dX2_end_89 (by decide) ?_
        exact z_sub [2, 3, 0] rfl (ih judge_text_top judge_text_worked judge_known changes greatest (v2 + 1) hf)

set_option maxRecDepth 100000 in
set_option maxHeartbeats 4000000 in
theorem c_Deeds_end (l : Launch) (G : zG) (a_this : Nat) (a_judge : Nat) (a_kept : Nat) (a_numbers : Nat) (a_changes : Nat) (a_greatest : Nat) (a_judge_crowd : Nat) (a_judge_text : Nat) (a_judge_known : Nat) (a_judge_crowd_heights : Nat) (a_judge_text_tape : Nat) (a_judge_text_reader : Nat) (a_judge_text_steps : Nat) (a_judge_text_worked : Nat) (a_p1 : Nat) (a_p1_who : Nat) (first_ : Int32) (size : Int32) (judge_crowd_people : Int32) (judge_crowd_heights : Nat → Int32) (judge_text_fed : Int32) (judge_text_length : Int32) (judge_text_top : Int32) (judge_text_steps : Nat → Int32) (judge_text_worked : Nat → Int32) (judge_known : Nat → Int32) (numbers : Nat → Int32) (changes : Nat → Int32) (greatest : Nat → Int32) (p1_length : Int32) (p1_who : Nat → Int32) (o_judge_text_top : Int32) (o_judge_text_worked : Nat → Int32) (o_judge_known : Nat → Int32) (o_changes : Nat → Int32) (o_greatest : Nat → Int32) (hf : f_Deeds_end judge_crowd_people judge_crowd_heights judge_text_length judge_text_top judge_text_steps judge_text_worked judge_known numbers changes greatest p1_length p1_who = some (o_judge_text_top, o_judge_text_worked, o_judge_known, o_changes, o_greatest)) : zM l yX2_end cX2_end 5 none 4 104 G [.ref a_this, .ref a_p1] (w_Deeds_end G a_this a_judge a_kept a_numbers a_changes a_greatest a_judge_crowd a_judge_text a_judge_known a_judge_crowd_heights a_judge_text_tape a_judge_text_reader a_judge_text_steps a_judge_text_worked a_p1 a_p1_who first_ size judge_crowd_people judge_crowd_heights judge_text_fed judge_text_length judge_text_top judge_text_steps judge_text_worked judge_known numbers changes greatest p1_length p1_who) (none) (w_Deeds_end G a_this a_judge a_kept a_numbers a_changes a_greatest a_judge_crowd a_judge_text a_judge_known a_judge_crowd_heights a_judge_text_tape a_judge_text_reader a_judge_text_steps a_judge_text_worked a_p1 a_p1_who first_ size judge_crowd_people judge_crowd_heights judge_text_fed judge_text_length o_judge_text_top judge_text_steps o_judge_text_worked o_judge_known numbers o_changes o_greatest p1_length p1_who) := by
  refine zM.of [(0, .ref a_this), (1, .ref a_p1)] (own := RX2) rfl (by decide +kernel) (Nat.le_of_ble_eq_true rfl) rfl rfl fun X hX F => ?_
  subst hX
  replace hf := (f_Deeds_end.eq_1 ..).symm.trans hf
  refine z_iconst F (0) dX2_end_0 rfl ?_
  refine z_istore_n F [(2, .int 0), (0, .ref a_this), (1, .ref a_p1)] dX2_end_1 rfl (by decide) rfl ?_
  obtain ⟨judge_text_top_20, judge_text_worked_21, judge_known_22, changes_23, greatest_24, hg, hf⟩ := zb5_some hf
  refine z_sub [1, 2, 0] rfl ?_
  refine l_Deeds_end_2 G a_this a_judge a_kept a_numbers a_changes a_greatest a_judge_crowd a_judge_text a_judge_known a_judge_crowd_heights a_judge_text_tape a_judge_text_reader a_judge_text_steps a_judge_text_worked a_p1 a_p1_who first_ size judge_crowd_people judge_crowd_heights judge_text_fed judge_text_length judge_text_steps numbers p1_length p1_who F judge_text_top_20 judge_text_worked_21 judge_known_22 changes_23 greatest_24 ?_ FU judge_text_top judge_text_worked judge_known changes greatest 0 hg
  have eq1 := Option.some.inj hf
  obtain ⟨ee1, eq2⟩ := Prod.mk.inj eq1
  obtain ⟨ee2, eq3⟩ := Prod.mk.inj eq2
  obtain ⟨ee3, eq4⟩ := Prod.mk.inj eq3
  obtain ⟨ee4, ee5⟩ := Prod.mk.inj eq4
  subst ee1
  subst ee2
  subst ee3
  subst ee4
  subst ee5
  exact z_vret F rfl rfl rfl dX2_end_92

abbrev w_Deeds_isKept (G : zG) (a_this : Nat) (a_judge : Nat) (a_kept : Nat) (a_numbers : Nat) (a_changes : Nat) (a_greatest : Nat) (first_ : Int32) (size : Int32) : va_W := [(a_this, cO 2 [.ref a_judge, .ref a_kept, .int first_, .int size, .ref a_numbers, .ref a_changes, .ref a_greatest])]
def f_Deeds_isKept (size : Int32) (x1 : Int32) : Int32 := (if x1 < 1 then 0 else (if size < x1 then 0 else 1))
set_option maxRecDepth 100000 in
set_option maxHeartbeats 4000000 in
theorem c_Deeds_isKept (l : Launch) (G : zG) (a_this : Nat) (a_judge : Nat) (a_kept : Nat) (a_numbers : Nat) (a_changes : Nat) (a_greatest : Nat) (first_ : Int32) (size : Int32) (x1 : Int32) (r_ : Int32) (hf : f_Deeds_isKept size x1 = r_) : zM l yX2_isKept cX2_isKept 2 (some .boolean) 0 0 G [.ref a_this, .int x1] (w_Deeds_isKept G a_this a_judge a_kept a_numbers a_changes a_greatest first_ size) (some (.int r_)) (w_Deeds_isKept G a_this a_judge a_kept a_numbers a_changes a_greatest first_ size) := by
  refine zM.of [(0, .ref a_this), (1, .int x1)] (own := RX2) rfl (by decide +kernel) (Nat.le_of_ble_eq_true rfl) rfl rfl fun X hX F => ?_
  subst hX
  replace hf := (f_Deeds_isKept.eq_1 ..).symm.trans hf
  refine z_iload_n F 1 dX2_isKept_0 rfl rfl ?_
  refine z_iconst F (1) dX2_isKept_1 rfl ?_
  refine z_icmp_lt F 17 dX2_isKept_2 (by decide) hf (fun hf _ => ?_) (fun hf _ => ?_)
  · refine z_iconst F (0) dX2_isKept_17 rfl ?_
    subst hf
    exact z_iret F rfl rfl rfl rfl dX2_isKept_18
  · refine z_iload_n F 1 dX2_isKept_5 rfl rfl ?_
    refine z_aload_n F 0 dX2_isKept_6 rfl rfl ?_
    refine z_get F 0 2 3 inlX2 rfl rfl (by decide) fl_X2_32 rfl dX2_isKept_7 ?_
    refine z_icmp_gt F 17 dX2_isKept_10 (by decide) hf (fun hf _ => ?_) (fun hf _ => ?_)
    · refine z_iconst F (0) dX2_isKept_17 rfl ?_
      subst hf
      exact z_iret F rfl rfl rfl rfl dX2_isKept_18
    · refine z_iconst F (1) dX2_isKept_13 rfl ?_
      refine z_goto F 18 dX2_isKept_14 (by decide) ?_
      subst hf
      exact z_iret F rfl rfl rfl rfl dX2_isKept_18

abbrev w_Deeds_forget (G : zG) (a_this : Nat) (a_judge : Nat) (a_kept : Nat) (a_numbers : Nat) (a_changes : Nat) (a_greatest : Nat) (first_ : Int32) (size : Int32) : va_W := [(a_this, cO 2 [.ref a_judge, .ref a_kept, .int first_, .int size, .ref a_numbers, .ref a_changes, .ref a_greatest])]
def f_Deeds_forget (size : Int32) (x1 : Int32) : Option Int32 := (if (f_Deeds_isKept size x1) = 0 then (some size) else (some (size - x1)))
set_option maxRecDepth 100000 in
set_option maxHeartbeats 4000000 in
theorem c_Deeds_forget (l : Launch) (G : zG) (a_this : Nat) (a_judge : Nat) (a_kept : Nat) (a_numbers : Nat) (a_changes : Nat) (a_greatest : Nat) (first_ : Int32) (size : Int32) (x1 : Int32) (o_size : Int32) (hf : f_Deeds_forget size x1 = some o_size) : zM l yX2_forget cX2_forget 2 none 1 21 G [.ref a_this, .int x1] (w_Deeds_forget G a_this a_judge a_kept a_numbers a_changes a_greatest first_ size) (none) (w_Deeds_forget G a_this a_judge a_kept a_numbers a_changes a_greatest first_ o_size) := by
  refine zM.of [(0, .ref a_this), (1, .int x1)] (own := RX2) rfl (by decide +kernel) (Nat.le_of_ble_eq_true rfl) rfl rfl fun X hX F => ?_
  subst hX
  replace hf := (f_Deeds_forget.eq_1 ..).symm.trans hf
  refine z_aload_n F 0 dX2_forget_0 rfl rfl ?_
  refine z_iload_n F 1 dX2_forget_1 rfl rfl ?_
  refine z_callVm (rest := []) F 2 (c_Deeds_isKept (xL X) G a_this a_judge a_kept a_numbers a_changes a_greatest first_ size x1 _ rfl) hy_X2_isKept ml_X2_79 hd_X2_isKept ⟨by omega, by omega⟩ rfl [0] rfl rfl 0 rfl rfl (w_Deeds_forget G a_this a_judge a_kept a_numbers a_changes a_greatest first_ size) [some 0] rfl (by decide +kernel) rfl rfl (Nat.le_of_ble_eq_true rfl) dX2_forget_2 (fun hz_1 => ?_)
  refine z_if_eq F 18 dX2_forget_5 (by decide) hf (fun hf _ => ?_) (fun hf _ => ?_)
  · have ee1 := Option.some.inj hf
    subst ee1
    exact z_vret F rfl rfl rfl dX2_forget_18
  · refine z_aload_n F 0 dX2_forget_8 rfl rfl ?_
    refine z_dup F rfl dX2_forget_9 ?_
    refine z_get F 0 2 3 inlX2 rfl rfl (by decide) fl_X2_32 rfl dX2_forget_10 ?_
    refine z_iload_n F 1 dX2_forget_13 rfl rfl ?_
    refine z_isub F dX2_forget_14 ?_
    refine z_put F 0 2 3 (w_Deeds_forget G a_this a_judge a_kept a_numbers a_changes a_greatest first_ (size - x1)) inlX2 tyX2 tyX2_ok nmX2 rfl rfl (by decide) fl_X2_32 rfl rfl rfl (Nat.le_of_ble_eq_true rfl) rfl dX2_forget_15 ?_
    have ee1 := Option.some.inj hf
    subst ee1
    exact z_vret F rfl rfl rfl dX2_forget_18

abbrev w_Deeds_size (G : zG) (a_this : Nat) (a_judge : Nat) (a_kept : Nat) (a_numbers : Nat) (a_changes : Nat) (a_greatest : Nat) (first_ : Int32) (size : Int32) : va_W := [(a_this, cO 2 [.ref a_judge, .ref a_kept, .int first_, .int size, .ref a_numbers, .ref a_changes, .ref a_greatest])]
def f_Deeds_size (size : Int32) : Int32 := size
set_option maxRecDepth 100000 in
set_option maxHeartbeats 4000000 in
theorem c_Deeds_size (l : Launch) (G : zG) (a_this : Nat) (a_judge : Nat) (a_kept : Nat) (a_numbers : Nat) (a_changes : Nat) (a_greatest : Nat) (first_ : Int32) (size : Int32) (r_ : Int32) (hf : f_Deeds_size size = r_) : zM l yX2_size cX2_size 1 (some .int) 0 0 G [.ref a_this] (w_Deeds_size G a_this a_judge a_kept a_numbers a_changes a_greatest first_ size) (some (.int r_)) (w_Deeds_size G a_this a_judge a_kept a_numbers a_changes a_greatest first_ size) := by
  refine zM.of [(0, .ref a_this)] (own := RX2) rfl (by decide +kernel) (Nat.le_of_ble_eq_true rfl) rfl rfl fun X hX F => ?_
  subst hX
  replace hf := (f_Deeds_size.eq_1 ..).symm.trans hf
  refine z_aload_n F 0 dX2_size_0 rfl rfl ?_
  refine z_get F 0 2 3 inlX2 rfl rfl (by decide) fl_X2_32 rfl dX2_size_1 ?_
  subst hf
  exact z_iret F rfl rfl rfl rfl dX2_size_4

