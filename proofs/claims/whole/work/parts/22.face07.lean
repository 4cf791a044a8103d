/-! by program (wip/whole/gen.py): pure functions and contracts -/
theorem dX11_rows_0 : decode cX11_rows 0 = .ok (.iload_n 1, 1) := by decide +kernel
theorem dX11_rows_1 : decode cX11_rows 1 = .ok (.invokestatic 221, 3) := by decide +kernel
theorem dX11_rows_4 : decode cX11_rows 4 = .ok (.ifCond .ne 5, 3) := by decide +kernel
theorem dX11_rows_7 : decode cX11_rows 7 = .ok (.iconst (-1), 1) := by decide +kernel
theorem dX11_rows_8 : decode cX11_rows 8 = .ok (.ireturn, 1) := by decide +kernel
theorem dX11_rows_9 : decode cX11_rows 9 = .ok (.aload_n 0, 1) := by decide +kernel
theorem dX11_rows_10 : decode cX11_rows 10 = .ok (.getfield 70, 3) := by decide +kernel
theorem dX11_rows_13 : decode cX11_rows 13 = .ok (.aload_n 0, 1) := by decide +kernel
theorem dX11_rows_14 : decode cX11_rows 14 = .ok (.getfield 19, 3) := by decide +kernel
theorem dX11_rows_17 : decode cX11_rows 17 = .ok (.invokevirtual 94, 3) := by decide +kernel
theorem dX11_rows_20 : decode cX11_rows 20 = .ok (.iload_n 1, 1) := by decide +kernel
theorem dX11_rows_21 : decode cX11_rows 21 = .ok (.invokevirtual 245, 3) := by decide +kernel
theorem dX11_rows_24 : decode cX11_rows 24 = .ok (.ireturn, 1) := by decide +kernel
theorem dX11_rth_0 : decode cX11_rth 0 = .ok (.iload_n 1, 1) := by decide +kernel
theorem dX11_rth_1 : decode cX11_rth 1 = .ok (.invokestatic 221, 3) := by decide +kernel
theorem dX11_rth_4 : decode cX11_rth 4 = .ok (.ifCond .eq 18, 3) := by decide +kernel
theorem dX11_rth_7 : decode cX11_rth 7 = .ok (.iload_n 2, 1) := by decide +kernel
theorem dX11_rth_8 : decode cX11_rth 8 = .ok (.ifCond .lt 14, 3) := by decide +kernel
theorem dX11_rth_11 : decode cX11_rth 11 = .ok (.aload_n 0, 1) := by decide +kernel
theorem dX11_rth_12 : decode cX11_rth 12 = .ok (.getfield 19, 3) := by decide +kernel
theorem dX11_rth_15 : decode cX11_rth 15 = .ok (.iload_n 3, 1) := by decide +kernel
theorem dX11_rth_16 : decode cX11_rth 16 = .ok (.invokevirtual 140, 3) := by decide +kernel
theorem dX11_rth_19 : decode cX11_rth 19 = .ok (.ifCond .ne 5, 3) := by decide +kernel
theorem dX11_rth_22 : decode cX11_rth 22 = .ok (.iconst (-1), 1) := by decide +kernel
theorem dX11_rth_23 : decode cX11_rth 23 = .ok (.ireturn, 1) := by decide +kernel
theorem dX11_rth_24 : decode cX11_rth 24 = .ok (.iload_n 2, 1) := by decide +kernel
theorem dX11_rth_25 : decode cX11_rth 25 = .ok (.aload_n 0, 1) := by decide +kernel
theorem dX11_rth_26 : decode cX11_rth 26 = .ok (.getfield 70, 3) := by decide +kernel
theorem dX11_rth_29 : decode cX11_rth 29 = .ok (.aload_n 0, 1) := by decide +kernel
theorem dX11_rth_30 : decode cX11_rth 30 = .ok (.getfield 19, 3) := by decide +kernel
theorem dX11_rth_33 : decode cX11_rth 33 = .ok (.invokevirtual 94, 3) := by decide +kernel
theorem dX11_rth_36 : decode cX11_rth 36 = .ok (.iload_n 1, 1) := by decide +kernel
theorem dX11_rth_37 : decode cX11_rth 37 = .ok (.invokevirtual 245, 3) := by decide +kernel
theorem dX11_rth_40 : decode cX11_rth 40 = .ok (.if_icmp .lt 6, 3) := by decide +kernel
theorem dX11_rth_43 : decode cX11_rth 43 = .ok (.bipush (-2), 2) := by decide +kernel
theorem dX11_rth_45 : decode cX11_rth 45 = .ok (.ireturn, 1) := by decide +kernel
theorem dX11_rth_46 : decode cX11_rth 46 = .ok (.aload_n 0, 1) := by decide +kernel
theorem dX11_rth_47 : decode cX11_rth 47 = .ok (.getfield 70, 3) := by decide +kernel
theorem dX11_rth_50 : decode cX11_rth 50 = .ok (.aload_n 0, 1) := by decide +kernel
theorem dX11_rth_51 : decode cX11_rth 51 = .ok (.getfield 19, 3) := by decide +kernel
theorem dX11_rth_54 : decode cX11_rth 54 = .ok (.iload_n 1, 1) := by decide +kernel
theorem dX11_rth_55 : decode cX11_rth 55 = .ok (.iload_n 2, 1) := by decide +kernel
theorem dX11_rth_56 : decode cX11_rth 56 = .ok (.iload_n 3, 1) := by decide +kernel
theorem dX11_rth_57 : decode cX11_rth 57 = .ok (.invokevirtual 248, 3) := by decide +kernel
theorem dX11_rth_60 : decode cX11_rth 60 = .ok (.ireturn, 1) := by decide +kernel
theorem dX11_calm_0 : decode cX11_calm 0 = .ok (.iload_n 1, 1) := by decide +kernel
theorem dX11_calm_1 : decode cX11_calm 1 = .ok (.ifCond .lt 8, 3) := by decide +kernel
theorem dX11_calm_4 : decode cX11_calm 4 = .ok (.iload_n 1, 1) := by decide +kernel
theorem dX11_calm_5 : decode cX11_calm 5 = .ok (.iconst 1, 1) := by decide +kernel
theorem dX11_calm_6 : decode cX11_calm 6 = .ok (.if_icmp .le 5, 3) := by decide +kernel
theorem dX11_calm_9 : decode cX11_calm 9 = .ok (.iconst (-1), 1) := by decide +kernel
theorem dX11_calm_10 : decode cX11_calm 10 = .ok (.ireturn, 1) := by decide +kernel
theorem dX11_calm_11 : decode cX11_calm 11 = .ok (.aload_n 0, 1) := by decide +kernel
theorem dX11_calm_12 : decode cX11_calm 12 = .ok (.getfield 79, 3) := by decide +kernel
theorem dX11_calm_15 : decode cX11_calm 15 = .ok (.aload_n 0, 1) := by decide +kernel
theorem dX11_calm_16 : decode cX11_calm 16 = .ok (.getfield 19, 3) := by decide +kernel
theorem dX11_calm_19 : decode cX11_calm 19 = .ok (.iload_n 1, 1) := by decide +kernel
theorem dX11_calm_20 : decode cX11_calm 20 = .ok (.ifCond .ne 7, 3) := by decide +kernel
theorem dX11_calm_23 : decode cX11_calm 23 = .ok (.iconst 1, 1) := by decide +kernel
theorem dX11_calm_24 : decode cX11_calm 24 = .ok (.goto 4, 3) := by decide +kernel
theorem dX11_calm_27 : decode cX11_calm 27 = .ok (.iconst 0, 1) := by decide +kernel
theorem dX11_calm_28 : decode cX11_calm 28 = .ok (.invokevirtual 252, 3) := by decide +kernel
theorem dX11_calm_31 : decode cX11_calm 31 = .ok (.ireturn, 1) := by decide +kernel
theorem dX11_where_0 : decode cX11_where 0 = .ok (.aload_n 0, 1) := by decide +kernel
theorem dX11_where_1 : decode cX11_where 1 = .ok (.getfield 10, 3) := by decide +kernel
theorem dX11_where_4 : decode cX11_where 4 = .ok (.iload_n 1, 1) := by decide +kernel
theorem dX11_where_5 : decode cX11_where 5 = .ok (.invokevirtual 119, 3) := by decide +kernel
theorem dX11_where_8 : decode cX11_where 8 = .ok (.ifCond .eq 12, 3) := by decide +kernel
theorem dX11_where_11 : decode cX11_where 11 = .ok (.iload_n 2, 1) := by decide +kernel
theorem dX11_where_12 : decode cX11_where 12 = .ok (.ifCond .lt 8, 3) := by decide +kernel
theorem dX11_where_15 : decode cX11_where 15 = .ok (.iload_n 2, 1) := by decide +kernel
theorem dX11_where_16 : decode cX11_where 16 = .ok (.iconst 3, 1) := by decide +kernel
theorem dX11_where_17 : decode cX11_where 17 = .ok (.if_icmp .le 5, 3) := by decide +kernel
theorem dX11_where_20 : decode cX11_where 20 = .ok (.iconst (-1), 1) := by decide +kernel
theorem dX11_where_21 : decode cX11_where 21 = .ok (.ireturn, 1) := by decide +kernel
theorem dX11_where_22 : decode cX11_where 22 = .ok (.aload_n 0, 1) := by decide +kernel
theorem dX11_where_23 : decode cX11_where 23 = .ok (.getfield 19, 3) := by decide +kernel
theorem dX11_where_26 : decode cX11_where 26 = .ok (.iload_n 1, 1) := by decide +kernel
theorem dX11_where_27 : decode cX11_where 27 = .ok (.invokevirtual 175, 3) := by decide +kernel
theorem dX11_where_30 : decode cX11_where 30 = .ok (.ifCond .lt 6, 3) := by decide +kernel
theorem dX11_where_33 : decode cX11_where 33 = .ok (.bipush (-5), 2) := by decide +kernel
theorem dX11_where_35 : decode cX11_where 35 = .ok (.ireturn, 1) := by decide +kernel
theorem dX11_where_36 : decode cX11_where 36 = .ok (.iload_n 2, 1) := by decide +kernel
theorem dX11_where_37 : decode cX11_where 37 = .ok (.iconst 1, 1) := by decide +kernel
theorem dX11_where_38 : decode cX11_where 38 = .ok (.if_icmp .eq 8, 3) := by decide +kernel
theorem dX11_where_41 : decode cX11_where 41 = .ok (.iload_n 2, 1) := by decide +kernel
theorem dX11_where_42 : decode cX11_where 42 = .ok (.iconst 3, 1) := by decide +kernel
theorem dX11_where_43 : decode cX11_where 43 = .ok (.if_icmp .ne 5, 3) := by decide +kernel
theorem dX11_where_46 : decode cX11_where 46 = .ok (.iconst 0, 1) := by decide +kernel
theorem dX11_where_47 : decode cX11_where 47 = .ok (.ireturn, 1) := by decide +kernel
theorem dX11_where_48 : decode cX11_where 48 = .ok (.aload_n 0, 1) := by decide +kernel
theorem dX11_where_49 : decode cX11_where 49 = .ok (.getfield 79, 3) := by decide +kernel
theorem dX11_where_52 : decode cX11_where 52 = .ok (.aload_n 0, 1) := by decide +kernel
theorem dX11_where_53 : decode cX11_where 53 = .ok (.getfield 19, 3) := by decide +kernel
theorem dX11_where_56 : decode cX11_where 56 = .ok (.iload_n 1, 1) := by decide +kernel
theorem dX11_where_57 : decode cX11_where 57 = .ok (.iload_n 2, 1) := by decide +kernel
theorem dX11_where_58 : decode cX11_where 58 = .ok (.ifCond .ne 7, 3) := by decide +kernel
theorem dX11_where_61 : decode cX11_where 61 = .ok (.iconst 1, 1) := by decide +kernel
theorem dX11_where_62 : decode cX11_where 62 = .ok (.goto 4, 3) := by decide +kernel
theorem dX11_where_65 : decode cX11_where 65 = .ok (.iconst 0, 1) := by decide +kernel
theorem dX11_where_66 : decode cX11_where 66 = .ok (.invokevirtual 256, 3) := by decide +kernel
theorem dX11_where_69 : decode cX11_where 69 = .ok (.ireturn, 1) := by decide +kernel
theorem dX11_growth_0 : decode cX11_growth 0 = .ok (.aload_n 0, 1) := by decide +kernel
theorem dX11_growth_1 : decode cX11_growth 1 = .ok (.getfield 10, 3) := by decide +kernel
theorem dX11_growth_4 : decode cX11_growth 4 = .ok (.iload_n 1, 1) := by decide +kernel
theorem dX11_growth_5 : decode cX11_growth 5 = .ok (.invokevirtual 119, 3) := by decide +kernel
theorem dX11_growth_8 : decode cX11_growth 8 = .ok (.ifCond .ne 5, 3) := by decide +kernel
theorem dX11_growth_11 : decode cX11_growth 11 = .ok (.iconst (-1), 1) := by decide +kernel
theorem dX11_growth_12 : decode cX11_growth 12 = .ok (.ireturn, 1) := by decide +kernel
theorem dX11_growth_13 : decode cX11_growth 13 = .ok (.aload_n 0, 1) := by decide +kernel
theorem dX11_growth_14 : decode cX11_growth 14 = .ok (.getfield 19, 3) := by decide +kernel
theorem dX11_growth_17 : decode cX11_growth 17 = .ok (.iload_n 1, 1) := by decide +kernel
theorem dX11_growth_18 : decode cX11_growth 18 = .ok (.invokevirtual 175, 3) := by decide +kernel
theorem dX11_growth_21 : decode cX11_growth 21 = .ok (.istore_n 2, 1) := by decide +kernel
theorem dX11_growth_22 : decode cX11_growth 22 = .ok (.iload_n 2, 1) := by decide +kernel
theorem dX11_growth_23 : decode cX11_growth 23 = .ok (.ifCond .ge 8, 3) := by decide +kernel
theorem dX11_growth_26 : decode cX11_growth 26 = .ok (.bipush (-5), 2) := by decide +kernel
theorem dX11_growth_28 : decode cX11_growth 28 = .ok (.goto 15, 3) := by decide +kernel
theorem dX11_growth_31 : decode cX11_growth 31 = .ok (.aload_n 0, 1) := by decide +kernel
theorem dX11_growth_32 : decode cX11_growth 32 = .ok (.getfield 79, 3) := by decide +kernel
theorem dX11_growth_35 : decode cX11_growth 35 = .ok (.aload_n 0, 1) := by decide +kernel
theorem dX11_growth_36 : decode cX11_growth 36 = .ok (.getfield 19, 3) := by decide +kernel
theorem dX11_growth_39 : decode cX11_growth 39 = .ok (.iload_n 2, 1) := by decide +kernel
theorem dX11_growth_40 : decode cX11_growth 40 = .ok (.invokevirtual 260, 3) := by decide +kernel
theorem dX11_growth_43 : decode cX11_growth 43 = .ok (.ireturn, 1) := by decide +kernel
theorem fl_X11_79 : Cond.fieldLink RX11 79 (TX11 10).1 (TX11 10).2.1 (TX11 10).2.2.1 ∈ wsL_law := (uw3 _ (List.mem_of_getElem? (i := 1) rfl))
theorem hy_X0_inRow : Cond.code yX0_inRow cX0_inRow 11 (some .int) ∈ wsL_law ∧ Cond.initialized yX0_inRow.cls ∈ wsL_law ∧ Cond.instanceMethod yX0_inRow ∈ wsL_law ∧ Cond.selects yX0_inRow.cls yX0_inRow yX0_inRow ∈ wsL_law := ⟨(uw40 _ (List.mem_of_getElem? (i := 17) rfl)), (uw2 _ (List.mem_of_getElem? (i := 20) rfl)), (uw40 _ (List.mem_of_getElem? (i := 15) rfl)), (uw40 _ (List.mem_of_getElem? (i := 16) rfl))⟩
theorem hd_X0_inRow : yX0_inRow.cls ≠ "java/lang/invoke/MethodHandle" ∧ yX0_inRow.cls ≠ "java/lang/invoke/VarHandle" ∧ (parseMethodDescriptor yX0_inRow.desc).map (fun d => d.parameters.length) = some 4 := ⟨by decide +kernel, by decide +kernel, by decide +kernel⟩
theorem hy_X10_bestEntry : Cond.code yX10_bestEntry cX10_bestEntry 8 (some .int) ∈ wsL_law ∧ Cond.initialized yX10_bestEntry.cls ∈ wsL_law ∧ Cond.instanceMethod yX10_bestEntry ∈ wsL_law ∧ Cond.selects yX10_bestEntry.cls yX10_bestEntry yX10_bestEntry ∈ wsL_law := ⟨(uw42 _ (List.mem_of_getElem? (i := 2) rfl)), (uw3 _ (List.mem_of_getElem? (i := 0) rfl)), (uw42 _ (List.mem_of_getElem? (i := 0) rfl)), (uw42 _ (List.mem_of_getElem? (i := 1) rfl))⟩
theorem hd_X10_bestEntry : yX10_bestEntry.cls ≠ "java/lang/invoke/MethodHandle" ∧ yX10_bestEntry.cls ≠ "java/lang/invoke/VarHandle" ∧ (parseMethodDescriptor yX10_bestEntry.desc).map (fun d => d.parameters.length) = some 3 := ⟨by decide +kernel, by decide +kernel, by decide +kernel⟩
theorem hy_X10_calmest : Cond.code yX10_calmest cX10_calmest 8 (some .int) ∈ wsL_law ∧ Cond.initialized yX10_calmest.cls ∈ wsL_law ∧ Cond.instanceMethod yX10_calmest ∈ wsL_law ∧ Cond.selects yX10_calmest.cls yX10_calmest yX10_calmest ∈ wsL_law := ⟨(uw41 _ (List.mem_of_getElem? (i := 10) rfl)), (uw3 _ (List.mem_of_getElem? (i := 0) rfl)), (uw41 _ (List.mem_of_getElem? (i := 8) rfl)), (uw41 _ (List.mem_of_getElem? (i := 9) rfl))⟩
theorem hd_X10_calmest : yX10_calmest.cls ≠ "java/lang/invoke/MethodHandle" ∧ yX10_calmest.cls ≠ "java/lang/invoke/VarHandle" ∧ (parseMethodDescriptor yX10_calmest.desc).map (fun d => d.parameters.length) = some 2 := ⟨by decide +kernel, by decide +kernel, by decide +kernel⟩
theorem hy_X10_leastGrowth : Cond.code yX10_leastGrowth cX10_leastGrowth 5 (some .int) ∈ wsL_law ∧ Cond.initialized yX10_leastGrowth.cls ∈ wsL_law ∧ Cond.instanceMethod yX10_leastGrowth ∈ wsL_law ∧ Cond.selects yX10_leastGrowth.cls yX10_leastGrowth yX10_leastGrowth ∈ wsL_law := ⟨(uw42 _ (List.mem_of_getElem? (i := 16) rfl)), (uw3 _ (List.mem_of_getElem? (i := 0) rfl)), (uw42 _ (List.mem_of_getElem? (i := 14) rfl)), (uw42 _ (List.mem_of_getElem? (i := 15) rfl))⟩
theorem hd_X10_leastGrowth : yX10_leastGrowth.cls ≠ "java/lang/invoke/MethodHandle" ∧ yX10_leastGrowth.cls ≠ "java/lang/invoke/VarHandle" ∧ (parseMethodDescriptor yX10_leastGrowth.desc).map (fun d => d.parameters.length) = some 2 := ⟨by decide +kernel, by decide +kernel, by decide +kernel⟩
theorem ml_X11_245 : Cond.methodLink RX11 245 yX0_rowsOf ∈ wsL_law := (uw39 _ (List.mem_of_getElem? (i := 21) rfl))
theorem ml_X11_248 : Cond.methodLink RX11 248 yX0_inRow ∈ wsL_law := (uw40 _ (List.mem_of_getElem? (i := 14) rfl))
theorem ml_X11_252 : Cond.methodLink RX11 252 yX10_calmest ∈ wsL_law := (uw41 _ (List.mem_of_getElem? (i := 7) rfl))
theorem ml_X11_256 : Cond.methodLink RX11 256 yX10_bestEntry ∈ wsL_law := (uw41 _ (List.mem_of_getElem? (i := 23) rfl))
theorem ml_X11_260 : Cond.methodLink RX11 260 yX10_leastGrowth ∈ wsL_law := (uw42 _ (List.mem_of_getElem? (i := 13) rfl))
abbrev w_T_rows (G : zG) (a_this : Nat) (a_crowd : Nat) (a_queue : Nat) (a_text : Nat) (a_judge : Nat) (a_deeds : Nat) (a_mendings : Nat) (a_picture : Nat) (a_shelves : Nat) (a_books : Nat) (a_thoughts : Nat) (a_heads : Nat) (a_queue_who : Nat) (a_books_numbers : Nat) (a_books_left : Nat) (a_books_result : Nat) (a_books_fillings : Nat) (a_books_spare : Nat) (a_books_rowCounts : Nat) (a_books_rowCounts_e : Nat → Nat) (hasPicture : Int32) (queue_length : Int32) (books_size : Int32) (books_rowCounts_e : Nat → (Nat → Int32)) : va_W := [(a_this, cO 11 [.ref a_crowd, .ref a_queue, .ref a_text, .ref a_judge, .ref a_deeds, .ref a_mendings, .ref a_picture, .int hasPicture, .ref a_shelves, .ref a_books, .ref a_thoughts, .ref a_heads]), (a_queue, cO 7 [.ref a_queue_who, .int queue_length]), (a_books, cO 0 [.ref a_crowd, .ref a_shelves, .ref a_books_numbers, .int books_size, .ref a_books_left, .ref a_books_result, .ref a_books_fillings, .ref a_books_spare, .ref a_books_rowCounts]), (a_books_rowCounts, cII G 10 (fun j => some (a_books_rowCounts_e j))), ((a_books_rowCounts_e 0), cI G 37 (books_rowCounts_e 0)), ((a_books_rowCounts_e 1), cI G 37 (books_rowCounts_e 1)), ((a_books_rowCounts_e 2), cI G 37 (books_rowCounts_e 2)), ((a_books_rowCounts_e 3), cI G 37 (books_rowCounts_e 3)), ((a_books_rowCounts_e 4), cI G 37 (books_rowCounts_e 4)), ((a_books_rowCounts_e 5), cI G 37 (books_rowCounts_e 5)), ((a_books_rowCounts_e 6), cI G 37 (books_rowCounts_e 6)), ((a_books_rowCounts_e 7), cI G 37 (books_rowCounts_e 7)), ((a_books_rowCounts_e 8), cI G 37 (books_rowCounts_e 8)), ((a_books_rowCounts_e 9), cI G 37 (books_rowCounts_e 9))]
def f_T_rows (queue_length : Int32) (books_rowCounts_e : Nat → (Nat → Int32)) (x1 : Int32) : Option Int32 := (if (f_Books_isDisquiet x1) = 0 then (some (-1)) else (zb1 (f_Books_rowsOf books_rowCounts_e (f_Line_size queue_length) x1) fun r_3 => (some r_3)))
set_option maxRecDepth 100000 in
set_option maxHeartbeats 4000000 in
theorem c_T_rows (l : Launch) (G : zG) (a_this : Nat) (a_crowd : Nat) (a_queue : Nat) (a_text : Nat) (a_judge : Nat) (a_deeds : Nat) (a_mendings : Nat) (a_picture : Nat) (a_shelves : Nat) (a_books : Nat) (a_thoughts : Nat) (a_heads : Nat) (a_queue_who : Nat) (a_books_numbers : Nat) (a_books_left : Nat) (a_books_result : Nat) (a_books_fillings : Nat) (a_books_spare : Nat) (a_books_rowCounts : Nat) (a_books_rowCounts_e : Nat → Nat) (hasPicture : Int32) (queue_length : Int32) (books_size : Int32) (books_rowCounts_e : Nat → (Nat → Int32)) (x1 : Int32) (r_ : Int32) (hf : f_T_rows queue_length books_rowCounts_e x1 = some r_) : zM l yX11_rows cX11_rows 2 (some .int) 2 42 G [.ref a_this, .int x1] (w_T_rows G a_this a_crowd a_queue a_text a_judge a_deeds a_mendings a_picture a_shelves a_books a_thoughts a_heads a_queue_who a_books_numbers a_books_left a_books_result a_books_fillings a_books_spare a_books_rowCounts a_books_rowCounts_e hasPicture queue_length books_size books_rowCounts_e) (some (.int r_)) (w_T_rows G a_this a_crowd a_queue a_text a_judge a_deeds a_mendings a_picture a_shelves a_books a_thoughts a_heads a_queue_who a_books_numbers a_books_left a_books_result a_books_fillings a_books_spare a_books_rowCounts a_books_rowCounts_e hasPicture queue_length books_size books_rowCounts_e) := by
  refine zM.of [(0, .ref a_this), (1, .int x1)] (own := RX11) rfl (by decide +kernel) (Nat.le_of_ble_eq_true rfl) rfl rfl fun X hX F => ?_
  subst hX
  replace hf := (f_T_rows.eq_1 ..).symm.trans hf
  refine z_iload_n F 1 dX11_rows_0 rfl rfl ?_
  refine z_callSm (rest := []) F (c_Books_isDisquiet (xL X) G x1 _ rfl) hy_X0_isDisquiet ml_X11_221 hd_X0_isDisquiet ⟨by omega, by omega⟩ rfl [] rfl rfl (w_T_rows G a_this a_crowd a_queue a_text a_judge a_deeds a_mendings a_picture a_shelves a_books a_thoughts a_heads a_queue_who a_books_numbers a_books_left a_books_result a_books_fillings a_books_spare a_books_rowCounts a_books_rowCounts_e hasPicture queue_length books_size books_rowCounts_e) [none, none, none, none, none, none, none, none, none, none, none, none, none, none] rfl (by decide +kernel) rfl rfl (Nat.le_of_ble_eq_true rfl) dX11_rows_1 (fun hz_1 => ?_)
  refine z_if_ne F 9 dX11_rows_4 (by decide) hf (fun hf _ => ?_) (fun hf _ => ?_)
  · refine z_aload_n F 0 dX11_rows_9 rfl rfl ?_
    refine z_get F 0 11 9 inlX11 rfl rfl (by decide) fl_X11_70 rfl dX11_rows_10 ?_
    refine z_aload_n F 0 dX11_rows_13 rfl rfl ?_
    refine z_get F 0 11 1 inlX11 rfl rfl (by decide) fl_X11_19 rfl dX11_rows_14 ?_
    refine z_callVm (rest := [.ref a_books]) F 7 (c_Line_size (xL X) G a_queue a_queue_who queue_length _ rfl) hy_X7_size ml_X11_94 hd_X7_size ⟨by omega, by omega⟩ rfl [1] rfl rfl 1 rfl rfl (w_T_rows G a_this a_crowd a_queue a_text a_judge a_deeds a_mendings a_picture a_shelves a_books a_thoughts a_heads a_queue_who a_books_numbers a_books_left a_books_result a_books_fillings a_books_spare a_books_rowCounts a_books_rowCounts_e hasPicture queue_length books_size books_rowCounts_e) [none, some 0, none, none, none, none, none, none, none, none, none, none, none, none] rfl (by decide +kernel) rfl rfl (Nat.le_of_ble_eq_true rfl) dX11_rows_17 (fun hz_2 => ?_)
    refine z_iload_n F 1 dX11_rows_20 rfl rfl ?_
    obtain ⟨r_3, hg, hf⟩ := zb1_some hf
    refine z_callVm (rest := []) F 0 (c_Books_rowsOf (xL X) G a_books a_crowd a_shelves a_books_numbers a_books_left a_books_result a_books_fillings a_books_spare a_books_rowCounts a_books_rowCounts_e books_size books_rowCounts_e (f_Line_size queue_length) x1 r_3 hg) hy_X0_rowsOf ml_X11_245 hd_X0_rowsOf ⟨by omega, by omega⟩ rfl [2, 3, 4, 5, 6, 7, 8, 9, 10, 11, 12, 13] rfl rfl 2 rfl rfl (w_T_rows G a_this a_crowd a_queue a_text a_judge a_deeds a_mendings a_picture a_shelves a_books a_thoughts a_heads a_queue_who a_books_numbers a_books_left a_books_result a_books_fillings a_books_spare a_books_rowCounts a_books_rowCounts_e hasPicture queue_length books_size books_rowCounts_e) [none, none, some 0, some 1, some 2, some 3, some 4, some 5, some 6, some 7, some 8, some 9, some 10, some 11] rfl (by decide +kernel) rfl rfl (Nat.le_of_ble_eq_true rfl) dX11_rows_21 (fun hz_4 => ?_)
    have ee1 := Option.some.inj hf
    subst ee1
    exact z_iret F rfl rfl rfl rfl dX11_rows_24
  · refine z_iconst F (-1) dX11_rows_7 rfl ?_
    have ee1 := Option.some.inj hf
    subst ee1
    exact z_iret F rfl rfl rfl rfl dX11_rows_8

abbrev w_T_rth (G : zG) (a_this : Nat) (a_crowd : Nat) (a_queue : Nat) (a_text : Nat) (a_judge : Nat) (a_deeds : Nat) (a_mendings : Nat) (a_picture : Nat) (a_shelves : Nat) (a_books : Nat) (a_thoughts : Nat) (a_heads : Nat) (a_crowd_heights : Nat) (a_queue_who : Nat) (a_books_numbers : Nat) (a_books_left : Nat) (a_books_result : Nat) (a_books_fillings : Nat) (a_books_spare : Nat) (a_books_rowCounts : Nat) (a_books_left_who : Nat) (a_books_rowCounts_e : Nat → Nat) (hasPicture : Int32) (crowd_people : Int32) (crowd_heights : Nat → Int32) (queue_length : Int32) (queue_who : Nat → Int32) (books_size : Int32) (books_left_length : Int32) (books_left_who : Nat → Int32) (books_rowCounts_e : Nat → (Nat → Int32)) : va_W := [(a_this, cO 11 [.ref a_crowd, .ref a_queue, .ref a_text, .ref a_judge, .ref a_deeds, .ref a_mendings, .ref a_picture, .int hasPicture, .ref a_shelves, .ref a_books, .ref a_thoughts, .ref a_heads]), (a_crowd, cO 1 [.ref a_crowd_heights, .int crowd_people]), (a_crowd_heights, cI G 9 crowd_heights), (a_queue, cO 7 [.ref a_queue_who, .int queue_length]), (a_queue_who, cI G 9 queue_who), (a_books, cO 0 [.ref a_crowd, .ref a_shelves, .ref a_books_numbers, .int books_size, .ref a_books_left, .ref a_books_result, .ref a_books_fillings, .ref a_books_spare, .ref a_books_rowCounts]), (a_books_left, cO 7 [.ref a_books_left_who, .int books_left_length]), (a_books_left_who, cI G 9 books_left_who), (a_books_rowCounts, cII G 10 (fun j => some (a_books_rowCounts_e j))), ((a_books_rowCounts_e 0), cI G 37 (books_rowCounts_e 0)), ((a_books_rowCounts_e 1), cI G 37 (books_rowCounts_e 1)), ((a_books_rowCounts_e 2), cI G 37 (books_rowCounts_e 2)), ((a_books_rowCounts_e 3), cI G 37 (books_rowCounts_e 3)), ((a_books_rowCounts_e 4), cI G 37 (books_rowCounts_e 4)), ((a_books_rowCounts_e 5), cI G 37 (books_rowCounts_e 5)), ((a_books_rowCounts_e 6), cI G 37 (books_rowCounts_e 6)), ((a_books_rowCounts_e 7), cI G 37 (books_rowCounts_e 7)), ((a_books_rowCounts_e 8), cI G 37 (books_rowCounts_e 8)), ((a_books_rowCounts_e 9), cI G 37 (books_rowCounts_e 9))]
def f_T_rth (crowd_people : Int32) (crowd_heights : Nat → Int32) (queue_length : Int32) (queue_who : Nat → Int32) (books_left_length : Int32) (books_left_who : Nat → Int32) (books_rowCounts_e : Nat → (Nat → Int32)) (x1 : Int32) (x2 : Int32) (x3 : Int32) : Option (Int32 × Int32 × (Nat → Int32)) := (if (f_Books_isDisquiet x1) = 0 then (some ((-1), books_left_length, books_left_who)) else (if x2 < 0 then (some ((-1), books_left_length, books_left_who)) else (if (f_Line_isPlace queue_length x3) = 0 then (some ((-1), books_left_length, books_left_who)) else (zb1 (f_Books_rowsOf books_rowCounts_e (f_Line_size queue_length) x1) fun r_4 => (if x2 < r_4 then (zb3 (f_Books_inRow crowd_people crowd_heights books_left_length books_left_who books_rowCounts_e queue_length queue_who x1 x2 x3) fun r_6 books_left_length_7 books_left_who_8 => (some (r_6, books_left_length_7, books_left_who_8))) else (some ((-2), books_left_length, books_left_who)))))))
set_option maxRecDepth 100000 in
set_option maxHeartbeats 4000000 in
theorem c_T_rth (l : Launch) (G : zG) (a_this : Nat) (a_crowd : Nat) (a_queue : Nat) (a_text : Nat) (a_judge : Nat) (a_deeds : Nat) (a_mendings : Nat) (a_picture : Nat) (a_shelves : Nat) (a_books : Nat) (a_thoughts : Nat) (a_heads : Nat) (a_crowd_heights : Nat) (a_queue_who : Nat) (a_books_numbers : Nat) (a_books_left : Nat) (a_books_result : Nat) (a_books_fillings : Nat) (a_books_spare : Nat) (a_books_rowCounts : Nat) (a_books_left_who : Nat) (a_books_rowCounts_e : Nat → Nat) (hasPicture : Int32) (crowd_people : Int32) (crowd_heights : Nat → Int32) (queue_length : Int32) (queue_who : Nat → Int32) (books_size : Int32) (books_left_length : Int32) (books_left_who : Nat → Int32) (books_rowCounts_e : Nat → (Nat → Int32)) (x1 : Int32) (x2 : Int32) (x3 : Int32) (r_ : Int32) (o_books_left_length : Int32) (o_books_left_who : Nat → Int32) (hf : f_T_rth crowd_people crowd_heights queue_length queue_who books_left_length books_left_who books_rowCounts_e x1 x2 x3 = some (r_, o_books_left_length, o_books_left_who)) : zM l yX11_rth cX11_rth 4 (some .int) 4 171 G [.ref a_this, .int x1, .int x2, .int x3] (w_T_rth G a_this a_crowd a_queue a_text a_judge a_deeds a_mendings a_picture a_shelves a_books a_thoughts a_heads a_crowd_heights a_queue_who a_books_numbers a_books_left a_books_result a_books_fillings a_books_spare a_books_rowCounts a_books_left_who a_books_rowCounts_e hasPicture crowd_people crowd_heights queue_length queue_who books_size books_left_length books_left_who books_rowCounts_e) (some (.int r_)) (w_T_rth G a_this a_crowd a_queue a_text a_judge a_deeds a_mendings a_picture a_shelves a_books a_thoughts a_heads a_crowd_heights a_queue_who a_books_numbers a_books_left a_books_result a_books_fillings a_books_spare a_books_rowCounts a_books_left_who a_books_rowCounts_e hasPicture crowd_people crowd_heights queue_length queue_who books_size o_books_left_length o_books_left_who books_rowCounts_e) := by
  refine zM.of [(0, .ref a_this), (1, .int x1), (2, .int x2), (3, .int x3)] (own := RX11) rfl (by decide +kernel) (Nat.le_of_ble_eq_true rfl) rfl rfl fun X hX F => ?_
  subst hX
  replace hf := (f_T_rth.eq_1 ..).symm.trans hf
  refine z_iload_n F 1 dX11_rth_0 rfl rfl ?_
  refine z_callSm (rest := []) F (c_Books_isDisquiet (xL X) G x1 _ rfl) hy_X0_isDisquiet ml_X11_221 hd_X0_isDisquiet ⟨by omega, by omega⟩ rfl [] rfl rfl (w_T_rth G a_this a_crowd a_queue a_text a_judge a_deeds a_mendings a_picture a_shelves a_books a_thoughts a_heads a_crowd_heights a_queue_who a_books_numbers a_books_left a_books_result a_books_fillings a_books_spare a_books_rowCounts a_books_left_who a_books_rowCounts_e hasPicture crowd_people crowd_heights queue_length queue_who books_size books_left_length books_left_who books_rowCounts_e) [none, none, none, none, none, none, none, none, none, none, none, none, none, none, none, none, none, none, none] rfl (by decide +kernel) rfl rfl (Nat.le_of_ble_eq_true rfl) dX11_rth_1 (fun hz_1 => ?_)
  refine z_if_eq F 22 dX11_rth_4 (by decide) hf (fun hf _ => ?_) (fun hf _ => ?_)
  · refine z_iconst F (-1) dX11_rth_22 rfl ?_
    have eq1 := Option.some.inj hf
    obtain ⟨ee1, eq2⟩ := Prod.mk.inj eq1
    obtain ⟨ee2, ee3⟩ := Prod.mk.inj eq2
    subst ee1
    subst ee2
    subst ee3
    exact z_iret F rfl rfl rfl rfl dX11_rth_23
  · refine z_iload_n F 2 dX11_rth_7 rfl rfl ?_
    refine z_if_lt F 22 dX11_rth_8 (by decide) hf (fun hf _ => ?_) (fun hf _ => ?_)
    · refine z_iconst F (-1) dX11_rth_22 rfl ?_
      have eq1 := Option.some.inj hf
      obtain ⟨ee1, eq2⟩ := Prod.mk.inj eq1
      obtain ⟨ee2, ee3⟩ := Prod.mk.inj eq2
      subst ee1
      subst ee2
      subst ee3
      exact z_iret F rfl rfl rfl rfl dX11_rth_23
    · refine z_aload_n F 0 dX11_rth_11 rfl rfl ?_
      refine z_get F 0 11 1 inlX11 rfl rfl (by decide) fl_X11_19 rfl dX11_rth_12 ?_
      refine z_iload_n F 3 dX11_rth_15 rfl rfl ?_
      refine z_callVm (rest := []) F 7 (c_Line_isPlace (xL X) G a_queue a_queue_who queue_length x3 _ rfl) hy_X7_isPlace ml_X11_140 hd_X7_isPlace ⟨by omega, by omega⟩ rfl [3] rfl rfl 3 rfl rfl (w_T_rth G a_this a_crowd a_queue a_text a_judge a_deeds a_mendings a_picture a_shelves a_books a_thoughts a_heads a_crowd_heights a_queue_who a_books_numbers a_books_left a_books_result a_books_fillings a_books_spare a_books_rowCounts a_books_left_who a_books_rowCounts_e hasPicture crowd_people crowd_heights queue_length queue_who books_size books_left_length books_left_who books_rowCounts_e) [none, none, none, some 0, none, none, none, none, none, none, none, none, none, none, none, none, none, none, none] rfl (by decide +kernel) rfl rfl (Nat.le_of_ble_eq_true rfl) dX11_rth_16 (fun hz_2 => ?_)
      refine z_if_ne F 24 dX11_rth_19 (by decide) hf (fun hf _ => ?_) (fun hf _ => ?_)
      · refine z_iload_n F 2 dX11_rth_24 rfl rfl ?_
        refine z_aload_n F 0 dX11_rth_25 rfl rfl ?_
        refine z_get F 0 11 9 inlX11 rfl rfl (by decide) fl_X11_70 rfl dX11_rth_26 ?_
        refine z_aload_n F 0 dX11_rth_29 rfl rfl ?_
        refine z_get F 0 11 1 inlX11 rfl rfl (by decide) fl_X11_19 rfl dX11_rth_30 ?_
        refine z_callVm (rest := [.ref a_books, .int x2]) F 7 (c_Line_size (xL X) G a_queue a_queue_who queue_length _ rfl) hy_X7_size ml_X11_94 hd_X7_size ⟨by omega, by omega⟩ rfl [3] rfl rfl 3 rfl rfl (w_T_rth G a_this a_crowd a_queue a_text a_judge a_deeds a_mendings a_picture a_shelves a_books a_thoughts a_heads a_crowd_heights a_queue_who a_books_numbers a_books_left a_books_result a_books_fillings a_books_spare a_books_rowCounts a_books_left_who a_books_rowCounts_e hasPicture crowd_people crowd_heights queue_length queue_who books_size books_left_length books_left_who books_rowCounts_e) [none, none, none, some 0, none, none, none, none, none, none, none, none, none, none, none, none, none, none, none] rfl (by decide +kernel) rfl rfl (Nat.le_of_ble_eq_true rfl) dX11_rth_33 (fun hz_3 => ?_)
        refine z_iload_n F 1 dX11_rth_36 rfl rfl ?_
        obtain ⟨r_4, hg, hf⟩ := zb1_some hf
        refine z_callVm (rest := [.int x2]) F 0 (c_Books_rowsOf (xL X) G a_books a_crowd a_shelves a_books_numbers a_books_left a_books_result a_books_fillings a_books_spare a_books_rowCounts a_books_rowCounts_e books_size books_rowCounts_e (f_Line_size queue_length) x1 r_4 hg) hy_X0_rowsOf ml_X11_245 hd_X0_rowsOf ⟨by omega, by omega⟩ rfl [5, 8, 9, 10, 11, 12, 13, 14, 15, 16, 17, 18] rfl rfl 5 rfl rfl (w_T_rth G a_this a_crowd a_queue a_text a_judge a_deeds a_mendings a_picture a_shelves a_books a_thoughts a_heads a_crowd_heights a_queue_who a_books_numbers a_books_left a_books_result a_books_fillings a_books_spare a_books_rowCounts a_books_left_who a_books_rowCounts_e hasPicture crowd_people crowd_heights queue_length queue_who books_size books_left_length books_left_who books_rowCounts_e) [none, none, none, none, none, some 0, none, none, some 1, some 2, some 3, some 4, some 5, some 6, some 7, some 8, some 9, some 10, some 11] rfl (by decide +kernel) rfl rfl (Nat.le_of_ble_eq_true rfl) dX11_rth_37 (fun hz_5 => ?_)
        refine z_icmp_lt F 46 dX11_rth_40 (by decide) hf (fun hf _ => ?_) (fun hf _ => ?_)
        · refine z_aload_n F 0 dX11_rth_46 rfl rfl ?_
          refine z_get F 0 11 9 inlX11 rfl rfl (by decide) fl_X11_70 rfl dX11_rth_47 ?_
          refine z_aload_n F 0 dX11_rth_50 rfl rfl ?_
          refine z_get F 0 11 1 inlX11 rfl rfl (by decide) fl_X11_19 rfl dX11_rth_51 ?_
          refine z_iload_n F 1 dX11_rth_54 rfl rfl ?_
          refine z_iload_n F 2 dX11_rth_55 rfl rfl ?_
          refine z_iload_n F 3 dX11_rth_56 rfl rfl ?_
          obtain ⟨r_6, books_left_length_7, books_left_who_8, hg, hf⟩ := zb3_some hf
          refine z_callVm (rest := []) F 0 (c_Books_inRow (xL X) G a_books a_crowd a_shelves a_books_numbers a_books_left a_books_result a_books_fillings a_books_spare a_books_rowCounts a_crowd_heights a_books_left_who a_books_rowCounts_e a_queue a_queue_who books_size crowd_people crowd_heights books_left_length books_left_who books_rowCounts_e queue_length queue_who x1 x2 x3 r_6 books_left_length_7 books_left_who_8 hg) hy_X0_inRow ml_X11_248 hd_X0_inRow ⟨by omega, by omega⟩ rfl [5, 1, 2, 6, 7, 8, 9, 10, 11, 12, 13, 14, 15, 16, 17, 18, 3, 4] rfl rfl 5 rfl rfl (w_T_rth G a_this a_crowd a_queue a_text a_judge a_deeds a_mendings a_picture a_shelves a_books a_thoughts a_heads a_crowd_heights a_queue_who a_books_numbers a_books_left a_books_result a_books_fillings a_books_spare a_books_rowCounts a_books_left_who a_books_rowCounts_e hasPicture crowd_people crowd_heights queue_length queue_who books_size books_left_length_7 books_left_who_8 books_rowCounts_e) [none, some 1, some 2, some 16, some 17, some 0, some 3, some 4, some 5, some 6, some 7, some 8, some 9, some 10, some 11, some 12, some 13, some 14, some 15] rfl (by decide +kernel) rfl rfl (Nat.le_of_ble_eq_true rfl) dX11_rth_57 (fun hz_9 => ?_)
          have eq1 := Option.some.inj hf
          obtain ⟨ee1, eq2⟩ := Prod.mk.inj eq1
          obtain ⟨ee2, ee3⟩ := Prod.mk.inj eq2
          subst ee1
          subst ee2
          subst ee3
          exact z_iret F rfl rfl rfl rfl dX11_rth_60
        · refine z_bipush F (-2) dX11_rth_43 rfl ?_
          have eq1 := Option.some.inj hf
          obtain ⟨ee1, eq2⟩ := Prod.mk.inj eq1
          obtain ⟨ee2, ee3⟩ := Prod.mk.inj eq2
          subst ee1
          subst ee2
          subst ee3
          exact z_iret F rfl rfl rfl rfl dX11_rth_45
      · refine z_iconst F (-1) dX11_rth_22 rfl ?_
        have eq1 := Option.some.inj hf
        obtain ⟨ee1, eq2⟩ := Prod.mk.inj eq1
        obtain ⟨ee2, ee3⟩ := Prod.mk.inj eq2
        subst ee1
        subst ee2
        subst ee3
        exact z_iret F rfl rfl rfl rfl dX11_rth_23

abbrev w_T_calm (G : zG) (a_this : Nat) (a_crowd : Nat) (a_queue : Nat) (a_text : Nat) (a_judge : Nat) (a_deeds : Nat) (a_mendings : Nat) (a_picture : Nat) (a_shelves : Nat) (a_books : Nat) (a_thoughts : Nat) (a_heads : Nat) (a_crowd_heights : Nat) (a_queue_who : Nat) (a_text_tape : Nat) (a_text_reader : Nat) (a_text_steps : Nat) (a_text_worked : Nat) (a_judge_known : Nat) (a_thoughts_trial : Nat) (a_thoughts_numbers : Nat) (a_thoughts_ahead : Nat) (a_thoughts_orders : Nat) (a_thoughts_trial_who : Nat) (hasPicture : Int32) (crowd_people : Int32) (crowd_heights : Nat → Int32) (queue_length : Int32) (queue_who : Nat → Int32) (text_fed : Int32) (text_length : Int32) (text_top : Int32) (text_steps : Nat → Int32) (text_worked : Nat → Int32) (judge_known : Nat → Int32) (thoughts_trial_length : Int32) (thoughts_trial_who : Nat → Int32) : va_W := [(a_this, cO 11 [.ref a_crowd, .ref a_queue, .ref a_text, .ref a_judge, .ref a_deeds, .ref a_mendings, .ref a_picture, .int hasPicture, .ref a_shelves, .ref a_books, .ref a_thoughts, .ref a_heads]), (a_crowd, cO 1 [.ref a_crowd_heights, .int crowd_people]), (a_crowd_heights, cI G 9 crowd_heights), (a_queue, cO 7 [.ref a_queue_who, .int queue_length]), (a_queue_who, cI G 9 queue_who), (a_text, cO 5 [.ref a_text_tape, .int text_fed, .ref a_text_reader, .ref a_text_steps, .int text_length, .ref a_text_worked, .int text_top]), (a_text_steps, cI G 121 text_steps), (a_text_worked, cI G 121 text_worked), (a_judge, cO 4 [.ref a_crowd, .ref a_text, .ref a_judge_known]), (a_judge_known, cB G 729 judge_known), (a_thoughts, cO 10 [.ref a_crowd, .ref a_judge, .ref a_thoughts_trial, .ref a_thoughts_numbers, .ref a_thoughts_ahead, .ref a_thoughts_orders]), (a_thoughts_trial, cO 7 [.ref a_thoughts_trial_who, .int thoughts_trial_length]), (a_thoughts_trial_who, cI G 9 thoughts_trial_who)]
def f_T_calm (crowd_people : Int32) (crowd_heights : Nat → Int32) (queue_length : Int32) (queue_who : Nat → Int32) (text_length : Int32) (text_top : Int32) (text_steps : Nat → Int32) (text_worked : Nat → Int32) (judge_known : Nat → Int32) (thoughts_trial_length : Int32) (thoughts_trial_who : Nat → Int32) (x1 : Int32) : Option (Int32 × Int32 × (Nat → Int32) × (Nat → Int32) × Int32 × (Nat → Int32)) := (if x1 < 0 then (some ((-1), text_top, text_worked, judge_known, thoughts_trial_length, thoughts_trial_who)) else (if x1 ≤ 1 then (if x1 = 0 then (zb6 (f_Thoughts_calmest crowd_people crowd_heights text_length text_top text_steps text_worked judge_known thoughts_trial_length thoughts_trial_who queue_length queue_who 1) fun r_8 text_top_9 text_worked_10 judge_known_11 thoughts_trial_length_12 thoughts_trial_who_13 => (some (r_8, text_top_9, text_worked_10, judge_known_11, thoughts_trial_length_12, thoughts_trial_who_13))) else (zb6 (f_Thoughts_calmest crowd_people crowd_heights text_length text_top text_steps text_worked judge_known thoughts_trial_length thoughts_trial_who queue_length queue_who 0) fun r_1 text_top_2 text_worked_3 judge_known_4 thoughts_trial_length_5 thoughts_trial_who_6 => (some (r_1, text_top_2, text_worked_3, judge_known_4, thoughts_trial_length_5, thoughts_trial_who_6)))) else (some ((-1), text_top, text_worked, judge_known, thoughts_trial_length, thoughts_trial_who))))
set_option maxRecDepth 100000 in
set_option maxHeartbeats 4000000 in
theorem c_T_calm (l : Launch) (G : zG) (a_this : Nat) (a_crowd : Nat) (a_queue : Nat) (a_text : Nat) (a_judge : Nat) (a_deeds : Nat) (a_mendings : Nat) (a_picture : Nat) (a_shelves : Nat) (a_books : Nat) (a_thoughts : Nat) (a_heads : Nat) (a_crowd_heights : Nat) (a_queue_who : Nat) (a_text_tape : Nat) (a_text_reader : Nat) (a_text_steps : Nat) (a_text_worked : Nat) (a_judge_known : Nat) (a_thoughts_trial : Nat) (a_thoughts_numbers : Nat) (a_thoughts_ahead : Nat) (a_thoughts_orders : Nat) (a_thoughts_trial_who : Nat) (hasPicture : Int32) (crowd_people : Int32) (crowd_heights : Nat → Int32) (queue_length : Int32) (queue_who : Nat → Int32) (text_fed : Int32) (text_length : Int32) (text_top : Int32) (text_steps : Nat → Int32) (text_worked : Nat → Int32) (judge_known : Nat → Int32) (thoughts_trial_length : Int32) (thoughts_trial_who : Nat → Int32) (x1 : Int32) (r_ : Int32) (o_text_top : Int32) (o_text_worked : Nat → Int32) (o_judge_known : Nat → Int32) (o_thoughts_trial_length : Int32) (o_thoughts_trial_who : Nat → Int32) (hf : f_T_calm crowd_people crowd_heights queue_length queue_who text_length text_top text_steps text_worked judge_known thoughts_trial_length thoughts_trial_who x1 = some (r_, o_text_top, o_text_worked, o_judge_known, o_thoughts_trial_length, o_thoughts_trial_who)) : zM l yX11_calm cX11_calm 2 (some .int) 6 168 G [.ref a_this, .int x1] (w_T_calm G a_this a_crowd a_queue a_text a_judge a_deeds a_mendings a_picture a_shelves a_books a_thoughts a_heads a_crowd_heights a_queue_who a_text_tape a_text_reader a_text_steps a_text_worked a_judge_known a_thoughts_trial a_thoughts_numbers a_thoughts_ahead a_thoughts_orders a_thoughts_trial_who hasPicture crowd_people crowd_heights queue_length queue_who text_fed text_length text_top text_steps text_worked judge_known thoughts_trial_length thoughts_trial_who) (some (.int r_)) (w_T_calm G a_this a_crowd a_queue a_text a_judge a_deeds a_mendings a_picture a_shelves a_books a_thoughts a_heads a_crowd_heights a_queue_who a_text_tape a_text_reader a_text_steps a_text_worked a_judge_known a_thoughts_trial a_thoughts_numbers a_thoughts_ahead a_thoughts_orders a_thoughts_trial_who hasPicture crowd_people crowd_heights queue_length queue_who text_fed text_length o_text_top text_steps o_text_worked o_judge_known o_thoughts_trial_length o_thoughts_trial_who) := by
  refine zM.of [(0, .ref a_this), (1, .int x1)] (own := RX11) rfl (by decide +kernel) (Nat.le_of_ble_eq_true rfl) rfl rfl fun X hX F => ?_
  subst hX
  replace hf := (f_T_calm.eq_1 ..).symm.trans hf
  refine z_iload_n F 1 dX11_calm_0 rfl rfl ?_
  refine z_if_lt F 9 dX11_calm_1 (by decide) hf (fun hf _ => ?_) (fun hf _ => ?_)
  · refine z_iconst F (-1) dX11_calm_9 rfl ?_
    have eq1 := Option.some.inj hf
    obtain ⟨ee1, eq2⟩ := Prod.mk.inj eq1
    obtain ⟨ee2, eq3⟩ := Prod.mk.inj eq2
    obtain ⟨ee3, eq4⟩ := Prod.mk.inj eq3
    obtain ⟨ee4, eq5⟩ := Prod.mk.inj eq4
    obtain ⟨ee5, ee6⟩ := Prod.mk.inj eq5
    subst ee1
    subst ee2
    subst ee3
    subst ee4
    subst ee5
    subst ee6
    exact z_iret F rfl rfl rfl rfl dX11_calm_10
  · refine z_iload_n F 1 dX11_calm_4 rfl rfl ?_
    refine z_iconst F (1) dX11_calm_5 rfl ?_
    refine z_icmp_le F 11 dX11_calm_6 (by decide) hf (fun hf _ => ?_) (fun hf _ => ?_)
    · refine z_aload_n F 0 dX11_calm_11 rfl rfl ?_
      refine z_get F 0 11 10 inlX11 rfl rfl (by decide) fl_X11_79 rfl dX11_calm_12 ?_
      refine z_aload_n F 0 dX11_calm_15 rfl rfl ?_
      refine z_get F 0 11 1 inlX11 rfl rfl (by decide) fl_X11_19 rfl dX11_calm_16 ?_
      refine z_iload_n F 1 dX11_calm_19 rfl rfl ?_
      refine z_if_ne F 27 dX11_calm_20 (by decide) hf (fun hf _ => ?_) (fun hf _ => ?_)
      · refine z_iconst F (0) dX11_calm_27 rfl ?_
        obtain ⟨r_1, text_top_2, text_worked_3, judge_known_4, thoughts_trial_length_5, thoughts_trial_who_6, hg, hf⟩ := zb6_some hf
        refine z_callVm (rest := []) F 10 (c_Thoughts_calmest (xL X) G a_thoughts a_crowd a_judge a_thoughts_trial a_thoughts_numbers a_thoughts_ahead a_thoughts_orders a_crowd_heights a_text a_judge_known a_text_tape a_text_reader a_text_steps a_text_worked a_thoughts_trial_who a_queue a_queue_who crowd_people crowd_heights text_fed text_length text_top text_steps text_worked judge_known thoughts_trial_length thoughts_trial_who queue_length queue_who 0 r_1 text_top_2 text_worked_3 judge_known_4 thoughts_trial_length_5 thoughts_trial_who_6 hg) hy_X10_calmest ml_X11_252 hd_X10_calmest ⟨by omega, by omega⟩ rfl [10, 1, 2, 8, 5, 6, 7, 9, 11, 12, 3, 4] rfl rfl 10 rfl rfl (w_T_calm G a_this a_crowd a_queue a_text a_judge a_deeds a_mendings a_picture a_shelves a_books a_thoughts a_heads a_crowd_heights a_queue_who a_text_tape a_text_reader a_text_steps a_text_worked a_judge_known a_thoughts_trial a_thoughts_numbers a_thoughts_ahead a_thoughts_orders a_thoughts_trial_who hasPicture crowd_people crowd_heights queue_length queue_who text_fed text_length text_top_2 text_steps text_worked_3 judge_known_4 thoughts_trial_length_5 thoughts_trial_who_6) [none, some 1, some 2, some 10, some 11, some 4, some 5, some 6, some 3, some 7, some 0, some 8, some 9] rfl (by decide +kernel) rfl rfl (Nat.le_of_ble_eq_true rfl) dX11_calm_28 (fun hz_7 => ?_)
        have eq1 := Option.some.inj hf
        obtain ⟨ee1, eq2⟩ := Prod.mk.inj eq1
        obtain ⟨ee2, eq3⟩ := Prod.mk.inj eq2
        obtain ⟨ee3, eq4⟩ := Prod.mk.inj eq3
        obtain ⟨ee4, eq5⟩ := Prod.mk.inj eq4
        obtain ⟨ee5, ee6⟩ := Prod.mk.inj eq5
        subst ee1
        subst ee2
        subst ee3
        subst ee4
        subst ee5
        subst ee6
        exact z_iret F rfl rfl rfl rfl dX11_calm_31
      · refine z_iconst F (1) dX11_calm_23 rfl ?_
        refine z_goto F 28 dX11_calm_24 (by decide) ?_
        obtain ⟨r_8, text_top_9, text_worked_10, judge_known_11, thoughts_trial_length_12, thoughts_trial_who_13, hg, hf⟩ := zb6_some hf
        refine z_callVm (rest := []) F 10 (c_Thoughts_calmest (xL X) G a_thoughts a_crowd a_judge a_thoughts_trial a_thoughts_numbers a_thoughts_ahead a_thoughts_orders a_crowd_heights a_text a_judge_known a_text_tape a_text_reader a_text_steps a_text_worked a_thoughts_trial_who a_queue a_queue_who crowd_people crowd_heights text_fed text_length text_top text_steps text_worked judge_known thoughts_trial_length thoughts_trial_who queue_length queue_who 1 r_8 text_top_9 text_worked_10 judge_known_11 thoughts_trial_length_12 thoughts_trial_who_13 hg) hy_X10_calmest ml_X11_252 hd_X10_calmest ⟨by omega, by omega⟩ rfl [10, 1, 2, 8, 5, 6, 7, 9, 11, 12, 3, 4] rfl rfl 10 rfl rfl (w_T_calm G a_this a_crowd a_queue a_text a_judge a_deeds a_mendings a_picture a_shelves a_books a_thoughts a_heads a_crowd_heights a_queue_who a_text_tape a_text_reader a_text_steps a_text_worked a_judge_known a_thoughts_trial a_thoughts_numbers a_thoughts_ahead a_thoughts_orders a_thoughts_trial_who hasPicture crowd_people crowd_heights queue_length queue_who text_fed text_length text_top_9 text_steps text_worked_10 judge_known_11 thoughts_trial_length_12 thoughts_trial_who_13) [none, some 1, some 2, some 10, some 11, some 4, some 5, some 6, some 3, some 7, some 0, some 8, some 9] rfl (by decide +kernel) rfl rfl (Nat.le_of_ble_eq_true rfl) dX11_calm_28 (fun hz_14 => ?_)
        have eq1 := Option.some.inj hf
        obtain ⟨ee1, eq2⟩ := Prod.mk.inj eq1
        obtain ⟨ee2, eq3⟩ := Prod.mk.inj eq2
        obtain ⟨ee3, eq4⟩ := Prod.mk.inj eq3
        obtain ⟨ee4, eq5⟩ := Prod.mk.inj eq4
        obtain ⟨ee5, ee6⟩ := Prod.mk.inj eq5
        subst ee1
        subst ee2
        subst ee3
        subst ee4
        subst ee5
        subst ee6
        exact z_iret F rfl rfl rfl rfl dX11_calm_31
    · refine z_iconst F (-1) dX11_calm_9 rfl ?_
      have eq1 := Option.some.inj hf
      obtain ⟨ee1, eq2⟩ := Prod.mk.inj eq1
      obtain ⟨ee2, eq3⟩ := Prod.mk.inj eq2
      obtain ⟨ee3, eq4⟩ := Prod.mk.inj eq3
      obtain ⟨ee4, eq5⟩ := Prod.mk.inj eq4
      obtain ⟨ee5, ee6⟩ := Prod.mk.inj eq5
      subst ee1
      subst ee2
      subst ee3
      subst ee4
      subst ee5
      subst ee6
      exact z_iret F rfl rfl rfl rfl dX11_calm_10

abbrev w_T_where (G : zG) (a_this : Nat) (a_crowd : Nat) (a_queue : Nat) (a_text : Nat) (a_judge : Nat) (a_deeds : Nat) (a_mendings : Nat) (a_picture : Nat) (a_shelves : Nat) (a_books : Nat) (a_thoughts : Nat) (a_heads : Nat) (a_crowd_heights : Nat) (a_queue_who : Nat) (a_text_tape : Nat) (a_text_reader : Nat) (a_text_steps : Nat) (a_text_worked : Nat) (a_judge_known : Nat) (a_thoughts_trial : Nat) (a_thoughts_numbers : Nat) (a_thoughts_ahead : Nat) (a_thoughts_orders : Nat) (a_thoughts_trial_who : Nat) (hasPicture : Int32) (crowd_people : Int32) (crowd_heights : Nat → Int32) (queue_length : Int32) (queue_who : Nat → Int32) (text_fed : Int32) (text_length : Int32) (text_top : Int32) (text_steps : Nat → Int32) (text_worked : Nat → Int32) (judge_known : Nat → Int32) (thoughts_trial_length : Int32) (thoughts_trial_who : Nat → Int32) : va_W := [(a_this, cO 11 [.ref a_crowd, .ref a_queue, .ref a_text, .ref a_judge, .ref a_deeds, .ref a_mendings, .ref a_picture, .int hasPicture, .ref a_shelves, .ref a_books, .ref a_thoughts, .ref a_heads]), (a_crowd, cO 1 [.ref a_crowd_heights, .int crowd_people]), (a_crowd_heights, cI G 9 crowd_heights), (a_queue, cO 7 [.ref a_queue_who, .int queue_length]), (a_queue_who, cI G 9 queue_who), (a_text, cO 5 [.ref a_text_tape, .int text_fed, .ref a_text_reader, .ref a_text_steps, .int text_length, .ref a_text_worked, .int text_top]), (a_text_steps, cI G 121 text_steps), (a_text_worked, cI G 121 text_worked), (a_judge, cO 4 [.ref a_crowd, .ref a_text, .ref a_judge_known]), (a_judge_known, cB G 729 judge_known), (a_thoughts, cO 10 [.ref a_crowd, .ref a_judge, .ref a_thoughts_trial, .ref a_thoughts_numbers, .ref a_thoughts_ahead, .ref a_thoughts_orders]), (a_thoughts_trial, cO 7 [.ref a_thoughts_trial_who, .int thoughts_trial_length]), (a_thoughts_trial_who, cI G 9 thoughts_trial_who)]
def f_T_where (crowd_people : Int32) (crowd_heights : Nat → Int32) (queue_length : Int32) (queue_who : Nat → Int32) (text_length : Int32) (text_top : Int32) (text_steps : Nat → Int32) (text_worked : Nat → Int32) (judge_known : Nat → Int32) (thoughts_trial_length : Int32) (thoughts_trial_who : Nat → Int32) (x1 : Int32) (x2 : Int32) : Option (Int32 × Int32 × (Nat → Int32) × (Nat → Int32) × Int32 × (Nat → Int32)) := (if (f_Crowd_isPerson crowd_people x1) = 0 then (some ((-1), text_top, text_worked, judge_known, thoughts_trial_length, thoughts_trial_who)) else (if x2 < 0 then (some ((-1), text_top, text_worked, judge_known, thoughts_trial_length, thoughts_trial_who)) else (if x2 ≤ 3 then (zb1 (f_Line_placeOf queue_length queue_who x1) fun r_2 => (if r_2 < 0 then (if x2 = 1 then (some (0, text_top, text_worked, judge_known, thoughts_trial_length, thoughts_trial_who)) else (if x2 = 3 then (some (0, text_top, text_worked, judge_known, thoughts_trial_length, thoughts_trial_who)) else (if x2 = 0 then (zb6 (f_Thoughts_bestEntry crowd_people crowd_heights text_length text_top text_steps text_worked judge_known thoughts_trial_length thoughts_trial_who queue_length queue_who x1 1) fun r_11 text_top_12 text_worked_13 judge_known_14 thoughts_trial_length_15 thoughts_trial_who_16 => (some (r_11, text_top_12, text_worked_13, judge_known_14, thoughts_trial_length_15, thoughts_trial_who_16))) else (zb6 (f_Thoughts_bestEntry crowd_people crowd_heights text_length text_top text_steps text_worked judge_known thoughts_trial_length thoughts_trial_who queue_length queue_who x1 0) fun r_4 text_top_5 text_worked_6 judge_known_7 thoughts_trial_length_8 thoughts_trial_who_9 => (some (r_4, text_top_5, text_worked_6, judge_known_7, thoughts_trial_length_8, thoughts_trial_who_9)))))) else (some ((-5), text_top, text_worked, judge_known, thoughts_trial_length, thoughts_trial_who)))) else (some ((-1), text_top, text_worked, judge_known, thoughts_trial_length, thoughts_trial_who)))))
set_option maxRecDepth 100000 in
set_option maxHeartbeats 4000000 in
theorem c_T_where (l : Launch) (G : zG) (a_this : Nat) (a_crowd : Nat) (a_queue : Nat) (a_text : Nat) (a_judge : Nat) (a_deeds : Nat) (a_mendings : Nat) (a_picture : Nat) (a_shelves : Nat) (a_books : Nat) (a_thoughts : Nat) (a_heads : Nat) (a_crowd_heights : Nat) (a_queue_who : Nat) (a_text_tape : Nat) (a_text_reader : Nat) (a_text_steps : Nat) (a_text_worked : Nat) (a_judge_known : Nat) (a_thoughts_trial : Nat) (a_thoughts_numbers : Nat) (a_thoughts_ahead : Nat) (a_thoughts_orders : Nat) (a_thoughts_trial_who : Nat) (hasPicture : Int32) (crowd_people : Int32) (crowd_heights : Nat → Int32) (queue_length : Int32) (queue_who : Nat → Int32) (text_fed : Int32) (text_length : Int32) (text_top : Int32) (text_steps : Nat → Int32) (text_worked : Nat → Int32) (judge_known : Nat → Int32) (thoughts_trial_length : Int32) (thoughts_trial_who : Nat → Int32) (x1 : Int32) (x2 : Int32) (r_ : Int32) (o_text_top : Int32) (o_text_worked : Nat → Int32) (o_judge_known : Nat → Int32) (o_thoughts_trial_length : Int32) (o_thoughts_trial_who : Nat → Int32) (hf : f_T_where crowd_people crowd_heights queue_length queue_who text_length text_top text_steps text_worked judge_known thoughts_trial_length thoughts_trial_who x1 x2 = some (r_, o_text_top, o_text_worked, o_judge_known, o_thoughts_trial_length, o_thoughts_trial_who)) : zM l yX11_where cX11_where 3 (some .int) 6 168 G [.ref a_this, .int x1, .int x2] (w_T_where G a_this a_crowd a_queue a_text a_judge a_deeds a_mendings a_picture a_shelves a_books a_thoughts a_heads a_crowd_heights a_queue_who a_text_tape a_text_reader a_text_steps a_text_worked a_judge_known a_thoughts_trial a_thoughts_numbers a_thoughts_ahead a_thoughts_orders a_thoughts_trial_who hasPicture crowd_people crowd_heights queue_length queue_who text_fed text_length text_top text_steps text_worked judge_known thoughts_trial_length thoughts_trial_who) (some (.int r_)) (w_T_where G a_this a_crowd a_queue a_text a_judge a_deeds a_mendings a_picture a_shelves a_books a_thoughts a_heads a_crowd_heights a_queue_who a_text_tape a_text_reader a_text_steps a_text_worked a_judge_known a_thoughts_trial a_thoughts_numbers a_thoughts_ahead a_thoughts_orders a_thoughts_trial_who hasPicture crowd_people crowd_heights queue_length queue_who text_fed text_length o_text_top text_steps o_text_worked o_judge_known o_thoughts_trial_length o_thoughts_trial_who) := by
  refine zM.of [(0, .ref a_this), (1, .int x1), (2, .int x2)] (own := RX11) rfl (by decide +kernel) (Nat.le_of_ble_eq_true rfl) rfl rfl fun X hX F => ?_
  subst hX
  replace hf := (f_T_where.eq_1 ..).symm.trans hf
  refine z_aload_n F 0 dX11_where_0 rfl rfl ?_
  refine z_get F 0 11 0 inlX11 rfl rfl (by decide) fl_X11_10 rfl dX11_where_1 ?_
  refine z_iload_n F 1 dX11_where_4 rfl rfl ?_
  refine z_callVm (rest := []) F 1 (c_Crowd_isPerson (xL X) G a_crowd a_crowd_heights crowd_people x1 _ rfl) hy_X1_isPerson ml_X11_119 hd_X1_isPerson ⟨by omega, by omega⟩ rfl [1] rfl rfl 1 rfl rfl (w_T_where G a_this a_crowd a_queue a_text a_judge a_deeds a_mendings a_picture a_shelves a_books a_thoughts a_heads a_crowd_heights a_queue_who a_text_tape a_text_reader a_text_steps a_text_worked a_judge_known a_thoughts_trial a_thoughts_numbers a_thoughts_ahead a_thoughts_orders a_thoughts_trial_who hasPicture crowd_people crowd_heights queue_length queue_who text_fed text_length text_top text_steps text_worked judge_known thoughts_trial_length thoughts_trial_who) [none, some 0, none, none, none, none, none, none, none, none, none, none, none] rfl (by decide +kernel) rfl rfl (Nat.le_of_ble_eq_true rfl) dX11_where_5 (fun hz_1 => ?_)
  refine z_if_eq F 20 dX11_where_8 (by decide) hf (fun hf _ => ?_) (fun hf _ => ?_)
  · refine z_iconst F (-1) dX11_where_20 rfl ?_
    have eq1 := Option.some.inj hf
    obtain ⟨ee1, eq2⟩ := Prod.mk.inj eq1
    obtain ⟨ee2, eq3⟩ := Prod.mk.inj eq2
    obtain ⟨ee3, eq4⟩ := Prod.mk.inj eq3
    obtain ⟨ee4, eq5⟩ := Prod.mk.inj eq4
    obtain ⟨ee5, ee6⟩ := Prod.mk.inj eq5
    subst ee1
    subst ee2
    subst ee3
    subst ee4
    subst ee5
    subst ee6
    exact z_iret F rfl rfl rfl rfl dX11_where_21
  · refine z_iload_n F 2 dX11_where_11 rfl rfl ?_
    refine z_if_lt F 20 dX11_where_12 (by decide) hf (fun hf _ => ?_) (fun hf _ => ?_)
    · refine z_iconst F (-1) dX11_where_20 rfl ?_
      have eq1 := Option.some.inj hf
      obtain ⟨ee1, eq2⟩ := Prod.mk.inj eq1
      obtain ⟨ee2, eq3⟩ := Prod.mk.inj eq2
      obtain ⟨ee3, eq4⟩ := Prod.mk.inj eq3
      obtain ⟨ee4, eq5⟩ := Prod.mk.inj eq4
      obtain ⟨ee5, ee6⟩ := Prod.mk.inj eq5
      subst ee1
      subst ee2
      subst ee3
      subst ee4
      subst ee5
      subst ee6
      exact z_iret F rfl rfl rfl rfl dX11_where_21
    · refine z_iload_n F 2 dX11_where_15 rfl rfl ?_
      refine z_iconst F (3) dX11_where_16 rfl ?_
      refine z_icmp_le F 22 dX11_where_17 (by decide) hf (fun hf _ => ?_) (fun hf _ => ?_)
      · refine z_aload_n F 0 dX11_where_22 rfl rfl ?_
        refine z_get F 0 11 1 inlX11 rfl rfl (by decide) fl_X11_19 rfl dX11_where_23 ?_
        refine z_iload_n F 1 dX11_where_26 rfl rfl ?_
        obtain ⟨r_2, hg, hf⟩ := zb1_some hf
        refine z_callVm (rest := []) F 7 (c_Line_placeOf (xL X) G a_queue a_queue_who queue_length queue_who x1 r_2 hg) hy_X7_placeOf ml_X11_175 hd_X7_placeOf ⟨by omega, by omega⟩ rfl [3, 4] rfl rfl 3 rfl rfl (w_T_where G a_this a_crowd a_queue a_text a_judge a_deeds a_mendings a_picture a_shelves a_books a_thoughts a_heads a_crowd_heights a_queue_who a_text_tape a_text_reader a_text_steps a_text_worked a_judge_known a_thoughts_trial a_thoughts_numbers a_thoughts_ahead a_thoughts_orders a_thoughts_trial_who hasPicture crowd_people crowd_heights queue_length queue_who text_fed text_length text_top text_steps text_worked judge_known thoughts_trial_length thoughts_trial_who) [none, none, none, some 0, some 1, none, none, none, none, none, none, none, none] rfl (by decide +kernel) rfl rfl (Nat.le_of_ble_eq_true rfl) dX11_where_27 (fun hz_3 => ?_)
        refine z_if_lt F 36 dX11_where_30 (by decide) hf (fun hf _ => ?_) (fun hf _ => ?_)
        · refine z_iload_n F 2 dX11_where_36 rfl rfl ?_
          refine z_iconst F (1) dX11_where_37 rfl ?_
          refine z_icmp_eq F 46 dX11_where_38 (by decide) hf (fun hf _ => ?_) (fun hf _ => ?_)
          · refine z_iconst F (0) dX11_where_46 rfl ?_
            have eq1 := Option.some.inj hf
            obtain ⟨ee1, eq2⟩ := Prod.mk.inj eq1
            obtain ⟨ee2, eq3⟩ := Prod.mk.inj eq2
            obtain ⟨ee3, eq4⟩ := Prod.mk.inj eq3
            obtain ⟨ee4, eq5⟩ := Prod.mk.inj eq4
            obtain ⟨ee5, ee6⟩ := Prod.mk.inj eq5
            subst ee1
            subst ee2
            subst ee3
            subst ee4
            subst ee5
            subst ee6
            exact z_iret F rfl rfl rfl rfl dX11_where_47
          · refine z_iload_n F 2 dX11_where_41 rfl rfl ?_
            refine z_iconst F (3) dX11_where_42 rfl ?_
            refine z_icmp_ne F 48 dX11_where_43 (by decide) hf (fun hf _ => ?_) (fun hf _ => ?_)
            · refine z_aload_n F 0 dX11_where_48 rfl rfl ?_
              refine z_get F 0 11 10 inlX11 rfl rfl (by decide) fl_X11_79 rfl dX11_where_49 ?_
              refine z_aload_n F 0 dX11_where_52 rfl rfl ?_
              refine z_get F 0 11 1 inlX11 rfl rfl (by decide) fl_X11_19 rfl dX11_where_53 ?_
              refine z_iload_n F 1 dX11_where_56 rfl rfl ?_
              refine z_iload_n F 2 dX11_where_57 rfl rfl ?_
              refine z_if_ne F 65 dX11_where_58 (by decide) hf (fun hf _ => ?_) (fun hf _ => ?_)
              · refine z_iconst F (0) dX11_where_65 rfl ?_
                obtain ⟨r_4, text_top_5, text_worked_6, judge_known_7, thoughts_trial_length_8, thoughts_trial_who_9, hg, hf⟩ := zb6_some hf
                refine z_callVm (rest := []) F 10 (c_Thoughts_bestEntry (xL X) G a_thoughts a_crowd a_judge a_thoughts_trial a_thoughts_numbers a_thoughts_ahead a_thoughts_orders a_crowd_heights a_text a_judge_known a_text_tape a_text_reader a_text_steps a_text_worked a_thoughts_trial_who a_queue a_queue_who crowd_people crowd_heights text_fed text_length text_top text_steps text_worked judge_known thoughts_trial_length thoughts_trial_who queue_length queue_who x1 0 r_4 text_top_5 text_worked_6 judge_known_7 thoughts_trial_length_8 thoughts_trial_who_9 hg) hy_X10_bestEntry ml_X11_256 hd_X10_bestEntry ⟨by omega, by omega⟩ rfl [10, 1, 2, 8, 5, 6, 7, 9, 11, 12, 3, 4] rfl rfl 10 rfl rfl (w_T_where G a_this a_crowd a_queue a_text a_judge a_deeds a_mendings a_picture a_shelves a_books a_thoughts a_heads a_crowd_heights a_queue_who a_text_tape a_text_reader a_text_steps a_text_worked a_judge_known a_thoughts_trial a_thoughts_numbers a_thoughts_ahead a_thoughts_orders a_thoughts_trial_who hasPicture crowd_people crowd_heights queue_length queue_who text_fed text_length text_top_5 text_steps text_worked_6 judge_known_7 thoughts_trial_length_8 thoughts_trial_who_9) [none, some 1, some 2, some 10, some 11, some 4, some 5, some 6, some 3, some 7, some 0, some 8, some 9] rfl (by decide +kernel) rfl rfl (Nat.le_of_ble_eq_true rfl) dX11_where_66 (fun hz_10 => ?_)
                have eq1 := Option.some.inj hf
                obtain ⟨ee1, eq2⟩ := Prod.mk.inj eq1
                obtain ⟨ee2, eq3⟩ := Prod.mk.inj eq2
                obtain ⟨ee3, eq4⟩ := Prod.mk.inj eq3
                obtain ⟨ee4, eq5⟩ := Prod.mk.inj eq4
                obtain ⟨ee5, ee6⟩ := Prod.mk.inj eq5
                subst ee1
                subst ee2
                subst ee3
                subst ee4
                subst ee5
                subst ee6
                exact z_iret F rfl rfl rfl rfl dX11_where_69
              · refine z_iconst F (1) dX11_where_61 rfl ?_
                refine z_goto F 66 dX11_where_62 (by decide) ?_
                obtain ⟨r_11, text_top_12, text_worked_13, judge_known_14, thoughts_trial_length_15, thoughts_trial_who_16, hg, hf⟩ := zb6_some hf
                refine z_callVm (rest := []) F 10 (c_Thoughts_bestEntry (xL X) G a_thoughts a_crowd a_judge a_thoughts_trial a_thoughts_numbers a_thoughts_ahead a_thoughts_orders a_crowd_heights a_text a_judge_known a_text_tape a_text_reader a_text_steps a_text_worked a_thoughts_trial_who a_queue a_queue_who crowd_people crowd_heights text_fed text_length text_top text_steps text_worked judge_known thoughts_trial_length thoughts_trial_who queue_length queue_who x1 1 r_11 text_top_12 text_worked_13 judge_known_14 thoughts_trial_length_15 thoughts_trial_who_16 hg) hy_X10_bestEntry ml_X11_256 hd_X10_bestEntry ⟨by omega, by omega⟩ rfl [10, 1, 2, 8, 5, 6, 7, 9, 11, 12, 3, 4] rfl rfl 10 rfl rfl (w_T_where G a_this a_crowd a_queue a_text a_judge a_deeds a_mendings a_picture a_shelves a_books a_thoughts a_heads a_crowd_heights a_queue_who a_text_tape a_text_reader a_text_steps a_text_worked a_judge_known a_thoughts_trial a_thoughts_numbers a_thoughts_ahead a_thoughts_orders a_thoughts_trial_who hasPicture crowd_people crowd_heights queue_length queue_who text_fed text_length text_top_12 text_steps text_worked_13 judge_known_14 thoughts_trial_length_15 thoughts_trial_who_16) [none, some 1, some 2, some 10, some 11, some 4, some 5, some 6, some 3, some 7, some 0, some 8, some 9] rfl (by decide +kernel) rfl rfl (Nat.le_of_ble_eq_true rfl) dX11_where_66 (fun hz_17 => ?_)
                have eq1 := Option.some.inj hf
                obtain ⟨ee1, eq2⟩ := Prod.mk.inj eq1
                obtain ⟨ee2, eq3⟩ := Prod.mk.inj eq2
                obtain ⟨ee3, eq4⟩ := Prod.mk.inj eq3
                obtain ⟨ee4, eq5⟩ := Prod.mk.inj eq4
                obtain ⟨ee5, ee6⟩ := Prod.mk.inj eq5
                subst ee1
                subst ee2
                subst ee3
                subst ee4
                subst ee5
                subst ee6
                exact z_iret F rfl rfl rfl rfl dX11_where_69
            · refine z_iconst F (0) dX11_where_46 rfl ?_
              have eq1 := Option.some.inj hf
              obtain ⟨ee1, eq2⟩ := Prod.mk.inj eq1
              obtain ⟨ee2, eq3⟩ := Prod.mk.inj eq2
              obtain ⟨ee3, eq4⟩ := Prod.mk.inj eq3
              obtain ⟨ee4, eq5⟩ := Prod.mk.inj eq4
              obtain ⟨ee5, ee6⟩ := Prod.mk.inj eq5
              subst ee1
              subst ee2
              subst ee3
              subst ee4
              subst ee5
              subst ee6
              exact z_iret F rfl rfl rfl rfl dX11_where_47
        · refine z_bipush F (-5) dX11_where_33 rfl ?_
          have eq1 := Option.some.inj hf
          obtain ⟨ee1, eq2⟩ := Prod.mk.inj eq1
          obtain ⟨ee2, eq3⟩ := Prod.mk.inj eq2
          obtain ⟨ee3, eq4⟩ := Prod.mk.inj eq3
          obtain ⟨ee4, eq5⟩ := Prod.mk.inj eq4
          obtain ⟨ee5, ee6⟩ := Prod.mk.inj eq5
          subst ee1
          subst ee2
          subst ee3
          subst ee4
          subst ee5
          subst ee6
          exact z_iret F rfl rfl rfl rfl dX11_where_35
      · refine z_iconst F (-1) dX11_where_20 rfl ?_
        have eq1 := Option.some.inj hf
        obtain ⟨ee1, eq2⟩ := Prod.mk.inj eq1
        obtain ⟨ee2, eq3⟩ := Prod.mk.inj eq2
        obtain ⟨ee3, eq4⟩ := Prod.mk.inj eq3
        obtain ⟨ee4, eq5⟩ := Prod.mk.inj eq4
        obtain ⟨ee5, ee6⟩ := Prod.mk.inj eq5
        subst ee1
        subst ee2
        subst ee3
        subst ee4
        subst ee5
        subst ee6
        exact z_iret F rfl rfl rfl rfl dX11_where_21

abbrev w_T_growth (G : zG) (a_this : Nat) (a_crowd : Nat) (a_queue : Nat) (a_text : Nat) (a_judge : Nat) (a_deeds : Nat) (a_mendings : Nat) (a_picture : Nat) (a_shelves : Nat) (a_books : Nat) (a_thoughts : Nat) (a_heads : Nat) (a_crowd_heights : Nat) (a_queue_who : Nat) (a_text_tape : Nat) (a_text_reader : Nat) (a_text_steps : Nat) (a_text_worked : Nat) (a_judge_known : Nat) (a_thoughts_trial : Nat) (a_thoughts_numbers : Nat) (a_thoughts_ahead : Nat) (a_thoughts_orders : Nat) (hasPicture : Int32) (crowd_people : Int32) (crowd_heights : Nat → Int32) (queue_length : Int32) (queue_who : Nat → Int32) (text_fed : Int32) (text_length : Int32) (text_top : Int32) (text_steps : Nat → Int32) (text_worked : Nat → Int32) : va_W := [(a_this, cO 11 [.ref a_crowd, .ref a_queue, .ref a_text, .ref a_judge, .ref a_deeds, .ref a_mendings, .ref a_picture, .int hasPicture, .ref a_shelves, .ref a_books, .ref a_thoughts, .ref a_heads]), (a_crowd, cO 1 [.ref a_crowd_heights, .int crowd_people]), (a_crowd_heights, cI G 9 crowd_heights), (a_queue, cO 7 [.ref a_queue_who, .int queue_length]), (a_queue_who, cI G 9 queue_who), (a_text, cO 5 [.ref a_text_tape, .int text_fed, .ref a_text_reader, .ref a_text_steps, .int text_length, .ref a_text_worked, .int text_top]), (a_text_steps, cI G 121 text_steps), (a_text_worked, cI G 121 text_worked), (a_judge, cO 4 [.ref a_crowd, .ref a_text, .ref a_judge_known]), (a_thoughts, cO 10 [.ref a_crowd, .ref a_judge, .ref a_thoughts_trial, .ref a_thoughts_numbers, .ref a_thoughts_ahead, .ref a_thoughts_orders])]
def f_T_growth (crowd_people : Int32) (crowd_heights : Nat → Int32) (queue_length : Int32) (queue_who : Nat → Int32) (text_length : Int32) (text_top : Int32) (text_steps : Nat → Int32) (text_worked : Nat → Int32) (x1 : Int32) : Option (Int32 × Int32 × (Nat → Int32)) := (if (f_Crowd_isPerson crowd_people x1) = 0 then (some ((-1), text_top, text_worked)) else (zb1 (f_Line_placeOf queue_length queue_who x1) fun r_2 => (if (0 : Int32) ≤ r_2 then (zb3 (f_Thoughts_leastGrowth crowd_people crowd_heights text_length text_top text_steps text_worked queue_length queue_who r_2) fun r_4 text_top_5 text_worked_6 => (some (r_4, text_top_5, text_worked_6))) else (some ((-5), text_top, text_worked)))))
set_option maxRecDepth 100000 in
set_option maxHeartbeats 4000000 in
theorem c_T_growth (l : Launch) (G : zG) (a_this : Nat) (a_crowd : Nat) (a_queue : Nat) (a_text : Nat) (a_judge : Nat) (a_deeds : Nat) (a_mendings : Nat) (a_picture : Nat) (a_shelves : Nat) (a_books : Nat) (a_thoughts : Nat) (a_heads : Nat) (a_crowd_heights : Nat) (a_queue_who : Nat) (a_text_tape : Nat) (a_text_reader : Nat) (a_text_steps : Nat) (a_text_worked : Nat) (a_judge_known : Nat) (a_thoughts_trial : Nat) (a_thoughts_numbers : Nat) (a_thoughts_ahead : Nat) (a_thoughts_orders : Nat) (hasPicture : Int32) (crowd_people : Int32) (crowd_heights : Nat → Int32) (queue_length : Int32) (queue_who : Nat → Int32) (text_fed : Int32) (text_length : Int32) (text_top : Int32) (text_steps : Nat → Int32) (text_worked : Nat → Int32) (x1 : Int32) (r_ : Int32) (o_text_top : Int32) (o_text_worked : Nat → Int32) (hf : f_T_growth crowd_people crowd_heights queue_length queue_who text_length text_top text_steps text_worked x1 = some (r_, o_text_top, o_text_worked)) : zM l yX11_growth cX11_growth 3 (some .int) 4 105 G [.ref a_this, .int x1] (w_T_growth G a_this a_crowd a_queue a_text a_judge a_deeds a_mendings a_picture a_shelves a_books a_thoughts a_heads a_crowd_heights a_queue_who a_text_tape a_text_reader a_text_steps a_text_worked a_judge_known a_thoughts_trial a_thoughts_numbers a_thoughts_ahead a_thoughts_orders hasPicture crowd_people crowd_heights queue_length queue_who text_fed text_length text_top text_steps text_worked) (some (.int r_)) (w_T_growth G a_this a_crowd a_queue a_text a_judge a_deeds a_mendings a_picture a_shelves a_books a_thoughts a_heads a_crowd_heights a_queue_who a_text_tape a_text_reader a_text_steps a_text_worked a_judge_known a_thoughts_trial a_thoughts_numbers a_thoughts_ahead a_thoughts_orders hasPicture crowd_people crowd_heights queue_length queue_who text_fed text_length o_text_top text_steps o_text_worked) := by
  refine zM.of [(0, .ref a_this), (1, .int x1)] (own := RX11) rfl (by decide +kernel) (Nat.le_of_ble_eq_true rfl) rfl rfl fun X hX F => ?_
  subst hX
  replace hf := (f_T_growth.eq_1 ..).symm.trans hf
  refine z_aload_n F 0 dX11_growth_0 rfl rfl ?_
  refine z_get F 0 11 0 inlX11 rfl rfl (by decide) fl_X11_10 rfl dX11_growth_1 ?_
  refine z_iload_n F 1 dX11_growth_4 rfl rfl ?_
  refine z_callVm (rest := []) F 1 (c_Crowd_isPerson (xL X) G a_crowd a_crowd_heights crowd_people x1 _ rfl) hy_X1_isPerson ml_X11_119 hd_X1_isPerson ⟨by omega, by omega⟩ rfl [1] rfl rfl 1 rfl rfl (w_T_growth G a_this a_crowd a_queue a_text a_judge a_deeds a_mendings a_picture a_shelves a_books a_thoughts a_heads a_crowd_heights a_queue_who a_text_tape a_text_reader a_text_steps a_text_worked a_judge_known a_thoughts_trial a_thoughts_numbers a_thoughts_ahead a_thoughts_orders hasPicture crowd_people crowd_heights queue_length queue_who text_fed text_length text_top text_steps text_worked) [none, some 0, none, none, none, none, none, none, none, none] rfl (by decide +kernel) rfl rfl (Nat.le_of_ble_eq_true rfl) dX11_growth_5 (fun hz_1 => ?_)
  refine z_if_ne F 13 dX11_growth_8 (by decide) hf (fun hf _ => ?_) (fun hf _ => ?_)
  · refine z_aload_n F 0 dX11_growth_13 rfl rfl ?_
    refine z_get F 0 11 1 inlX11 rfl rfl (by decide) fl_X11_19 rfl dX11_growth_14 ?_
    refine z_iload_n F 1 dX11_growth_17 rfl rfl ?_
    obtain ⟨r_2, hg, hf⟩ := zb1_some hf
    refine z_callVm (rest := []) F 7 (c_Line_placeOf (xL X) G a_queue a_queue_who queue_length queue_who x1 r_2 hg) hy_X7_placeOf ml_X11_175 hd_X7_placeOf ⟨by omega, by omega⟩ rfl [3, 4] rfl rfl 3 rfl rfl (w_T_growth G a_this a_crowd a_queue a_text a_judge a_deeds a_mendings a_picture a_shelves a_books a_thoughts a_heads a_crowd_heights a_queue_who a_text_tape a_text_reader a_text_steps a_text_worked a_judge_known a_thoughts_trial a_thoughts_numbers a_thoughts_ahead a_thoughts_orders hasPicture crowd_people crowd_heights queue_length queue_who text_fed text_length text_top text_steps text_worked) [none, none, none, some 0, some 1, none, none, none, none, none] rfl (by decide +kernel) rfl rfl (Nat.le_of_ble_eq_true rfl) dX11_growth_18 (fun hz_3 => ?_)
    refine z_istore_n F [(2, .int r_2), (0, .ref a_this), (1, .int x1)] dX11_growth_21 rfl (by decide) rfl ?_
    refine z_iload_n F 0 dX11_growth_22 rfl rfl ?_
    refine z_if_ge F 31 dX11_growth_23 (by decide) hf (fun hf _ => ?_) (fun hf _ => ?_)
    · refine z_aload_n F 1 dX11_growth_31 rfl rfl ?_
      refine z_get F 0 11 10 inlX11 rfl rfl (by decide) fl_X11_79 rfl dX11_growth_32 ?_
      refine z_aload_n F 1 dX11_growth_35 rfl rfl ?_
      refine z_get F 0 11 1 inlX11 rfl rfl (by decide) fl_X11_19 rfl dX11_growth_36 ?_
      refine z_iload_n F 0 dX11_growth_39 rfl rfl ?_
      obtain ⟨r_4, text_top_5, text_worked_6, hg, hf⟩ := zb3_some hf
      refine z_callVm (rest := []) F 10 (c_Thoughts_leastGrowth (xL X) G a_thoughts a_crowd a_judge a_thoughts_trial a_thoughts_numbers a_thoughts_ahead a_thoughts_orders a_crowd_heights a_text a_judge_known a_text_tape a_text_reader a_text_steps a_text_worked a_queue a_queue_who crowd_people crowd_heights text_fed text_length text_top text_steps text_worked queue_length queue_who r_2 r_4 text_top_5 text_worked_6 hg) hy_X10_leastGrowth ml_X11_260 hd_X10_leastGrowth ⟨by omega, by omega⟩ rfl [9, 1, 2, 8, 5, 6, 7, 3, 4] rfl rfl 9 rfl rfl (w_T_growth G a_this a_crowd a_queue a_text a_judge a_deeds a_mendings a_picture a_shelves a_books a_thoughts a_heads a_crowd_heights a_queue_who a_text_tape a_text_reader a_text_steps a_text_worked a_judge_known a_thoughts_trial a_thoughts_numbers a_thoughts_ahead a_thoughts_orders hasPicture crowd_people crowd_heights queue_length queue_who text_fed text_length text_top_5 text_steps text_worked_6) [none, some 1, some 2, some 7, some 8, some 4, some 5, some 6, some 3, some 0] rfl (by decide +kernel) rfl rfl (Nat.le_of_ble_eq_true rfl) dX11_growth_40 (fun hz_7 => ?_)
      have eq1 := Option.some.inj hf
      obtain ⟨ee1, eq2⟩ := Prod.mk.inj eq1
      obtain ⟨ee2, ee3⟩ := Prod.mk.inj eq2
      subst ee1
      subst ee2
      subst ee3
      exact z_iret F rfl rfl rfl rfl dX11_growth_43
    · refine z_bipush F (-5) dX11_growth_26 rfl ?_
      refine z_goto F 43 dX11_growth_28 (by decide) ?_
      have eq1 := Option.some.inj hf
      obtain ⟨ee1, eq2⟩ := Prod.mk.inj eq1
      obtain ⟨ee2, ee3⟩ := Prod.mk.inj eq2
      subst ee1
      subst ee2
      subst ee3
      exact z_iret F rfl rfl rfl rfl dX11_growth_43
  · refine z_iconst F (-1) dX11_growth_11 rfl ?_
    have eq1 := Option.some.inj hf
    obtain ⟨ee1, eq2⟩ := Prod.mk.inj eq1
    obtain ⟨ee2, ee3⟩ := Prod.mk.inj eq2
    subst ee1
    subst ee2
    subst ee3
    exact z_iret F rfl rfl rfl rfl dX11_growth_12

