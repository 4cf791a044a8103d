/-! by program (wip/whole/gen.py): pure functions and contracts -/
theorem dX11_feed_0 : decode cX11_feed 0 = .ok (.iload_n 1, 1) := by decide +kernel
theorem dX11_feed_1 : decode cX11_feed 1 = .ok (.ifCond .lt 10, 3) := by decide +kernel
theorem dX11_feed_4 : decode cX11_feed 4 = .ok (.iload_n 1, 1) := by decide +kernel
theorem dX11_feed_5 : decode cX11_feed 5 = .ok (.sipush 255, 3) := by decide +kernel
theorem dX11_feed_8 : decode cX11_feed 8 = .ok (.if_icmp .le 5, 3) := by decide +kernel
theorem dX11_feed_11 : decode cX11_feed 11 = .ok (.iconst (-1), 1) := by decide +kernel
theorem dX11_feed_12 : decode cX11_feed 12 = .ok (.ireturn, 1) := by decide +kernel
theorem dX11_feed_13 : decode cX11_feed 13 = .ok (.aload_n 0, 1) := by decide +kernel
theorem dX11_feed_14 : decode cX11_feed 14 = .ok (.getfield 26, 3) := by decide +kernel
theorem dX11_feed_17 : decode cX11_feed 17 = .ok (.iload_n 1, 1) := by decide +kernel
theorem dX11_feed_18 : decode cX11_feed 18 = .ok (.invokevirtual 146, 3) := by decide +kernel
theorem dX11_feed_21 : decode cX11_feed 21 = .ok (.ireturn, 1) := by decide +kernel
theorem dX11_law_0 : decode cX11_law 0 = .ok (.aload_n 0, 1) := by decide +kernel
theorem dX11_law_1 : decode cX11_law 1 = .ok (.getfield 26, 3) := by decide +kernel
theorem dX11_law_4 : decode cX11_law 4 = .ok (.invokevirtual 149, 3) := by decide +kernel
theorem dX11_law_7 : decode cX11_law 7 = .ok (.istore_n 1, 1) := by decide +kernel
theorem dX11_law_8 : decode cX11_law 8 = .ok (.iload_n 1, 1) := by decide +kernel
theorem dX11_law_9 : decode cX11_law 9 = .ok (.ifCond .lt 8, 3) := by decide +kernel
theorem dX11_law_12 : decode cX11_law 12 = .ok (.bipush (-100), 2) := by decide +kernel
theorem dX11_law_14 : decode cX11_law 14 = .ok (.iload_n 1, 1) := by decide +kernel
theorem dX11_law_15 : decode cX11_law 15 = .ok (.isub, 1) := by decide +kernel
theorem dX11_law_16 : decode cX11_law 16 = .ok (.ireturn, 1) := by decide +kernel
theorem dX11_law_17 : decode cX11_law 17 = .ok (.aload_n 0, 1) := by decide +kernel
theorem dX11_law_18 : decode cX11_law 18 = .ok (.getfield 35, 3) := by decide +kernel
theorem dX11_law_21 : decode cX11_law 21 = .ok (.invokevirtual 152, 3) := by decide +kernel
theorem dX11_law_24 : decode cX11_law 24 = .ok (.iconst 1, 1) := by decide +kernel
theorem dX11_law_25 : decode cX11_law 25 = .ok (.ireturn, 1) := by decide +kernel
theorem dX11_disquiet_0 : decode cX11_disquiet 0 = .ok (.iload_n 1, 1) := by decide +kernel
theorem dX11_disquiet_1 : decode cX11_disquiet 1 = .ok (.tableswitch 63 0 2 #[27, 39, 51], 27) := by decide +kernel
theorem dX11_disquiet_28 : decode cX11_disquiet 28 = .ok (.aload_n 0, 1) := by decide +kernel
theorem dX11_disquiet_29 : decode cX11_disquiet 29 = .ok (.getfield 35, 3) := by decide +kernel
theorem dX11_disquiet_32 : decode cX11_disquiet 32 = .ok (.aload_n 0, 1) := by decide +kernel
theorem dX11_disquiet_33 : decode cX11_disquiet 33 = .ok (.getfield 19, 3) := by decide +kernel
theorem dX11_disquiet_36 : decode cX11_disquiet 36 = .ok (.invokevirtual 155, 3) := by decide +kernel
theorem dX11_disquiet_39 : decode cX11_disquiet 39 = .ok (.ireturn, 1) := by decide +kernel
theorem dX11_disquiet_40 : decode cX11_disquiet 40 = .ok (.aload_n 0, 1) := by decide +kernel
theorem dX11_disquiet_41 : decode cX11_disquiet 41 = .ok (.getfield 35, 3) := by decide +kernel
theorem dX11_disquiet_44 : decode cX11_disquiet 44 = .ok (.aload_n 0, 1) := by decide +kernel
theorem dX11_disquiet_45 : decode cX11_disquiet 45 = .ok (.getfield 19, 3) := by decide +kernel
theorem dX11_disquiet_48 : decode cX11_disquiet 48 = .ok (.invokevirtual 159, 3) := by decide +kernel
theorem dX11_disquiet_51 : decode cX11_disquiet 51 = .ok (.ireturn, 1) := by decide +kernel
theorem dX11_disquiet_52 : decode cX11_disquiet 52 = .ok (.aload_n 0, 1) := by decide +kernel
theorem dX11_disquiet_53 : decode cX11_disquiet 53 = .ok (.getfield 35, 3) := by decide +kernel
theorem dX11_disquiet_56 : decode cX11_disquiet 56 = .ok (.aload_n 0, 1) := by decide +kernel
theorem dX11_disquiet_57 : decode cX11_disquiet 57 = .ok (.getfield 19, 3) := by decide +kernel
theorem dX11_disquiet_60 : decode cX11_disquiet 60 = .ok (.invokevirtual 162, 3) := by decide +kernel
theorem dX11_disquiet_63 : decode cX11_disquiet 63 = .ok (.ireturn, 1) := by decide +kernel
theorem dX11_disquiet_64 : decode cX11_disquiet 64 = .ok (.iconst (-1), 1) := by decide +kernel
theorem dX11_disquiet_65 : decode cX11_disquiet 65 = .ok (.ireturn, 1) := by decide +kernel
theorem dX11_swap_0 : decode cX11_swap 0 = .ok (.iload_n 1, 1) := by decide +kernel
theorem dX11_swap_1 : decode cX11_swap 1 = .ok (.ifCond .lt 16, 3) := by decide +kernel
theorem dX11_swap_4 : decode cX11_swap 4 = .ok (.iload_n 1, 1) := by decide +kernel
theorem dX11_swap_5 : decode cX11_swap 5 = .ok (.aload_n 0, 1) := by decide +kernel
theorem dX11_swap_6 : decode cX11_swap 6 = .ok (.getfield 19, 3) := by decide +kernel
theorem dX11_swap_9 : decode cX11_swap 9 = .ok (.invokevirtual 94, 3) := by decide +kernel
theorem dX11_swap_12 : decode cX11_swap 12 = .ok (.iconst 2, 1) := by decide +kernel
theorem dX11_swap_13 : decode cX11_swap 13 = .ok (.isub, 1) := by decide +kernel
theorem dX11_swap_14 : decode cX11_swap 14 = .ok (.if_icmp .le 5, 3) := by decide +kernel
theorem dX11_swap_17 : decode cX11_swap 17 = .ok (.iconst (-1), 1) := by decide +kernel
theorem dX11_swap_18 : decode cX11_swap 18 = .ok (.ireturn, 1) := by decide +kernel
theorem dX11_swap_19 : decode cX11_swap 19 = .ok (.aload_n 0, 1) := by decide +kernel
theorem dX11_swap_20 : decode cX11_swap 20 = .ok (.getfield 44, 3) := by decide +kernel
theorem dX11_swap_23 : decode cX11_swap 23 = .ok (.aload_n 0, 1) := by decide +kernel
theorem dX11_swap_24 : decode cX11_swap 24 = .ok (.getfield 19, 3) := by decide +kernel
theorem dX11_swap_27 : decode cX11_swap 27 = .ok (.invokevirtual 165, 3) := by decide +kernel
theorem dX11_swap_30 : decode cX11_swap 30 = .ok (.aload_n 0, 1) := by decide +kernel
theorem dX11_swap_31 : decode cX11_swap 31 = .ok (.getfield 19, 3) := by decide +kernel
theorem dX11_swap_34 : decode cX11_swap 34 = .ok (.iload_n 1, 1) := by decide +kernel
theorem dX11_swap_35 : decode cX11_swap 35 = .ok (.iload_n 1, 1) := by decide +kernel
theorem dX11_swap_36 : decode cX11_swap 36 = .ok (.iconst 1, 1) := by decide +kernel
theorem dX11_swap_37 : decode cX11_swap 37 = .ok (.iadd, 1) := by decide +kernel
theorem dX11_swap_38 : decode cX11_swap 38 = .ok (.invokevirtual 169, 3) := by decide +kernel
theorem dX11_swap_41 : decode cX11_swap 41 = .ok (.aload_n 0, 1) := by decide +kernel
theorem dX11_swap_42 : decode cX11_swap 42 = .ok (.getfield 44, 3) := by decide +kernel
theorem dX11_swap_45 : decode cX11_swap 45 = .ok (.aload_n 0, 1) := by decide +kernel
theorem dX11_swap_46 : decode cX11_swap 46 = .ok (.getfield 19, 3) := by decide +kernel
theorem dX11_swap_49 : decode cX11_swap 49 = .ok (.invokevirtual 172, 3) := by decide +kernel
theorem dX11_swap_52 : decode cX11_swap 52 = .ok (.aload_n 0, 1) := by decide +kernel
theorem dX11_swap_53 : decode cX11_swap 53 = .ok (.getfield 35, 3) := by decide +kernel
theorem dX11_swap_56 : decode cX11_swap 56 = .ok (.aload_n 0, 1) := by decide +kernel
theorem dX11_swap_57 : decode cX11_swap 57 = .ok (.getfield 19, 3) := by decide +kernel
theorem dX11_swap_60 : decode cX11_swap 60 = .ok (.invokevirtual 155, 3) := by decide +kernel
theorem dX11_swap_63 : decode cX11_swap 63 = .ok (.ireturn, 1) := by decide +kernel
theorem dX11_enter_0 : decode cX11_enter 0 = .ok (.aload_n 0, 1) := by decide +kernel
theorem dX11_enter_1 : decode cX11_enter 1 = .ok (.getfield 10, 3) := by decide +kernel
theorem dX11_enter_4 : decode cX11_enter 4 = .ok (.iload_n 1, 1) := by decide +kernel
theorem dX11_enter_5 : decode cX11_enter 5 = .ok (.invokevirtual 119, 3) := by decide +kernel
theorem dX11_enter_8 : decode cX11_enter 8 = .ok (.ifCond .eq 18, 3) := by decide +kernel
theorem dX11_enter_11 : decode cX11_enter 11 = .ok (.iload_n 2, 1) := by decide +kernel
theorem dX11_enter_12 : decode cX11_enter 12 = .ok (.ifCond .lt 14, 3) := by decide +kernel
theorem dX11_enter_15 : decode cX11_enter 15 = .ok (.iload_n 2, 1) := by decide +kernel
theorem dX11_enter_16 : decode cX11_enter 16 = .ok (.aload_n 0, 1) := by decide +kernel
theorem dX11_enter_17 : decode cX11_enter 17 = .ok (.getfield 19, 3) := by decide +kernel
theorem dX11_enter_20 : decode cX11_enter 20 = .ok (.invokevirtual 94, 3) := by decide +kernel
theorem dX11_enter_23 : decode cX11_enter 23 = .ok (.if_icmp .le 5, 3) := by decide +kernel
theorem dX11_enter_26 : decode cX11_enter 26 = .ok (.iconst (-1), 1) := by decide +kernel
theorem dX11_enter_27 : decode cX11_enter 27 = .ok (.ireturn, 1) := by decide +kernel
theorem dX11_enter_28 : decode cX11_enter 28 = .ok (.aload_n 0, 1) := by decide +kernel
theorem dX11_enter_29 : decode cX11_enter 29 = .ok (.getfield 19, 3) := by decide +kernel
theorem dX11_enter_32 : decode cX11_enter 32 = .ok (.iload_n 1, 1) := by decide +kernel
theorem dX11_enter_33 : decode cX11_enter 33 = .ok (.invokevirtual 175, 3) := by decide +kernel
theorem dX11_enter_36 : decode cX11_enter 36 = .ok (.ifCond .lt 6, 3) := by decide +kernel
theorem dX11_enter_39 : decode cX11_enter 39 = .ok (.bipush (-5), 2) := by decide +kernel
theorem dX11_enter_41 : decode cX11_enter 41 = .ok (.ireturn, 1) := by decide +kernel
theorem dX11_enter_42 : decode cX11_enter 42 = .ok (.aload_n 0, 1) := by decide +kernel
theorem dX11_enter_43 : decode cX11_enter 43 = .ok (.getfield 44, 3) := by decide +kernel
theorem dX11_enter_46 : decode cX11_enter 46 = .ok (.aload_n 0, 1) := by decide +kernel
theorem dX11_enter_47 : decode cX11_enter 47 = .ok (.getfield 19, 3) := by decide +kernel
theorem dX11_enter_50 : decode cX11_enter 50 = .ok (.invokevirtual 165, 3) := by decide +kernel
theorem dX11_enter_53 : decode cX11_enter 53 = .ok (.aload_n 0, 1) := by decide +kernel
theorem dX11_enter_54 : decode cX11_enter 54 = .ok (.getfield 19, 3) := by decide +kernel
theorem dX11_enter_57 : decode cX11_enter 57 = .ok (.iload_n 1, 1) := by decide +kernel
theorem dX11_enter_58 : decode cX11_enter 58 = .ok (.iload_n 2, 1) := by decide +kernel
theorem dX11_enter_59 : decode cX11_enter 59 = .ok (.invokevirtual 98, 3) := by decide +kernel
theorem dX11_enter_62 : decode cX11_enter 62 = .ok (.aload_n 0, 1) := by decide +kernel
theorem dX11_enter_63 : decode cX11_enter 63 = .ok (.getfield 44, 3) := by decide +kernel
theorem dX11_enter_66 : decode cX11_enter 66 = .ok (.aload_n 0, 1) := by decide +kernel
theorem dX11_enter_67 : decode cX11_enter 67 = .ok (.getfield 19, 3) := by decide +kernel
theorem dX11_enter_70 : decode cX11_enter 70 = .ok (.invokevirtual 172, 3) := by decide +kernel
theorem dX11_enter_73 : decode cX11_enter 73 = .ok (.aload_n 0, 1) := by decide +kernel
theorem dX11_enter_74 : decode cX11_enter 74 = .ok (.getfield 35, 3) := by decide +kernel
theorem dX11_enter_77 : decode cX11_enter 77 = .ok (.aload_n 0, 1) := by decide +kernel
theorem dX11_enter_78 : decode cX11_enter 78 = .ok (.getfield 19, 3) := by decide +kernel
theorem dX11_enter_81 : decode cX11_enter 81 = .ok (.invokevirtual 155, 3) := by decide +kernel
theorem dX11_enter_84 : decode cX11_enter 84 = .ok (.ireturn, 1) := by decide +kernel
theorem fl_X11_26 : Cond.fieldLink RX11 26 (TX11 2).1 (TX11 2).2.1 (TX11 2).2.2.1 ∈ wsL_law := (uw2 _ (List.mem_of_getElem? (i := 0) rfl))
theorem hy_X2_begin : Cond.code yX2_begin cX2_begin 4 none ∈ wsL_law ∧ Cond.initialized yX2_begin.cls ∈ wsL_law ∧ Cond.instanceMethod yX2_begin ∈ wsL_law ∧ Cond.selects yX2_begin.cls yX2_begin yX2_begin ∈ wsL_law := ⟨(uw27 _ (List.mem_of_getElem? (i := 22) rfl)), (uw2 _ (List.mem_of_getElem? (i := 7) rfl)), (uw27 _ (List.mem_of_getElem? (i := 20) rfl)), (uw27 _ (List.mem_of_getElem? (i := 21) rfl))⟩
theorem hd_X2_begin : yX2_begin.cls ≠ "java/lang/invoke/MethodHandle" ∧ yX2_begin.cls ≠ "java/lang/invoke/VarHandle" ∧ (parseMethodDescriptor yX2_begin.desc).map (fun d => d.parameters.length) = some 1 := ⟨by decide +kernel, by decide +kernel, by decide +kernel⟩
theorem hy_X2_end : Cond.code yX2_end cX2_end 5 none ∈ wsL_law ∧ Cond.initialized yX2_end.cls ∈ wsL_law ∧ Cond.instanceMethod yX2_end ∈ wsL_law ∧ Cond.selects yX2_end.cls yX2_end yX2_end ∈ wsL_law := ⟨(uw29 _ (List.mem_of_getElem? (i := 1) rfl)), (uw2 _ (List.mem_of_getElem? (i := 7) rfl)), (uw28 _ (List.mem_of_getElem? (i := 23) rfl)), (uw29 _ (List.mem_of_getElem? (i := 0) rfl))⟩
theorem hd_X2_end : yX2_end.cls ≠ "java/lang/invoke/MethodHandle" ∧ yX2_end.cls ≠ "java/lang/invoke/VarHandle" ∧ (parseMethodDescriptor yX2_end.desc).map (fun d => d.parameters.length) = some 1 := ⟨by decide +kernel, by decide +kernel, by decide +kernel⟩
theorem hy_X4_costOf : Cond.code yX4_costOf cX4_costOf 5 (some .int) ∈ wsL_law ∧ Cond.initialized yX4_costOf.cls ∈ wsL_law ∧ Cond.instanceMethod yX4_costOf ∈ wsL_law ∧ Cond.selects yX4_costOf.cls yX4_costOf yX4_costOf ∈ wsL_law := ⟨(uw26 _ (List.mem_of_getElem? (i := 14) rfl)), (uw2 _ (List.mem_of_getElem? (i := 3) rfl)), (uw26 _ (List.mem_of_getElem? (i := 12) rfl)), (uw26 _ (List.mem_of_getElem? (i := 13) rfl))⟩
theorem hd_X4_costOf : yX4_costOf.cls ≠ "java/lang/invoke/MethodHandle" ∧ yX4_costOf.cls ≠ "java/lang/invoke/VarHandle" ∧ (parseMethodDescriptor yX4_costOf.desc).map (fun d => d.parameters.length) = some 1 := ⟨by decide +kernel, by decide +kernel, by decide +kernel⟩
theorem hy_X4_plainDisquietOf : Cond.code yX4_plainDisquietOf cX4_plainDisquietOf 4 (some .int) ∈ wsL_law ∧ Cond.initialized yX4_plainDisquietOf.cls ∈ wsL_law ∧ Cond.instanceMethod yX4_plainDisquietOf ∈ wsL_law ∧ Cond.selects yX4_plainDisquietOf.cls yX4_plainDisquietOf yX4_plainDisquietOf ∈ wsL_law := ⟨(uw26 _ (List.mem_of_getElem? (i := 9) rfl)), (uw2 _ (List.mem_of_getElem? (i := 3) rfl)), (uw26 _ (List.mem_of_getElem? (i := 7) rfl)), (uw26 _ (List.mem_of_getElem? (i := 8) rfl))⟩
theorem hd_X4_plainDisquietOf : yX4_plainDisquietOf.cls ≠ "java/lang/invoke/MethodHandle" ∧ yX4_plainDisquietOf.cls ≠ "java/lang/invoke/VarHandle" ∧ (parseMethodDescriptor yX4_plainDisquietOf.desc).map (fun d => d.parameters.length) = some 1 := ⟨by decide +kernel, by decide +kernel, by decide +kernel⟩
theorem hy_X5_enact : Cond.code yX5_enact cX5_enact 2 (some .int) ∈ wsL_law ∧ Cond.initialized yX5_enact.cls ∈ wsL_law ∧ Cond.instanceMethod yX5_enact ∈ wsL_law ∧ Cond.selects yX5_enact.cls yX5_enact yX5_enact ∈ wsL_law := ⟨(uw22 _ (List.mem_of_getElem? (i := 20) rfl)), (uw1 _ (List.mem_of_getElem? (i := 23) rfl)), (uw22 _ (List.mem_of_getElem? (i := 18) rfl)), (uw22 _ (List.mem_of_getElem? (i := 19) rfl))⟩
theorem hd_X5_enact : yX5_enact.cls ≠ "java/lang/invoke/MethodHandle" ∧ yX5_enact.cls ≠ "java/lang/invoke/VarHandle" ∧ (parseMethodDescriptor yX5_enact.desc).map (fun d => d.parameters.length) = some 0 := ⟨by decide +kernel, by decide +kernel, by decide +kernel⟩
theorem hy_X5_take : Cond.code yX5_take cX5_take 2 (some .int) ∈ wsL_law ∧ Cond.initialized yX5_take.cls ∈ wsL_law ∧ Cond.instanceMethod yX5_take ∈ wsL_law ∧ Cond.selects yX5_take.cls yX5_take yX5_take ∈ wsL_law := ⟨(uw22 _ (List.mem_of_getElem? (i := 5) rfl)), (uw1 _ (List.mem_of_getElem? (i := 23) rfl)), (uw22 _ (List.mem_of_getElem? (i := 3) rfl)), (uw22 _ (List.mem_of_getElem? (i := 4) rfl))⟩
theorem hd_X5_take : yX5_take.cls ≠ "java/lang/invoke/MethodHandle" ∧ yX5_take.cls ≠ "java/lang/invoke/VarHandle" ∧ (parseMethodDescriptor yX5_take.desc).map (fun d => d.parameters.length) = some 1 := ⟨by decide +kernel, by decide +kernel, by decide +kernel⟩
theorem ml_X11_146 : Cond.methodLink RX11 146 yX5_take ∈ wsL_law := (uw22 _ (List.mem_of_getElem? (i := 2) rfl))
theorem ml_X11_149 : Cond.methodLink RX11 149 yX5_enact ∈ wsL_law := (uw22 _ (List.mem_of_getElem? (i := 17) rfl))
theorem ml_X11_155 : Cond.methodLink RX11 155 yX4_disquietOf ∈ wsL_law := (uw26 _ (List.mem_of_getElem? (i := 0) rfl))
theorem ml_X11_159 : Cond.methodLink RX11 159 yX4_plainDisquietOf ∈ wsL_law := (uw26 _ (List.mem_of_getElem? (i := 6) rfl))
theorem ml_X11_162 : Cond.methodLink RX11 162 yX4_costOf ∈ wsL_law := (uw26 _ (List.mem_of_getElem? (i := 11) rfl))
theorem ml_X11_165 : Cond.methodLink RX11 165 yX2_begin ∈ wsL_law := (uw27 _ (List.mem_of_getElem? (i := 19) rfl))
theorem ml_X11_169 : Cond.methodLink RX11 169 yX7_exchange ∈ wsL_law := (uw28 _ (List.mem_of_getElem? (i := 18) rfl))
theorem ml_X11_172 : Cond.methodLink RX11 172 yX2_end ∈ wsL_law := (uw28 _ (List.mem_of_getElem? (i := 22) rfl))
abbrev w_T_feed (G : zG) (a_this : Nat) (a_crowd : Nat) (a_queue : Nat) (a_text : Nat) (a_judge : Nat) (a_deeds : Nat) (a_mendings : Nat) (a_picture : Nat) (a_shelves : Nat) (a_books : Nat) (a_thoughts : Nat) (a_heads : Nat) (a_text_tape : Nat) (a_text_reader : Nat) (a_text_steps : Nat) (a_text_worked : Nat) (hasPicture : Int32) (text_fed : Int32) (text_length : Int32) (text_top : Int32) (text_tape : Nat → Int32) : va_W := [(a_this, cO 11 [.ref a_crowd, .ref a_queue, .ref a_text, .ref a_judge, .ref a_deeds, .ref a_mendings, .ref a_picture, .int hasPicture, .ref a_shelves, .ref a_books, .ref a_thoughts, .ref a_heads]), (a_text, cO 5 [.ref a_text_tape, .int text_fed, .ref a_text_reader, .ref a_text_steps, .int text_length, .ref a_text_worked, .int text_top]), (a_text_tape, cI G 120 text_tape)]
def f_T_feed (text_fed : Int32) (text_tape : Nat → Int32) (x1 : Int32) : Option (Int32 × Int32 × (Nat → Int32)) := (if x1 < 0 then (some ((-1), text_fed, text_tape)) else (if x1 ≤ 255 then (zb3 (f_Law_take text_fed text_tape x1) fun r_1 text_fed_2 text_tape_3 => (some (r_1, text_fed_2, text_tape_3))) else (some ((-1), text_fed, text_tape))))
set_option maxRecDepth 100000 in
set_option maxHeartbeats 4000000 in
theorem c_T_feed (l : Launch) (G : zG) (a_this : Nat) (a_crowd : Nat) (a_queue : Nat) (a_text : Nat) (a_judge : Nat) (a_deeds : Nat) (a_mendings : Nat) (a_picture : Nat) (a_shelves : Nat) (a_books : Nat) (a_thoughts : Nat) (a_heads : Nat) (a_text_tape : Nat) (a_text_reader : Nat) (a_text_steps : Nat) (a_text_worked : Nat) (hasPicture : Int32) (text_fed : Int32) (text_length : Int32) (text_top : Int32) (text_tape : Nat → Int32) (x1 : Int32) (r_ : Int32) (o_text_fed : Int32) (o_text_tape : Nat → Int32) (hf : f_T_feed text_fed text_tape x1 = some (r_, o_text_fed, o_text_tape)) : zM l yX11_feed cX11_feed 2 (some .int) 1 21 G [.ref a_this, .int x1] (w_T_feed G a_this a_crowd a_queue a_text a_judge a_deeds a_mendings a_picture a_shelves a_books a_thoughts a_heads a_text_tape a_text_reader a_text_steps a_text_worked hasPicture text_fed text_length text_top text_tape) (some (.int r_)) (w_T_feed G a_this a_crowd a_queue a_text a_judge a_deeds a_mendings a_picture a_shelves a_books a_thoughts a_heads a_text_tape a_text_reader a_text_steps a_text_worked hasPicture o_text_fed text_length text_top o_text_tape) := by
  refine zM.of [(0, .ref a_this), (1, .int x1)] (own := RX11) rfl (by decide +kernel) (Nat.le_of_ble_eq_true rfl) rfl rfl fun X hX F => ?_
  subst hX
  replace hf := (f_T_feed.eq_1 ..).symm.trans hf
  refine z_iload_n F 1 dX11_feed_0 rfl rfl ?_
  refine z_if_lt F 11 dX11_feed_1 (by decide) hf (fun hf _ => ?_) (fun hf _ => ?_)
  · refine z_iconst F (-1) dX11_feed_11 rfl ?_
    have eq1 := Option.some.inj hf
    obtain ⟨ee1, eq2⟩ := Prod.mk.inj eq1
    obtain ⟨ee2, ee3⟩ := Prod.mk.inj eq2
    subst ee1
    subst ee2
    subst ee3
    exact z_iret F rfl rfl rfl rfl dX11_feed_12
  · refine z_iload_n F 1 dX11_feed_4 rfl rfl ?_
    refine z_sipush F (255) dX11_feed_5 rfl ?_
    refine z_icmp_le F 13 dX11_feed_8 (by decide) hf (fun hf _ => ?_) (fun hf _ => ?_)
    · refine z_aload_n F 0 dX11_feed_13 rfl rfl ?_
      refine z_get F 0 11 2 inlX11 rfl rfl (by decide) fl_X11_26 rfl dX11_feed_14 ?_
      refine z_iload_n F 1 dX11_feed_17 rfl rfl ?_
      obtain ⟨r_1, text_fed_2, text_tape_3, hg, hf⟩ := zb3_some hf
      refine z_callVm (rest := []) F 5 (c_Law_take (xL X) G a_text a_text_tape a_text_reader a_text_steps a_text_worked text_fed text_length text_top text_tape x1 r_1 text_fed_2 text_tape_3 hg) hy_X5_take ml_X11_146 hd_X5_take ⟨by omega, by omega⟩ rfl [1, 2] rfl rfl 1 rfl rfl (w_T_feed G a_this a_crowd a_queue a_text a_judge a_deeds a_mendings a_picture a_shelves a_books a_thoughts a_heads a_text_tape a_text_reader a_text_steps a_text_worked hasPicture text_fed_2 text_length text_top text_tape_3) [none, some 0, some 1] rfl (by decide +kernel) rfl rfl (Nat.le_of_ble_eq_true rfl) dX11_feed_18 (fun hz_4 => ?_)
      have eq1 := Option.some.inj hf
      obtain ⟨ee1, eq2⟩ := Prod.mk.inj eq1
      obtain ⟨ee2, ee3⟩ := Prod.mk.inj eq2
      subst ee1
      subst ee2
      subst ee3
      exact z_iret F rfl rfl rfl rfl dX11_feed_21
    · refine z_iconst F (-1) dX11_feed_11 rfl ?_
      have eq1 := Option.some.inj hf
      obtain ⟨ee1, eq2⟩ := Prod.mk.inj eq1
      obtain ⟨ee2, ee3⟩ := Prod.mk.inj eq2
      subst ee1
      subst ee2
      subst ee3
      exact z_iret F rfl rfl rfl rfl dX11_feed_12

abbrev w_T_law (G : zG) (a_this : Nat) (a_crowd : Nat) (a_queue : Nat) (a_text : Nat) (a_judge : Nat) (a_deeds : Nat) (a_mendings : Nat) (a_picture : Nat) (a_shelves : Nat) (a_books : Nat) (a_thoughts : Nat) (a_heads : Nat) (a_text_tape : Nat) (a_text_reader : Nat) (a_text_steps : Nat) (a_text_worked : Nat) (a_text_reader_steps : Nat) (a_text_reader_waiting : Nat) (a_judge_known : Nat) (hasPicture : Int32) (text_fed : Int32) (text_length : Int32) (text_top : Int32) (text_tape : Nat → Int32) (text_reader_length : Int32) (text_reader_waits : Int32) (text_reader_open : Int32) (text_reader_wantsOperand : Int32) (text_reader_isAsked : Int32) (text_reader_steps : Nat → Int32) (text_reader_waiting : Nat → Int32) (text_steps : Nat → Int32) (judge_known : Nat → Int32) : va_W := [(a_this, cO 11 [.ref a_crowd, .ref a_queue, .ref a_text, .ref a_judge, .ref a_deeds, .ref a_mendings, .ref a_picture, .int hasPicture, .ref a_shelves, .ref a_books, .ref a_thoughts, .ref a_heads]), (a_text, cO 5 [.ref a_text_tape, .int text_fed, .ref a_text_reader, .ref a_text_steps, .int text_length, .ref a_text_worked, .int text_top]), (a_text_tape, cI G 120 text_tape), (a_text_reader, cO 6 [.ref a_text_reader_steps, .int text_reader_length, .ref a_text_reader_waiting, .int text_reader_waits, .int text_reader_open, .int text_reader_wantsOperand, .int text_reader_isAsked]), (a_text_reader_steps, cI G 121 text_reader_steps), (a_text_reader_waiting, cI G 120 text_reader_waiting), (a_text_steps, cI G 121 text_steps), (a_judge, cO 4 [.ref a_crowd, .ref a_text, .ref a_judge_known]), (a_judge_known, cB G 729 judge_known)]
def f_T_law (text_fed : Int32) (text_length : Int32) (text_tape : Nat → Int32) (text_reader_length : Int32) (text_reader_waits : Int32) (text_reader_open : Int32) (text_reader_wantsOperand : Int32) (text_reader_isAsked : Int32) (text_reader_steps : Nat → Int32) (text_reader_waiting : Nat → Int32) (text_steps : Nat → Int32) (judge_known : Nat → Int32) : Option (Int32 × Int32 × Int32 × Int32 × Int32 × Int32 × Int32 × Int32 × (Nat → Int32) × (Nat → Int32) × (Nat → Int32) × (Nat → Int32)) := (zb11 (f_Law_enact text_fed text_length text_tape text_reader_length text_reader_waits text_reader_open text_reader_wantsOperand text_reader_isAsked text_reader_steps text_reader_waiting text_steps) fun r_1 text_fed_2 text_length_3 text_reader_length_4 text_reader_waits_5 text_reader_open_6 text_reader_wantsOperand_7 text_reader_isAsked_8 text_reader_steps_9 text_reader_waiting_10 text_steps_11 => (if r_1 < 0 then (zb1 (f_Judge_forgetAll judge_known) fun judge_known_13 => (some (1, text_fed_2, text_length_3, text_reader_length_4, text_reader_waits_5, text_reader_open_6, text_reader_wantsOperand_7, text_reader_isAsked_8, text_reader_steps_9, text_reader_waiting_10, text_steps_11, judge_known_13))) else (some ((((-100) : Int32) - r_1), text_fed_2, text_length_3, text_reader_length_4, text_reader_waits_5, text_reader_open_6, text_reader_wantsOperand_7, text_reader_isAsked_8, text_reader_steps_9, text_reader_waiting_10, text_steps_11, judge_known))))
set_option maxRecDepth 100000 in
set_option maxHeartbeats 4000000 in
theorem c_T_law (l : Launch) (G : zG) (a_this : Nat) (a_crowd : Nat) (a_queue : Nat) (a_text : Nat) (a_judge : Nat) (a_deeds : Nat) (a_mendings : Nat) (a_picture : Nat) (a_shelves : Nat) (a_books : Nat) (a_thoughts : Nat) (a_heads : Nat) (a_text_tape : Nat) (a_text_reader : Nat) (a_text_steps : Nat) (a_text_worked : Nat) (a_text_reader_steps : Nat) (a_text_reader_waiting : Nat) (a_judge_known : Nat) (hasPicture : Int32) (text_fed : Int32) (text_length : Int32) (text_top : Int32) (text_tape : Nat → Int32) (text_reader_length : Int32) (text_reader_waits : Int32) (text_reader_open : Int32) (text_reader_wantsOperand : Int32) (text_reader_isAsked : Int32) (text_reader_steps : Nat → Int32) (text_reader_waiting : Nat → Int32) (text_steps : Nat → Int32) (judge_known : Nat → Int32) (r_ : Int32) (o_text_fed : Int32) (o_text_length : Int32) (o_text_reader_length : Int32) (o_text_reader_waits : Int32) (o_text_reader_open : Int32) (o_text_reader_wantsOperand : Int32) (o_text_reader_isAsked : Int32) (o_text_reader_steps : Nat → Int32) (o_text_reader_waiting : Nat → Int32) (o_text_steps : Nat → Int32) (o_judge_known : Nat → Int32) (hf : f_T_law text_fed text_length text_tape text_reader_length text_reader_waits text_reader_open text_reader_wantsOperand text_reader_isAsked text_reader_steps text_reader_waiting text_steps judge_known = some (r_, o_text_fed, o_text_length, o_text_reader_length, o_text_reader_waits, o_text_reader_open, o_text_reader_wantsOperand, o_text_reader_isAsked, o_text_reader_steps, o_text_reader_waiting, o_text_steps, o_judge_known)) : zM l yX11_law cX11_law 2 (some .int) 6 163 G [.ref a_this] (w_T_law G a_this a_crowd a_queue a_text a_judge a_deeds a_mendings a_picture a_shelves a_books a_thoughts a_heads a_text_tape a_text_reader a_text_steps a_text_worked a_text_reader_steps a_text_reader_waiting a_judge_known hasPicture text_fed text_length text_top text_tape text_reader_length text_reader_waits text_reader_open text_reader_wantsOperand text_reader_isAsked text_reader_steps text_reader_waiting text_steps judge_known) (some (.int r_)) (w_T_law G a_this a_crowd a_queue a_text a_judge a_deeds a_mendings a_picture a_shelves a_books a_thoughts a_heads a_text_tape a_text_reader a_text_steps a_text_worked a_text_reader_steps a_text_reader_waiting a_judge_known hasPicture o_text_fed o_text_length text_top text_tape o_text_reader_length o_text_reader_waits o_text_reader_open o_text_reader_wantsOperand o_text_reader_isAsked o_text_reader_steps o_text_reader_waiting o_text_steps o_judge_known) := by
  refine zM.of [(0, .ref a_this)] (own := RX11) rfl (by decide +kernel) (Nat.le_of_ble_eq_true rfl) rfl rfl fun X hX F => ?_
  subst hX
  replace hf := (f_T_law.eq_1 ..).symm.trans hf
  refine z_aload_n F 0 dX11_law_0 rfl rfl ?_
  refine z_get F 0 11 2 inlX11 rfl rfl (by decide) fl_X11_26 rfl dX11_law_1 ?_
  obtain ⟨r_1, text_fed_2, text_length_3, text_reader_length_4, text_reader_waits_5, text_reader_open_6, text_reader_wantsOperand_7, text_reader_isAsked_8, text_reader_steps_9, text_reader_waiting_10, text_steps_11, hg, hf⟩ := zb11_some hf
  refine z_callVm (rest := []) F 5 (c_Law_enact (xL X) G a_text a_text_tape a_text_reader a_text_steps a_text_worked a_text_reader_steps a_text_reader_waiting text_fed text_length text_top text_tape text_reader_length text_reader_waits text_reader_open text_reader_wantsOperand text_reader_isAsked text_reader_steps text_reader_waiting text_steps r_1 text_fed_2 text_length_3 text_reader_length_4 text_reader_waits_5 text_reader_open_6 text_reader_wantsOperand_7 text_reader_isAsked_8 text_reader_steps_9 text_reader_waiting_10 text_steps_11 hg) hy_X5_enact ml_X11_149 hd_X5_enact ⟨by omega, by omega⟩ rfl [1, 2, 3, 4, 5, 6] rfl rfl 1 rfl rfl (w_T_law G a_this a_crowd a_queue a_text a_judge a_deeds a_mendings a_picture a_shelves a_books a_thoughts a_heads a_text_tape a_text_reader a_text_steps a_text_worked a_text_reader_steps a_text_reader_waiting a_judge_known hasPicture text_fed_2 text_length_3 text_top text_tape text_reader_length_4 text_reader_waits_5 text_reader_open_6 text_reader_wantsOperand_7 text_reader_isAsked_8 text_reader_steps_9 text_reader_waiting_10 text_steps_11 judge_known) [none, some 0, some 1, some 2, some 3, some 4, some 5, none, none] rfl (by decide +kernel) rfl rfl (Nat.le_of_ble_eq_true rfl) dX11_law_4 (fun hz_12 => ?_)
  refine z_istore_n F [(1, .int r_1), (0, .ref a_this)] dX11_law_7 rfl (by decide) rfl ?_
  refine z_iload_n F 0 dX11_law_8 rfl rfl ?_
  refine z_if_lt F 17 dX11_law_9 (by decide) hf (fun hf _ => ?_) (fun hf _ => ?_)
  · refine z_aload_n F 1 dX11_law_17 rfl rfl ?_
    refine z_get F 0 11 3 inlX11 rfl rfl (by decide) fl_X11_35 rfl dX11_law_18 ?_
    obtain ⟨judge_known_13, hg, hf⟩ := zb1_some hf
    refine z_callVm (rest := []) F 4 (c_Judge_forgetAll (xL X) G a_judge a_crowd a_text a_judge_known judge_known judge_known_13 hg) hy_X4_forgetAll ml_X11_152 hd_X4_forgetAll ⟨by omega, by omega⟩ rfl [7, 8] rfl rfl 7 rfl rfl (w_T_law G a_this a_crowd a_queue a_text a_judge a_deeds a_mendings a_picture a_shelves a_books a_thoughts a_heads a_text_tape a_text_reader a_text_steps a_text_worked a_text_reader_steps a_text_reader_waiting a_judge_known hasPicture text_fed_2 text_length_3 text_top text_tape text_reader_length_4 text_reader_waits_5 text_reader_open_6 text_reader_wantsOperand_7 text_reader_isAsked_8 text_reader_steps_9 text_reader_waiting_10 text_steps_11 judge_known_13) [none, none, none, none, none, none, none, some 0, some 1] rfl (by decide +kernel) rfl rfl (Nat.le_of_ble_eq_true rfl) dX11_law_21 (fun hz_14 => ?_)
    refine z_iconst F (1) dX11_law_24 rfl ?_
    have eq1 := Option.some.inj hf
    obtain ⟨ee1, eq2⟩ := Prod.mk.inj eq1
    obtain ⟨ee2, eq3⟩ := Prod.mk.inj eq2
    obtain ⟨ee3, eq4⟩ := Prod.mk.inj eq3
    obtain ⟨ee4, eq5⟩ := Prod.mk.inj eq4
    obtain ⟨ee5, eq6⟩ := Prod.mk.inj eq5
    obtain ⟨ee6, eq7⟩ := Prod.mk.inj eq6
    obtain ⟨ee7, eq8⟩ := Prod.mk.inj eq7
    obtain ⟨ee8, eq9⟩ := Prod.mk.inj eq8
    obtain ⟨ee9, eq10⟩ := Prod.mk.inj eq9
    obtain ⟨ee10, eq11⟩ := Prod.mk.inj eq10
    obtain ⟨ee11, ee12⟩ := Prod.mk.inj eq11
    subst ee1
    subst ee2
    subst ee3
    subst ee4
    subst ee5
    subst ee6
    subst ee7
    subst ee8
    subst ee9
    subst ee10
    subst ee11
    subst ee12
    exact z_iret F rfl rfl rfl rfl dX11_law_25
  · refine z_bipush F (-100) dX11_law_12 rfl ?_
    refine z_iload_n F 0 dX11_law_14 rfl rfl ?_
    refine z_isub F dX11_law_15 ?_
    have eq1 := Option.some.inj hf
    obtain ⟨ee1, eq2⟩ := Prod.mk.inj eq1
    obtain ⟨ee2, eq3⟩ := Prod.mk.inj eq2
    obtain ⟨ee3, eq4⟩ := Prod.mk.inj eq3
    obtain ⟨ee4, eq5⟩ := Prod.mk.inj eq4
    obtain ⟨ee5, eq6⟩ := Prod.mk.inj eq5
    obtain ⟨ee6, eq7⟩ := Prod.mk.inj eq6
    obtain ⟨ee7, eq8⟩ := Prod.mk.inj eq7
    obtain ⟨ee8, eq9⟩ := Prod.mk.inj eq8
    obtain ⟨ee9, eq10⟩ := Prod.mk.inj eq9
    obtain ⟨ee10, eq11⟩ := Prod.mk.inj eq10
    obtain ⟨ee11, ee12⟩ := Prod.mk.inj eq11
    subst ee1
    subst ee2
    subst ee3
    subst ee4
    subst ee5
    subst ee6
    subst ee7
    subst ee8
    subst ee9
    subst ee10
    subst ee11
    subst ee12
    exact z_iret F rfl rfl rfl rfl dX11_law_16

abbrev w_T_disquiet (G : zG) (a_this : Nat) (a_crowd : Nat) (a_queue : Nat) (a_text : Nat) (a_judge : Nat) (a_deeds : Nat) (a_mendings : Nat) (a_picture : Nat) (a_shelves : Nat) (a_books : Nat) (a_thoughts : Nat) (a_heads : Nat) (a_crowd_heights : Nat) (a_queue_who : Nat) (a_text_tape : Nat) (a_text_reader : Nat) (a_text_steps : Nat) (a_text_worked : Nat) (a_judge_known : Nat) (hasPicture : Int32) (crowd_people : Int32) (crowd_heights : Nat → Int32) (queue_length : Int32) (queue_who : Nat → Int32) (text_fed : Int32) (text_length : Int32) (text_top : Int32) (text_steps : Nat → Int32) (text_worked : Nat → Int32) (judge_known : Nat → Int32) : va_W := [(a_this, cO 11 [.ref a_crowd, .ref a_queue, .ref a_text, .ref a_judge, .ref a_deeds, .ref a_mendings, .ref a_picture, .int hasPicture, .ref a_shelves, .ref a_books, .ref a_thoughts, .ref a_heads]), (a_crowd, cO 1 [.ref a_crowd_heights, .int crowd_people]), (a_crowd_heights, cI G 9 crowd_heights), (a_queue, cO 7 [.ref a_queue_who, .int queue_length]), (a_queue_who, cI G 9 queue_who), (a_text, cO 5 [.ref a_text_tape, .int text_fed, .ref a_text_reader, .ref a_text_steps, .int text_length, .ref a_text_worked, .int text_top]), (a_text_steps, cI G 121 text_steps), (a_text_worked, cI G 121 text_worked), (a_judge, cO 4 [.ref a_crowd, .ref a_text, .ref a_judge_known]), (a_judge_known, cB G 729 judge_known)]
def f_T_disquiet (crowd_people : Int32) (crowd_heights : Nat → Int32) (queue_length : Int32) (queue_who : Nat → Int32) (text_length : Int32) (text_top : Int32) (text_steps : Nat → Int32) (text_worked : Nat → Int32) (judge_known : Nat → Int32) (x1 : Int32) : Option (Int32 × Int32 × (Nat → Int32) × (Nat → Int32)) := (if x1 = 0 then (zb4 (f_Judge_disquietOf crowd_people crowd_heights text_length text_top text_steps text_worked judge_known queue_length queue_who) fun r_2 text_top_3 text_worked_4 judge_known_5 => (some (r_2, text_top_3, text_worked_4, judge_known_5))) else (if x1 = 1 then (zb1 (f_Judge_plainDisquietOf crowd_people crowd_heights queue_length queue_who) fun r_8 => (some (r_8, text_top, text_worked, judge_known))) else (if x1 = 2 then (zb4 (f_Judge_costOf crowd_people crowd_heights text_length text_top text_steps text_worked judge_known queue_length queue_who) fun r_11 text_top_12 text_worked_13 judge_known_14 => (some (r_11, text_top_12, text_worked_13, judge_known_14))) else (some ((-1), text_top, text_worked, judge_known)))))
set_option maxRecDepth 100000 in
set_option maxHeartbeats 4000000 in
theorem c_T_disquiet (l : Launch) (G : zG) (a_this : Nat) (a_crowd : Nat) (a_queue : Nat) (a_text : Nat) (a_judge : Nat) (a_deeds : Nat) (a_mendings : Nat) (a_picture : Nat) (a_shelves : Nat) (a_books : Nat) (a_thoughts : Nat) (a_heads : Nat) (a_crowd_heights : Nat) (a_queue_who : Nat) (a_text_tape : Nat) (a_text_reader : Nat) (a_text_steps : Nat) (a_text_worked : Nat) (a_judge_known : Nat) (hasPicture : Int32) (crowd_people : Int32) (crowd_heights : Nat → Int32) (queue_length : Int32) (queue_who : Nat → Int32) (text_fed : Int32) (text_length : Int32) (text_top : Int32) (text_steps : Nat → Int32) (text_worked : Nat → Int32) (judge_known : Nat → Int32) (x1 : Int32) (r_ : Int32) (o_text_top : Int32) (o_text_worked : Nat → Int32) (o_judge_known : Nat → Int32) (hf : f_T_disquiet crowd_people crowd_heights queue_length queue_who text_length text_top text_steps text_worked judge_known x1 = some (r_, o_text_top, o_text_worked, o_judge_known)) : zM l yX11_disquiet cX11_disquiet 2 (some .int) 5 127 G [.ref a_this, .int x1] (w_T_disquiet G a_this a_crowd a_queue a_text a_judge a_deeds a_mendings a_picture a_shelves a_books a_thoughts a_heads a_crowd_heights a_queue_who a_text_tape a_text_reader a_text_steps a_text_worked a_judge_known hasPicture crowd_people crowd_heights queue_length queue_who text_fed text_length text_top text_steps text_worked judge_known) (some (.int r_)) (w_T_disquiet G a_this a_crowd a_queue a_text a_judge a_deeds a_mendings a_picture a_shelves a_books a_thoughts a_heads a_crowd_heights a_queue_who a_text_tape a_text_reader a_text_steps a_text_worked a_judge_known hasPicture crowd_people crowd_heights queue_length queue_who text_fed text_length o_text_top text_steps o_text_worked o_judge_known) := by
  refine zM.of [(0, .ref a_this), (1, .int x1)] (own := RX11) rfl (by decide +kernel) (Nat.le_of_ble_eq_true rfl) rfl rfl fun X hX F => ?_
  subst hX
  replace hf := (f_T_disquiet.eq_1 ..).symm.trans hf
  refine z_iload_n F 1 dX11_disquiet_0 rfl rfl ?_
  by_cases hc_1 : x1 = 0
  · replace hf := zif_t hf hc_1
    refine z_tabIn (off := 27) F 28 dX11_disquiet_1 (by rw [hc_1]; decide +kernel) (by rw [hc_1]; decide +kernel) (by rw [hc_1]; decide +kernel) (by decide) ?_
    refine z_aload_n F 0 dX11_disquiet_28 rfl rfl ?_
    refine z_get F 0 11 3 inlX11 rfl rfl (by decide) fl_X11_35 rfl dX11_disquiet_29 ?_
    refine z_aload_n F 0 dX11_disquiet_32 rfl rfl ?_
    refine z_get F 0 11 1 inlX11 rfl rfl (by decide) fl_X11_19 rfl dX11_disquiet_33 ?_
    obtain ⟨r_2, text_top_3, text_worked_4, judge_known_5, hg, hf⟩ := zb4_some hf
    refine z_callVm (rest := []) F 4 (c_Judge_disquietOf (xL X) G a_judge a_crowd a_text a_judge_known a_crowd_heights a_text_tape a_text_reader a_text_steps a_text_worked a_queue a_queue_who crowd_people crowd_heights text_fed text_length text_top text_steps text_worked judge_known queue_length queue_who r_2 text_top_3 text_worked_4 judge_known_5 hg) hy_X4_disquietOf ml_X11_155 hd_X4_disquietOf ⟨by omega, by omega⟩ rfl [8, 1, 2, 5, 6, 7, 9, 3, 4] rfl rfl 8 rfl rfl (w_T_disquiet G a_this a_crowd a_queue a_text a_judge a_deeds a_mendings a_picture a_shelves a_books a_thoughts a_heads a_crowd_heights a_queue_who a_text_tape a_text_reader a_text_steps a_text_worked a_judge_known hasPicture crowd_people crowd_heights queue_length queue_who text_fed text_length text_top_3 text_steps text_worked_4 judge_known_5) [none, some 1, some 2, some 7, some 8, some 3, some 4, some 5, some 0, some 6] rfl (by decide +kernel) rfl rfl (Nat.le_of_ble_eq_true rfl) dX11_disquiet_36 (fun hz_6 => ?_)
    have eq1 := Option.some.inj hf
    obtain ⟨ee1, eq2⟩ := Prod.mk.inj eq1
    obtain ⟨ee2, eq3⟩ := Prod.mk.inj eq2
    obtain ⟨ee3, ee4⟩ := Prod.mk.inj eq3
    subst ee1
    subst ee2
    subst ee3
    subst ee4
    exact z_iret F rfl rfl rfl rfl dX11_disquiet_39
  · replace hf := zif_f hf hc_1
    by_cases hc_7 : x1 = 1
    · replace hf := zif_t hf hc_7
      refine z_tabIn (off := 39) F 40 dX11_disquiet_1 (by rw [hc_7]; decide +kernel) (by rw [hc_7]; decide +kernel) (by rw [hc_7]; decide +kernel) (by decide) ?_
      refine z_aload_n F 0 dX11_disquiet_40 rfl rfl ?_
      refine z_get F 0 11 3 inlX11 rfl rfl (by decide) fl_X11_35 rfl dX11_disquiet_41 ?_
      refine z_aload_n F 0 dX11_disquiet_44 rfl rfl ?_
      refine z_get F 0 11 1 inlX11 rfl rfl (by decide) fl_X11_19 rfl dX11_disquiet_45 ?_
      obtain ⟨r_8, hg, hf⟩ := zb1_some hf
      refine z_callVm (rest := []) F 4 (c_Judge_plainDisquietOf (xL X) G a_judge a_crowd a_text a_judge_known a_crowd_heights a_queue a_queue_who crowd_people crowd_heights queue_length queue_who r_8 hg) hy_X4_plainDisquietOf ml_X11_159 hd_X4_plainDisquietOf ⟨by omega, by omega⟩ rfl [8, 1, 2, 3, 4] rfl rfl 8 rfl rfl (w_T_disquiet G a_this a_crowd a_queue a_text a_judge a_deeds a_mendings a_picture a_shelves a_books a_thoughts a_heads a_crowd_heights a_queue_who a_text_tape a_text_reader a_text_steps a_text_worked a_judge_known hasPicture crowd_people crowd_heights queue_length queue_who text_fed text_length text_top text_steps text_worked judge_known) [none, some 1, some 2, some 3, some 4, none, none, none, some 0, none] rfl (by decide +kernel) rfl rfl (Nat.le_of_ble_eq_true rfl) dX11_disquiet_48 (fun hz_9 => ?_)
      have eq1 := Option.some.inj hf
      obtain ⟨ee1, eq2⟩ := Prod.mk.inj eq1
      obtain ⟨ee2, eq3⟩ := Prod.mk.inj eq2
      obtain ⟨ee3, ee4⟩ := Prod.mk.inj eq3
      subst ee1
      subst ee2
      subst ee3
      subst ee4
      exact z_iret F rfl rfl rfl rfl dX11_disquiet_51
    · replace hf := zif_f hf hc_7
      by_cases hc_10 : x1 = 2
      · replace hf := zif_t hf hc_10
        refine z_tabIn (off := 51) F 52 dX11_disquiet_1 (by rw [hc_10]; decide +kernel) (by rw [hc_10]; decide +kernel) (by rw [hc_10]; decide +kernel) (by decide) ?_
        refine z_aload_n F 0 dX11_disquiet_52 rfl rfl ?_
        refine z_get F 0 11 3 inlX11 rfl rfl (by decide) fl_X11_35 rfl dX11_disquiet_53 ?_
        refine z_aload_n F 0 dX11_disquiet_56 rfl rfl ?_
        refine z_get F 0 11 1 inlX11 rfl rfl (by decide) fl_X11_19 rfl dX11_disquiet_57 ?_
        obtain ⟨r_11, text_top_12, text_worked_13, judge_known_14, hg, hf⟩ := zb4_some hf
        refine z_callVm (rest := []) F 4 (c_Judge_costOf (xL X) G a_judge a_crowd a_text a_judge_known a_crowd_heights a_text_tape a_text_reader a_text_steps a_text_worked a_queue a_queue_who crowd_people crowd_heights text_fed text_length text_top text_steps text_worked judge_known queue_length queue_who r_11 text_top_12 text_worked_13 judge_known_14 hg) hy_X4_costOf ml_X11_162 hd_X4_costOf ⟨by omega, by omega⟩ rfl [8, 1, 2, 5, 6, 7, 9, 3, 4] rfl rfl 8 rfl rfl (w_T_disquiet G a_this a_crowd a_queue a_text a_judge a_deeds a_mendings a_picture a_shelves a_books a_thoughts a_heads a_crowd_heights a_queue_who a_text_tape a_text_reader a_text_steps a_text_worked a_judge_known hasPicture crowd_people crowd_heights queue_length queue_who text_fed text_length text_top_12 text_steps text_worked_13 judge_known_14) [none, some 1, some 2, some 7, some 8, some 3, some 4, some 5, some 0, some 6] rfl (by decide +kernel) rfl rfl (Nat.le_of_ble_eq_true rfl) dX11_disquiet_60 (fun hz_15 => ?_)
        have eq1 := Option.some.inj hf
        obtain ⟨ee1, eq2⟩ := Prod.mk.inj eq1
        obtain ⟨ee2, eq3⟩ := Prod.mk.inj eq2
        obtain ⟨ee3, ee4⟩ := Prod.mk.inj eq3
        subst ee1
        subst ee2
        subst ee3
        subst ee4
        exact z_iret F rfl rfl rfl rfl dX11_disquiet_63
      · replace hf := zif_f hf hc_10
        refine z_tabOut F 64 dX11_disquiet_1 (by have := zne hc_1 (c := 0) (k := 0) rfl; have := zne hc_7 (c := 1) (k := 1) rfl; have := zne hc_10 (c := 2) (k := 2) rfl; omega) (by decide) ?_
        refine z_iconst F (-1) dX11_disquiet_64 rfl ?_
        have eq1 := Option.some.inj hf
        obtain ⟨ee1, eq2⟩ := Prod.mk.inj eq1
        obtain ⟨ee2, eq3⟩ := Prod.mk.inj eq2
        obtain ⟨ee3, ee4⟩ := Prod.mk.inj eq3
        subst ee1
        subst ee2
        subst ee3
        subst ee4
        exact z_iret F rfl rfl rfl rfl dX11_disquiet_65

abbrev w_T_swap (G : zG) (a_this : Nat) (a_crowd : Nat) (a_queue : Nat) (a_text : Nat) (a_judge : Nat) (a_deeds : Nat) (a_mendings : Nat) (a_picture : Nat) (a_shelves : Nat) (a_books : Nat) (a_thoughts : Nat) (a_heads : Nat) (a_crowd_heights : Nat) (a_queue_who : Nat) (a_text_tape : Nat) (a_text_reader : Nat) (a_text_steps : Nat) (a_text_worked : Nat) (a_judge_known : Nat) (a_deeds_kept : Nat) (a_deeds_numbers : Nat) (a_deeds_changes : Nat) (a_deeds_greatest : Nat) (a_deeds_kept_e : Nat → Nat) (a_deeds_kept_e_who : Nat → Nat) (hasPicture : Int32) (crowd_people : Int32) (crowd_heights : Nat → Int32) (queue_length : Int32) (queue_who : Nat → Int32) (text_fed : Int32) (text_length : Int32) (text_top : Int32) (text_steps : Nat → Int32) (text_worked : Nat → Int32) (judge_known : Nat → Int32) (deeds_first : Int32) (deeds_size : Int32) (deeds_kept_e_length : Nat → Int32) (deeds_kept_e_who : Nat → (Nat → Int32)) (deeds_numbers : Nat → Int32) (deeds_changes : Nat → Int32) (deeds_greatest : Nat → Int32) : va_W := [(a_this, cO 11 [.ref a_crowd, .ref a_queue, .ref a_text, .ref a_judge, .ref a_deeds, .ref a_mendings, .ref a_picture, .int hasPicture, .ref a_shelves, .ref a_books, .ref a_thoughts, .ref a_heads]), (a_crowd, cO 1 [.ref a_crowd_heights, .int crowd_people]), (a_crowd_heights, cI G 9 crowd_heights), (a_queue, cO 7 [.ref a_queue_who, .int queue_length]), (a_queue_who, cI G 9 queue_who), (a_text, cO 5 [.ref a_text_tape, .int text_fed, .ref a_text_reader, .ref a_text_steps, .int text_length, .ref a_text_worked, .int text_top]), (a_text_steps, cI G 121 text_steps), (a_text_worked, cI G 121 text_worked), (a_judge, cO 4 [.ref a_crowd, .ref a_text, .ref a_judge_known]), (a_judge_known, cB G 729 judge_known), (a_deeds, cO 2 [.ref a_judge, .ref a_deeds_kept, .int deeds_first, .int deeds_size, .ref a_deeds_numbers, .ref a_deeds_changes, .ref a_deeds_greatest]), (a_deeds_kept, cL G 12 (fun j => some (a_deeds_kept_e j))), ((a_deeds_kept_e 0), cO 7 [.ref (a_deeds_kept_e_who 0), .int (deeds_kept_e_length 0)]), ((a_deeds_kept_e_who 0), cI G 9 (deeds_kept_e_who 0)), ((a_deeds_kept_e 1), cO 7 [.ref (a_deeds_kept_e_who 1), .int (deeds_kept_e_length 1)]), ((a_deeds_kept_e_who 1), cI G 9 (deeds_kept_e_who 1)), ((a_deeds_kept_e 2), cO 7 [.ref (a_deeds_kept_e_who 2), .int (deeds_kept_e_length 2)]), ((a_deeds_kept_e_who 2), cI G 9 (deeds_kept_e_who 2)), ((a_deeds_kept_e 3), cO 7 [.ref (a_deeds_kept_e_who 3), .int (deeds_kept_e_length 3)]), ((a_deeds_kept_e_who 3), cI G 9 (deeds_kept_e_who 3)), ((a_deeds_kept_e 4), cO 7 [.ref (a_deeds_kept_e_who 4), .int (deeds_kept_e_length 4)]), ((a_deeds_kept_e_who 4), cI G 9 (deeds_kept_e_who 4)), ((a_deeds_kept_e 5), cO 7 [.ref (a_deeds_kept_e_who 5), .int (deeds_kept_e_length 5)]), ((a_deeds_kept_e_who 5), cI G 9 (deeds_kept_e_who 5)), ((a_deeds_kept_e 6), cO 7 [.ref (a_deeds_kept_e_who 6), .int (deeds_kept_e_length 6)]), ((a_deeds_kept_e_who 6), cI G 9 (deeds_kept_e_who 6)), ((a_deeds_kept_e 7), cO 7 [.ref (a_deeds_kept_e_who 7), .int (deeds_kept_e_length 7)]), ((a_deeds_kept_e_who 7), cI G 9 (deeds_kept_e_who 7)), ((a_deeds_kept_e 8), cO 7 [.ref (a_deeds_kept_e_who 8), .int (deeds_kept_e_length 8)]), ((a_deeds_kept_e_who 8), cI G 9 (deeds_kept_e_who 8)), ((a_deeds_kept_e 9), cO 7 [.ref (a_deeds_kept_e_who 9), .int (deeds_kept_e_length 9)]), ((a_deeds_kept_e_who 9), cI G 9 (deeds_kept_e_who 9)), ((a_deeds_kept_e 10), cO 7 [.ref (a_deeds_kept_e_who 10), .int (deeds_kept_e_length 10)]), ((a_deeds_kept_e_who 10), cI G 9 (deeds_kept_e_who 10)), ((a_deeds_kept_e 11), cO 7 [.ref (a_deeds_kept_e_who 11), .int (deeds_kept_e_length 11)]), ((a_deeds_kept_e_who 11), cI G 9 (deeds_kept_e_who 11)), (a_deeds_numbers, cI G 9 deeds_numbers), (a_deeds_changes, cI G 9 deeds_changes), (a_deeds_greatest, cI G 9 deeds_greatest)]
def f_T_swap (crowd_people : Int32) (crowd_heights : Nat → Int32) (queue_length : Int32) (queue_who : Nat → Int32) (text_length : Int32) (text_top : Int32) (text_steps : Nat → Int32) (text_worked : Nat → Int32) (judge_known : Nat → Int32) (deeds_first : Int32) (deeds_size : Int32) (deeds_kept_e_length : Nat → Int32) (deeds_kept_e_who : Nat → (Nat → Int32)) (deeds_numbers : Nat → Int32) (deeds_changes : Nat → Int32) (deeds_greatest : Nat → Int32) (x1 : Int32) : Option (Int32 × (Nat → Int32) × Int32 × (Nat → Int32) × (Nat → Int32) × Int32 × Int32 × (Nat → Int32) × (Nat → (Nat → Int32)) × (Nat → Int32) × (Nat → Int32) × (Nat → Int32)) := (if x1 < 0 then (some ((-1), queue_who, text_top, text_worked, judge_known, deeds_first, deeds_size, deeds_kept_e_length, deeds_kept_e_who, deeds_numbers, deeds_changes, deeds_greatest)) else (if x1 ≤ ((f_Line_size queue_length) - (2 : Int32)) then (zb8 (f_Deeds_begin deeds_first deeds_size crowd_people crowd_heights text_length text_top text_steps text_worked judge_known deeds_kept_e_length deeds_kept_e_who deeds_numbers queue_length queue_who) fun deeds_first_2 deeds_size_3 text_top_4 text_worked_5 judge_known_6 deeds_kept_e_length_7 deeds_kept_e_who_8 deeds_numbers_9 => (zb1 (f_Line_exchange queue_length queue_who x1 (x1 + (1 : Int32))) fun queue_who_11 => (zb5 (f_Deeds_end crowd_people crowd_heights text_length text_top_4 text_steps text_worked_5 judge_known_6 deeds_numbers_9 deeds_changes deeds_greatest queue_length queue_who_11) fun text_top_13 text_worked_14 judge_known_15 deeds_changes_16 deeds_greatest_17 => (zb4 (f_Judge_disquietOf crowd_people crowd_heights text_length text_top_13 text_steps text_worked_14 judge_known_15 queue_length queue_who_11) fun r_19 text_top_20 text_worked_21 judge_known_22 => (some (r_19, queue_who_11, text_top_20, text_worked_21, judge_known_22, deeds_first_2, deeds_size_3, deeds_kept_e_length_7, deeds_kept_e_who_8, deeds_numbers_9, deeds_changes_16, deeds_greatest_17)))))) else (some ((-1), queue_who, text_top, text_worked, judge_known, deeds_first, deeds_size, deeds_kept_e_length, deeds_kept_e_who, deeds_numbers, deeds_changes, deeds_greatest))))
set_option maxRecDepth 100000 in
set_option maxHeartbeats 4000000 in
theorem c_T_swap (l : Launch) (G : zG) (a_this : Nat) (a_crowd : Nat) (a_queue : Nat) (a_text : Nat) (a_judge : Nat) (a_deeds : Nat) (a_mendings : Nat) (a_picture : Nat) (a_shelves : Nat) (a_books : Nat) (a_thoughts : Nat) (a_heads : Nat) (a_crowd_heights : Nat) (a_queue_who : Nat) (a_text_tape : Nat) (a_text_reader : Nat) (a_text_steps : Nat) (a_text_worked : Nat) (a_judge_known : Nat) (a_deeds_kept : Nat) (a_deeds_numbers : Nat) (a_deeds_changes : Nat) (a_deeds_greatest : Nat) (a_deeds_kept_e : Nat → Nat) (a_deeds_kept_e_who : Nat → Nat) (hasPicture : Int32) (crowd_people : Int32) (crowd_heights : Nat → Int32) (queue_length : Int32) (queue_who : Nat → Int32) (text_fed : Int32) (text_length : Int32) (text_top : Int32) (text_steps : Nat → Int32) (text_worked : Nat → Int32) (judge_known : Nat → Int32) (deeds_first : Int32) (deeds_size : Int32) (deeds_kept_e_length : Nat → Int32) (deeds_kept_e_who : Nat → (Nat → Int32)) (deeds_numbers : Nat → Int32) (deeds_changes : Nat → Int32) (deeds_greatest : Nat → Int32) (x1 : Int32) (r_ : Int32) (o_queue_who : Nat → Int32) (o_text_top : Int32) (o_text_worked : Nat → Int32) (o_judge_known : Nat → Int32) (o_deeds_first : Int32) (o_deeds_size : Int32) (o_deeds_kept_e_length : Nat → Int32) (o_deeds_kept_e_who : Nat → (Nat → Int32)) (o_deeds_numbers : Nat → Int32) (o_deeds_changes : Nat → Int32) (o_deeds_greatest : Nat → Int32) (hf : f_T_swap crowd_people crowd_heights queue_length queue_who text_length text_top text_steps text_worked judge_known deeds_first deeds_size deeds_kept_e_length deeds_kept_e_who deeds_numbers deeds_changes deeds_greatest x1 = some (r_, o_queue_who, o_text_top, o_text_worked, o_judge_known, o_deeds_first, o_deeds_size, o_deeds_kept_e_length, o_deeds_kept_e_who, o_deeds_numbers, o_deeds_changes, o_deeds_greatest)) : zM l yX11_swap cX11_swap 2 (some .int) 5 164 G [.ref a_this, .int x1] (w_T_swap G a_this a_crowd a_queue a_text a_judge a_deeds a_mendings a_picture a_shelves a_books a_thoughts a_heads a_crowd_heights a_queue_who a_text_tape a_text_reader a_text_steps a_text_worked a_judge_known a_deeds_kept a_deeds_numbers a_deeds_changes a_deeds_greatest a_deeds_kept_e a_deeds_kept_e_who hasPicture crowd_people crowd_heights queue_length queue_who text_fed text_length text_top text_steps text_worked judge_known deeds_first deeds_size deeds_kept_e_length deeds_kept_e_who deeds_numbers deeds_changes deeds_greatest) (some (.int r_)) (w_T_swap G a_this a_crowd a_queue a_text a_judge a_deeds a_mendings a_picture a_shelves a_books a_thoughts a_heads a_crowd_heights a_queue_who a_text_tape a_text_reader a_text_steps a_text_worked a_judge_known a_deeds_kept a_deeds_numbers a_deeds_changes a_deeds_greatest a_deeds_kept_e a_deeds_kept_e_who hasPicture crowd_people crowd_heights queue_length o_queue_who text_fed text_length o_text_top text_steps o_text_worked o_judge_known o_deeds_first o_deeds_size o_deeds_kept_e_length o_deeds_kept_e_who o_deeds_numbers o_deeds_changes o_deeds_greatest) := by
  refine zM.of [(0, .ref a_this), (1, .int x1)] (own := RX11) rfl (by decide +kernel) (Nat.le_of_ble_eq_true rfl) rfl rfl fun X hX F => ?_
  subst hX
  replace hf := (f_T_swap.eq_1 ..).symm.trans hf
  refine z_iload_n F 1 dX11_swap_0 rfl rfl ?_
  refine z_if_lt F 17 dX11_swap_1 (by decide) hf (fun hf _ => ?_) (fun hf _ => ?_)
  · refine z_iconst F (-1) dX11_swap_17 rfl ?_
    have eq1 := Option.some.inj hf
    obtain ⟨ee1, eq2⟩ := Prod.mk.inj eq1
    obtain ⟨ee2, eq3⟩ := Prod.mk.inj eq2
    obtain ⟨ee3, eq4⟩ := Prod.mk.inj eq3
    obtain ⟨ee4, eq5⟩ := Prod.mk.inj eq4
    obtain ⟨ee5, eq6⟩ := Prod.mk.inj eq5
    obtain ⟨ee6, eq7⟩ := Prod.mk.inj eq6
    obtain ⟨ee7, eq8⟩ := Prod.mk.inj eq7
    obtain ⟨ee8, eq9⟩ := Prod.mk.inj eq8
    obtain ⟨ee9, eq10⟩ := Prod.mk.inj eq9
    obtain ⟨ee10, eq11⟩ := Prod.mk.inj eq10
    obtain ⟨ee11, ee12⟩ := Prod.mk.inj eq11
    subst ee1
    subst ee2
    subst ee3
    subst ee4
    subst ee5
    subst ee6
    subst ee7
    subst ee8
    subst ee9
    subst ee10
    subst ee11
    subst ee12
    exact z_iret F rfl rfl rfl rfl dX11_swap_18
  · refine z_iload_n F 1 dX11_swap_4 rfl rfl ?_
    refine z_aload_n F 0 dX11_swap_5 rfl rfl ?_
    refine z_get F 0 11 1 inlX11 rfl rfl (by decide) fl_X11_19 rfl dX11_swap_6 ?_
    refine z_callVm (rest := [.int x1]) F 7 (c_Line_size (xL X) G a_queue a_queue_who queue_length _ rfl) hy_X7_size ml_X11_94 hd_X7_size ⟨by omega, by omega⟩ rfl [3] rfl rfl 3 rfl rfl (w_T_swap G a_this a_crowd a_queue a_text a_judge a_deeds a_mendings a_picture a_shelves a_books a_thoughts a_heads a_crowd_heights a_queue_who a_text_tape a_text_reader a_text_steps a_text_worked a_judge_known a_deeds_kept a_deeds_numbers a_deeds_changes a_deeds_greatest a_deeds_kept_e a_deeds_kept_e_who hasPicture crowd_people crowd_heights queue_length queue_who text_fed text_length text_top text_steps text_worked judge_known deeds_first deeds_size deeds_kept_e_length deeds_kept_e_who deeds_numbers deeds_changes deeds_greatest) [none, none, none, some 0, none, none, none, none, none, none, none, none, none, none, none, none, none, none, none, none, none, none, none, none, none, none, none, none, none, none, none, none, none, none, none, none, none, none, none] rfl (by decide +kernel) rfl rfl (Nat.le_of_ble_eq_true rfl) dX11_swap_9 (fun hz_1 => ?_)
    refine z_iconst F (2) dX11_swap_12 rfl ?_
    refine z_isub F dX11_swap_13 ?_
    refine z_icmp_le F 19 dX11_swap_14 (by decide) hf (fun hf _ => ?_) (fun hf _ => ?_)
    · refine z_aload_n F 0 dX11_swap_19 rfl rfl ?_
      refine z_get F 0 11 4 inlX11 rfl rfl (by decide) fl_X11_44 rfl dX11_swap_20 ?_
      refine z_aload_n F 0 dX11_swap_23 rfl rfl ?_
      refine z_get F 0 11 1 inlX11 rfl rfl (by decide) fl_X11_19 rfl dX11_swap_24 ?_
      obtain ⟨deeds_first_2, deeds_size_3, text_top_4, text_worked_5, judge_known_6, deeds_kept_e_length_7, deeds_kept_e_who_8, deeds_numbers_9, hg, hf⟩ := zb8_some hf
      refine z_callVm (rest := []) F 2 (c_Deeds_begin (xL X) G a_deeds a_judge a_deeds_kept a_deeds_numbers a_deeds_changes a_deeds_greatest a_crowd a_text a_judge_known a_crowd_heights a_text_tape a_text_reader a_text_steps a_text_worked a_deeds_kept_e a_deeds_kept_e_who a_queue a_queue_who deeds_first deeds_size crowd_people crowd_heights text_fed text_length text_top text_steps text_worked judge_known deeds_kept_e_length deeds_kept_e_who deeds_numbers queue_length queue_who deeds_first_2 deeds_size_3 text_top_4 text_worked_5 judge_known_6 deeds_kept_e_length_7 deeds_kept_e_who_8 deeds_numbers_9 hg) hy_X2_begin ml_X11_165 hd_X2_begin ⟨by omega, by omega⟩ rfl [10, 8, 1, 2, 5, 6, 7, 9, 11, 12, 13, 14, 15, 16, 17, 18, 19, 20, 21, 22, 23, 24, 25, 26, 27, 28, 29, 30, 31, 32, 33, 34, 35, 36, 3, 4] rfl rfl 10 rfl rfl (w_T_swap G a_this a_crowd a_queue a_text a_judge a_deeds a_mendings a_picture a_shelves a_books a_thoughts a_heads a_crowd_heights a_queue_who a_text_tape a_text_reader a_text_steps a_text_worked a_judge_known a_deeds_kept a_deeds_numbers a_deeds_changes a_deeds_greatest a_deeds_kept_e a_deeds_kept_e_who hasPicture crowd_people crowd_heights queue_length queue_who text_fed text_length text_top_4 text_steps text_worked_5 judge_known_6 deeds_first_2 deeds_size_3 deeds_kept_e_length_7 deeds_kept_e_who_8 deeds_numbers_9 deeds_changes deeds_greatest) [none, some 2, some 3, some 34, some 35, some 4, some 5, some 6, some 1, some 7, some 0, some 8, some 9, some 10, some 11, some 12, some 13, some 14, some 15, some 16, some 17, some 18, some 19, some 20, some 21, some 22, some 23, some 24, some 25, some 26, some 27, some 28, some 29, some 30, some 31, some 32, some 33, none, none] rfl (by decide +kernel) rfl rfl (Nat.le_of_ble_eq_true rfl) dX11_swap_27 (fun hz_10 => ?_)
      refine z_aload_n F 0 dX11_swap_30 rfl rfl ?_
      refine z_get F 0 11 1 inlX11 rfl rfl (by decide) fl_X11_19 rfl dX11_swap_31 ?_
      refine z_iload_n F 1 dX11_swap_34 rfl rfl ?_
      refine z_iload_n F 1 dX11_swap_35 rfl rfl ?_
      refine z_iconst F (1) dX11_swap_36 rfl ?_
      refine z_iadd F dX11_swap_37 ?_
      obtain ⟨queue_who_11, hg, hf⟩ := zb1_some hf
      refine z_callVm (rest := []) F 7 (c_Line_exchange (xL X) G a_queue a_queue_who queue_length queue_who x1 (x1 + (1 : Int32)) queue_who_11 hg) hy_X7_exchange ml_X11_169 hd_X7_exchange ⟨by omega, by omega⟩ rfl [3, 4] rfl rfl 3 rfl rfl (w_T_swap G a_this a_crowd a_queue a_text a_judge a_deeds a_mendings a_picture a_shelves a_books a_thoughts a_heads a_crowd_heights a_queue_who a_text_tape a_text_reader a_text_steps a_text_worked a_judge_known a_deeds_kept a_deeds_numbers a_deeds_changes a_deeds_greatest a_deeds_kept_e a_deeds_kept_e_who hasPicture crowd_people crowd_heights queue_length queue_who_11 text_fed text_length text_top_4 text_steps text_worked_5 judge_known_6 deeds_first_2 deeds_size_3 deeds_kept_e_length_7 deeds_kept_e_who_8 deeds_numbers_9 deeds_changes deeds_greatest) [none, none, none, some 0, some 1, none, none, none, none, none, none, none, none, none, none, none, none, none, none, none, none, none, none, none, none, none, none, none, none, none, none, none, none, none, none, none, none, none, none] rfl (by decide +kernel) rfl rfl (Nat.le_of_ble_eq_true rfl) dX11_swap_38 (fun hz_12 => ?_)
      refine z_aload_n F 0 dX11_swap_41 rfl rfl ?_
      refine z_get F 0 11 4 inlX11 rfl rfl (by decide) fl_X11_44 rfl dX11_swap_42 ?_
      refine z_aload_n F 0 dX11_swap_45 rfl rfl ?_
      refine z_get F 0 11 1 inlX11 rfl rfl (by decide) fl_X11_19 rfl dX11_swap_46 ?_
      obtain ⟨text_top_13, text_worked_14, judge_known_15, deeds_changes_16, deeds_greatest_17, hg, hf⟩ := zb5_some hf
      refine z_callVm (rest := []) F 2 (c_Deeds_end (xL X) G a_deeds a_judge a_deeds_kept a_deeds_numbers a_deeds_changes a_deeds_greatest a_crowd a_text a_judge_known a_crowd_heights a_text_tape a_text_reader a_text_steps a_text_worked a_queue a_queue_who deeds_first_2 deeds_size_3 crowd_people crowd_heights text_fed text_length text_top_4 text_steps text_worked_5 judge_known_6 deeds_numbers_9 deeds_changes deeds_greatest queue_length queue_who_11 text_top_13 text_worked_14 judge_known_15 deeds_changes_16 deeds_greatest_17 hg) hy_X2_end ml_X11_172 hd_X2_end ⟨by omega, by omega⟩ rfl [10, 8, 1, 2, 5, 6, 7, 9, 36, 37, 38, 3, 4] rfl rfl 10 rfl rfl (w_T_swap G a_this a_crowd a_queue a_text a_judge a_deeds a_mendings a_picture a_shelves a_books a_thoughts a_heads a_crowd_heights a_queue_who a_text_tape a_text_reader a_text_steps a_text_worked a_judge_known a_deeds_kept a_deeds_numbers a_deeds_changes a_deeds_greatest a_deeds_kept_e a_deeds_kept_e_who hasPicture crowd_people crowd_heights queue_length queue_who_11 text_fed text_length text_top_13 text_steps text_worked_14 judge_known_15 deeds_first_2 deeds_size_3 deeds_kept_e_length_7 deeds_kept_e_who_8 deeds_numbers_9 deeds_changes_16 deeds_greatest_17) [none, some 2, some 3, some 11, some 12, some 4, some 5, some 6, some 1, some 7, some 0, none, none, none, none, none, none, none, none, none, none, none, none, none, none, none, none, none, none, none, none, none, none, none, none, none, some 8, some 9, some 10] rfl (by decide +kernel) rfl rfl (Nat.le_of_ble_eq_true rfl) dX11_swap_49 (fun hz_18 => ?_)
      refine z_aload_n F 0 dX11_swap_52 rfl rfl ?_
      refine z_get F 0 11 3 inlX11 rfl rfl (by decide) fl_X11_35 rfl dX11_swap_53 ?_
      refine z_aload_n F 0 dX11_swap_56 rfl rfl ?_
      refine z_get F 0 11 1 inlX11 rfl rfl (by decide) fl_X11_19 rfl dX11_swap_57 ?_
      obtain ⟨r_19, text_top_20, text_worked_21, judge_known_22, hg, hf⟩ := zb4_some hf
      refine z_callVm (rest := []) F 4 (c_Judge_disquietOf (xL X) G a_judge a_crowd a_text a_judge_known a_crowd_heights a_text_tape a_text_reader a_text_steps a_text_worked a_queue a_queue_who crowd_people crowd_heights text_fed text_length text_top_13 text_steps text_worked_14 judge_known_15 queue_length queue_who_11 r_19 text_top_20 text_worked_21 judge_known_22 hg) hy_X4_disquietOf ml_X11_155 hd_X4_disquietOf ⟨by omega, by omega⟩ rfl [8, 1, 2, 5, 6, 7, 9, 3, 4] rfl rfl 8 rfl rfl (w_T_swap G a_this a_crowd a_queue a_text a_judge a_deeds a_mendings a_picture a_shelves a_books a_thoughts a_heads a_crowd_heights a_queue_who a_text_tape a_text_reader a_text_steps a_text_worked a_judge_known a_deeds_kept a_deeds_numbers a_deeds_changes a_deeds_greatest a_deeds_kept_e a_deeds_kept_e_who hasPicture crowd_people crowd_heights queue_length queue_who_11 text_fed text_length text_top_20 text_steps text_worked_21 judge_known_22 deeds_first_2 deeds_size_3 deeds_kept_e_length_7 deeds_kept_e_who_8 deeds_numbers_9 deeds_changes_16 deeds_greatest_17) [none, some 1, some 2, some 7, some 8, some 3, some 4, some 5, some 0, some 6, none, none, none, none, none, none, none, none, none, none, none, none, none, none, none, none, none, none, none, none, none, none, none, none, none, none, none, none, none] rfl (by decide +kernel) rfl rfl (Nat.le_of_ble_eq_true rfl) dX11_swap_60 (fun hz_23 => ?_)
      have eq1 := Option.some.inj hf
      obtain ⟨ee1, eq2⟩ := Prod.mk.inj eq1
      obtain ⟨ee2, eq3⟩ := Prod.mk.inj eq2
      obtain ⟨ee3, eq4⟩ := Prod.mk.inj eq3
      obtain ⟨ee4, eq5⟩ := Prod.mk.inj eq4
      obtain ⟨ee5, eq6⟩ := Prod.mk.inj eq5
      obtain ⟨ee6, eq7⟩ := Prod.mk.inj eq6
      obtain ⟨ee7, eq8⟩ := Prod.mk.inj eq7
      obtain ⟨ee8, eq9⟩ := Prod.mk.inj eq8
      obtain ⟨ee9, eq10⟩ := Prod.mk.inj eq9
      obtain ⟨ee10, eq11⟩ := Prod.mk.inj eq10
      obtain ⟨ee11, ee12⟩ := Prod.mk.inj eq11
      subst ee1
      subst ee2
      subst ee3
      subst ee4
      subst ee5
      subst ee6
      subst ee7
      subst ee8
      subst ee9
      subst ee10
      subst ee11
      subst ee12
      exact z_iret F rfl rfl rfl rfl dX11_swap_63
    · refine z_iconst F (-1) dX11_swap_17 rfl ?_
      have eq1 := Option.some.inj hf
      obtain ⟨ee1, eq2⟩ := Prod.mk.inj eq1
      obtain ⟨ee2, eq3⟩ := Prod.mk.inj eq2
      obtain ⟨ee3, eq4⟩ := Prod.mk.inj eq3
      obtain ⟨ee4, eq5⟩ := Prod.mk.inj eq4
      obtain ⟨ee5, eq6⟩ := Prod.mk.inj eq5
      obtain ⟨ee6, eq7⟩ := Prod.mk.inj eq6
      obtain ⟨ee7, eq8⟩ := Prod.mk.inj eq7
      obtain ⟨ee8, eq9⟩ := Prod.mk.inj eq8
      obtain ⟨ee9, eq10⟩ := Prod.mk.inj eq9
      obtain ⟨ee10, eq11⟩ := Prod.mk.inj eq10
      obtain ⟨ee11, ee12⟩ := Prod.mk.inj eq11
      subst ee1
      subst ee2
      subst ee3
      subst ee4
      subst ee5
      subst ee6
      subst ee7
      subst ee8
      subst ee9
      subst ee10
      subst ee11
      subst ee12
      exact z_iret F rfl rfl rfl rfl dX11_swap_18

abbrev w_T_enter (G : zG) (a_this : Nat) (a_crowd : Nat) (a_queue : Nat) (a_text : Nat) (a_judge : Nat) (a_deeds : Nat) (a_mendings : Nat) (a_picture : Nat) (a_shelves : Nat) (a_books : Nat) (a_thoughts : Nat) (a_heads : Nat) (a_crowd_heights : Nat) (a_queue_who : Nat) (a_text_tape : Nat) (a_text_reader : Nat) (a_text_steps : Nat) (a_text_worked : Nat) (a_judge_known : Nat) (a_deeds_kept : Nat) (a_deeds_numbers : Nat) (a_deeds_changes : Nat) (a_deeds_greatest : Nat) (a_deeds_kept_e : Nat → Nat) (a_deeds_kept_e_who : Nat → Nat) (hasPicture : Int32) (crowd_people : Int32) (crowd_heights : Nat → Int32) (queue_length : Int32) (queue_who : Nat → Int32) (text_fed : Int32) (text_length : Int32) (text_top : Int32) (text_steps : Nat → Int32) (text_worked : Nat → Int32) (judge_known : Nat → Int32) (deeds_first : Int32) (deeds_size : Int32) (deeds_kept_e_length : Nat → Int32) (deeds_kept_e_who : Nat → (Nat → Int32)) (deeds_numbers : Nat → Int32) (deeds_changes : Nat → Int32) (deeds_greatest : Nat → Int32) : va_W := [(a_this, cO 11 [.ref a_crowd, .ref a_queue, .ref a_text, .ref a_judge, .ref a_deeds, .ref a_mendings, .ref a_picture, .int hasPicture, .ref a_shelves, .ref a_books, .ref a_thoughts, .ref a_heads]), (a_crowd, cO 1 [.ref a_crowd_heights, .int crowd_people]), (a_crowd_heights, cI G 9 crowd_heights), (a_queue, cO 7 [.ref a_queue_who, .int queue_length]), (a_queue_who, cI G 9 queue_who), (a_text, cO 5 [.ref a_text_tape, .int text_fed, .ref a_text_reader, .ref a_text_steps, .int text_length, .ref a_text_worked, .int text_top]), (a_text_steps, cI G 121 text_steps), (a_text_worked, cI G 121 text_worked), (a_judge, cO 4 [.ref a_crowd, .ref a_text, .ref a_judge_known]), (a_judge_known, cB G 729 judge_known), (a_deeds, cO 2 [.ref a_judge, .ref a_deeds_kept, .int deeds_first, .int deeds_size, .ref a_deeds_numbers, .ref a_deeds_changes, .ref a_deeds_greatest]), (a_deeds_kept, cL G 12 (fun j => some (a_deeds_kept_e j))), ((a_deeds_kept_e 0), cO 7 [.ref (a_deeds_kept_e_who 0), .int (deeds_kept_e_length 0)]), ((a_deeds_kept_e_who 0), cI G 9 (deeds_kept_e_who 0)), ((a_deeds_kept_e 1), cO 7 [.ref (a_deeds_kept_e_who 1), .int (deeds_kept_e_length 1)]), ((a_deeds_kept_e_who 1), cI G 9 (deeds_kept_e_who 1)), ((a_deeds_kept_e 2), cO 7 [.ref (a_deeds_kept_e_who 2), .int (deeds_kept_e_length 2)]), ((a_deeds_kept_e_who 2), cI G 9 (deeds_kept_e_who 2)), ((a_deeds_kept_e 3), cO 7 [.ref (a_deeds_kept_e_who 3), .int (deeds_kept_e_length 3)]), ((a_deeds_kept_e_who 3), cI G 9 (deeds_kept_e_who 3)), ((a_deeds_kept_e 4), cO 7 [.ref (a_deeds_kept_e_who 4), .int (deeds_kept_e_length 4)]), ((a_deeds_kept_e_who 4), cI G 9 (deeds_kept_e_who 4)), ((a_deeds_kept_e 5), cO 7 [.ref (a_deeds_kept_e_who 5), .int (deeds_kept_e_length 5)]), ((a_deeds_kept_e_who 5), cI G 9 (deeds_kept_e_who 5)), ((a_deeds_kept_e 6), cO 7 [.ref (a_deeds_kept_e_who 6), .int (deeds_kept_e_length 6)]), ((a_deeds_kept_e_who 6), cI G 9 (deeds_kept_e_who 6)), ((a_deeds_kept_e 7), cO 7 [.ref (a_deeds_kept_e_who 7), .int (deeds_kept_e_length 7)]), ((a_deeds_kept_e_who 7), cI G 9 (deeds_kept_e_who 7)), ((a_deeds_kept_e 8), cO 7 [.ref (a_deeds_kept_e_who 8), .int (deeds_kept_e_length 8)]), ((a_deeds_kept_e_who 8), cI G 9 (deeds_kept_e_who 8)), ((a_deeds_kept_e 9), cO 7 [.ref (a_deeds_kept_e_who 9), .int (deeds_kept_e_length 9)]), ((a_deeds_kept_e_who 9), cI G 9 (deeds_kept_e_who 9)), ((a_deeds_kept_e 10), cO 7 [.ref (a_deeds_kept_e_who 10), .int (deeds_kept_e_length 10)]), ((a_deeds_kept_e_who 10), cI G 9 (deeds_kept_e_who 10)), ((a_deeds_kept_e 11), cO 7 [.ref (a_deeds_kept_e_who 11), .int (deeds_kept_e_length 11)]), ((a_deeds_kept_e_who 11), cI G 9 (deeds_kept_e_who 11)), (a_deeds_numbers, cI G 9 deeds_numbers), (a_deeds_changes, cI G 9 deeds_changes), (a_deeds_greatest, cI G 9 deeds_greatest)]
def f_T_enter (crowd_people : Int32) (crowd_heights : Nat → Int32) (queue_length : Int32) (queue_who : Nat → Int32) (text_length : Int32) (text_top : Int32) (text_steps : Nat → Int32) (text_worked : Nat → Int32) (judge_known : Nat → Int32) (deeds_first : Int32) (deeds_size : Int32) (deeds_kept_e_length : Nat → Int32) (deeds_kept_e_who : Nat → (Nat → Int32)) (deeds_numbers : Nat → Int32) (deeds_changes : Nat → Int32) (deeds_greatest : Nat → Int32) (x1 : Int32) (x2 : Int32) : Option (Int32 × Int32 × (Nat → Int32) × Int32 × (Nat → Int32) × (Nat → Int32) × Int32 × Int32 × (Nat → Int32) × (Nat → (Nat → Int32)) × (Nat → Int32) × (Nat → Int32) × (Nat → Int32)) := (if (f_Crowd_isPerson crowd_people x1) = 0 then (some ((-1), queue_length, queue_who, text_top, text_worked, judge_known, deeds_first, deeds_size, deeds_kept_e_length, deeds_kept_e_who, deeds_numbers, deeds_changes, deeds_greatest)) else (if x2 < 0 then (some ((-1), queue_length, queue_who, text_top, text_worked, judge_known, deeds_first, deeds_size, deeds_kept_e_length, deeds_kept_e_who, deeds_numbers, deeds_changes, deeds_greatest)) else (if x2 ≤ (f_Line_size queue_length) then (zb1 (f_Line_placeOf queue_length queue_who x1) fun r_3 => (if r_3 < 0 then (zb8 (f_Deeds_begin deeds_first deeds_size crowd_people crowd_heights text_length text_top text_steps text_worked judge_known deeds_kept_e_length deeds_kept_e_who deeds_numbers queue_length queue_who) fun deeds_first_5 deeds_size_6 text_top_7 text_worked_8 judge_known_9 deeds_kept_e_length_10 deeds_kept_e_who_11 deeds_numbers_12 => (zb2 (f_Line_insert queue_length queue_who x1 x2) fun queue_length_14 queue_who_15 => (zb5 (f_Deeds_end crowd_people crowd_heights text_length text_top_7 text_steps text_worked_8 judge_known_9 deeds_numbers_12 deeds_changes deeds_greatest queue_length_14 queue_who_15) fun text_top_17 text_worked_18 judge_known_19 deeds_changes_20 deeds_greatest_21 => (zb4 (f_Judge_disquietOf crowd_people crowd_heights text_length text_top_17 text_steps text_worked_18 judge_known_19 queue_length_14 queue_who_15) fun r_23 text_top_24 text_worked_25 judge_known_26 => (some (r_23, queue_length_14, queue_who_15, text_top_24, text_worked_25, judge_known_26, deeds_first_5, deeds_size_6, deeds_kept_e_length_10, deeds_kept_e_who_11, deeds_numbers_12, deeds_changes_20, deeds_greatest_21)))))) else (some ((-5), queue_length, queue_who, text_top, text_worked, judge_known, deeds_first, deeds_size, deeds_kept_e_length, deeds_kept_e_who, deeds_numbers, deeds_changes, deeds_greatest)))) else (some ((-1), queue_length, queue_who, text_top, text_worked, judge_known, deeds_first, deeds_size, deeds_kept_e_length, deeds_kept_e_who, deeds_numbers, deeds_changes, deeds_greatest)))))
set_option maxRecDepth 100000 in
set_option maxHeartbeats 4000000 in
theorem c_T_enter (l : Launch) (G : zG) (a_this : Nat) (a_crowd : Nat) (a_queue : Nat) (a_text : Nat) (a_judge : Nat) (a_deeds : Nat) (a_mendings : Nat) (a_picture : Nat) (a_shelves : Nat) (a_books : Nat) (a_thoughts : Nat) (a_heads : Nat) (a_crowd_heights : Nat) (a_queue_who : Nat) (a_text_tape : Nat) (a_text_reader : Nat) (a_text_steps : Nat) (a_text_worked : Nat) (a_judge_known : Nat) (a_deeds_kept : Nat) (a_deeds_numbers : Nat) (a_deeds_changes : Nat) (a_deeds_greatest : Nat) (a_deeds_kept_e : Nat → Nat) (a_deeds_kept_e_who : Nat → Nat) (hasPicture : Int32) (crowd_people : Int32) (crowd_heights : Nat → Int32) (queue_length : Int32) (queue_who : Nat → Int32) (text_fed : Int32) (text_length : Int32) (text_top : Int32) (text_steps : Nat → Int32) (text_worked : Nat → Int32) (judge_known : Nat → Int32) (deeds_first : Int32) (deeds_size : Int32) (deeds_kept_e_length : Nat → Int32) (deeds_kept_e_who : Nat → (Nat → Int32)) (deeds_numbers : Nat → Int32) (deeds_changes : Nat → Int32) (deeds_greatest : Nat → Int32) (x1 : Int32) (x2 : Int32) (r_ : Int32) (o_queue_length : Int32) (o_queue_who : Nat → Int32) (o_text_top : Int32) (o_text_worked : Nat → Int32) (o_judge_known : Nat → Int32) (o_deeds_first : Int32) (o_deeds_size : Int32) (o_deeds_kept_e_length : Nat → Int32) (o_deeds_kept_e_who : Nat → (Nat → Int32)) (o_deeds_numbers : Nat → Int32) (o_deeds_changes : Nat → Int32) (o_deeds_greatest : Nat → Int32) (hf : f_T_enter crowd_people crowd_heights queue_length queue_who text_length text_top text_steps text_worked judge_known deeds_first deeds_size deeds_kept_e_length deeds_kept_e_who deeds_numbers deeds_changes deeds_greatest x1 x2 = some (r_, o_queue_length, o_queue_who, o_text_top, o_text_worked, o_judge_known, o_deeds_first, o_deeds_size, o_deeds_kept_e_length, o_deeds_kept_e_who, o_deeds_numbers, o_deeds_changes, o_deeds_greatest)) : zM l yX11_enter cX11_enter 3 (some .int) 5 164 G [.ref a_this, .int x1, .int x2] (w_T_enter G a_this a_crowd a_queue a_text a_judge a_deeds a_mendings a_picture a_shelves a_books a_thoughts a_heads a_crowd_heights a_queue_who a_text_tape a_text_reader a_text_steps a_text_worked a_judge_known a_deeds_kept a_deeds_numbers a_deeds_changes a_deeds_greatest a_deeds_kept_e a_deeds_kept_e_who hasPicture crowd_people crowd_heights queue_length queue_who text_fed text_length text_top text_steps text_worked judge_known deeds_first deeds_size deeds_kept_e_length deeds_kept_e_who deeds_numbers deeds_changes deeds_greatest) (some (.int r_)) (w_T_enter G a_this a_crowd a_queue a_text a_judge a_deeds a_mendings a_picture a_shelves a_books a_thoughts a_heads a_crowd_heights a_queue_who a_text_tape a_text_reader a_text_steps a_text_worked a_judge_known a_deeds_kept a_deeds_numbers a_deeds_changes a_deeds_greatest a_deeds_kept_e a_deeds_kept_e_who hasPicture crowd_people crowd_heights o_queue_length o_queue_who text_fed text_length o_text_top text_steps o_text_worked o_judge_known o_deeds_first o_deeds_size o_deeds_kept_e_length o_deeds_kept_e_who o_deeds_numbers o_deeds_changes o_deeds_greatest) := by
  refine zM.of [(0, .ref a_this), (1, .int x1), (2, .int x2)] (own := RX11) rfl (by decide +kernel) (Nat.le_of_ble_eq_true rfl) rfl rfl fun X hX F => ?_
  subst hX
  replace hf := (f_T_enter.eq_1 ..).symm.trans hf
  refine z_aload_n F 0 dX11_enter_0 rfl rfl ?_
  refine z_get F 0 11 0 inlX11 rfl rfl (by decide) fl_X11_10 rfl dX11_enter_1 ?_
  refine z_iload_n F 1 dX11_enter_4 rfl rfl ?_
  refine z_callVm (rest := []) F 1 (c_Crowd_isPerson (xL X) G a_crowd a_crowd_heights crowd_people x1 _ rfl) hy_X1_isPerson ml_X11_119 hd_X1_isPerson ⟨by omega, by omega⟩ rfl [1] rfl rfl 1 rfl rfl (w_T_enter G a_this a_crowd a_queue a_text a_judge a_deeds a_mendings a_picture a_shelves a_books a_thoughts a_heads a_crowd_heights a_queue_who a_text_tape a_text_reader a_text_steps a_text_worked a_judge_known a_deeds_kept a_deeds_numbers a_deeds_changes a_deeds_greatest a_deeds_kept_e a_deeds_kept_e_who hasPicture crowd_people crowd_heights queue_length queue_who text_fed text_length text_top text_steps text_worked judge_known deeds_first deeds_size deeds_kept_e_length deeds_kept_e_who deeds_numbers deeds_changes deeds_greatest) [none, some 0, none, none, none, none, none, none, none, none, none, none, none, none, none, none, none, none, none, none, none, none, none, none, none, none, none, none, none, none, none, none, none, none, none, none, none, none, none] rfl (by decide +kernel) rfl rfl (Nat.le_of_ble_eq_true rfl) dX11_enter_5 (fun hz_1 => ?_)
  refine z_if_eq F 26 dX11_enter_8 (by decide) hf (fun hf _ => ?_) (fun hf _ => ?_)
  · refine z_iconst F (-1) dX11_enter_26 rfl ?_
    have eq1 := Option.some.inj hf
    obtain ⟨ee1, eq2⟩ := Prod.mk.inj eq1
    obtain ⟨ee2, eq3⟩ := Prod.mk.inj eq2
    obtain ⟨ee3, eq4⟩ := Prod.mk.inj eq3
    obtain ⟨ee4, eq5⟩ := Prod.mk.inj eq4
    obtain ⟨ee5, eq6⟩ := Prod.mk.inj eq5
    obtain ⟨ee6, eq7⟩ := Prod.mk.inj eq6
    obtain ⟨ee7, eq8⟩ := Prod.mk.inj eq7
    obtain ⟨ee8, eq9⟩ := Prod.mk.inj eq8
    obtain ⟨ee9, eq10⟩ := Prod.mk.inj eq9
    obtain ⟨ee10, eq11⟩ := Prod.mk.inj eq10
    obtain ⟨ee11, eq12⟩ := Prod.mk.inj eq11
    obtain ⟨ee12, ee13⟩ := Prod.mk.inj eq12
    subst ee1
    subst ee2
    subst ee3
    subst ee4
    subst ee5
    subst ee6
    subst ee7
    subst ee8
    subst ee9
    subst ee10
    subst ee11
    subst ee12
    subst ee13
    exact z_iret F rfl rfl rfl rfl dX11_enter_27
  · refine z_iload_n F 2 dX11_enter_11 rfl rfl ?_
    refine z_if_lt F 26 dX11_enter_12 (by decide) hf (fun hf _ => ?_) (fun hf _ => ?_)
    · refine z_iconst F (-1) dX11_enter_26 rfl ?_
      have eq1 := Option.some.inj hf
      obtain ⟨ee1, eq2⟩ := Prod.mk.inj eq1
      obtain ⟨ee2, eq3⟩ := Prod.mk.inj eq2
      obtain ⟨ee3, eq4⟩ := Prod.mk.inj eq3
      obtain ⟨ee4, eq5⟩ := Prod.mk.inj eq4
      obtain ⟨ee5, eq6⟩ := Prod.mk.inj eq5
      obtain ⟨ee6, eq7⟩ := Prod.mk.inj eq6
      obtain ⟨ee7, eq8⟩ := Prod.mk.inj eq7
      obtain ⟨ee8, eq9⟩ := Prod.mk.inj eq8
      obtain ⟨ee9, eq10⟩ := Prod.mk.inj eq9
      obtain ⟨ee10, eq11⟩ := Prod.mk.inj eq10
      obtain ⟨ee11, eq12⟩ := Prod.mk.inj eq11
      obtain ⟨ee12, ee13⟩ := Prod.mk.inj eq12
      subst ee1
      subst ee2
      subst ee3
      subst ee4
      subst ee5
      subst ee6
      subst ee7
      subst ee8
      subst ee9
      subst ee10
      subst ee11
      subst ee12
      subst ee13
      exact z_iret F rfl rfl rfl rfl dX11_enter_27
    · refine z_iload_n F 2 dX11_enter_15 rfl rfl ?_
      refine z_aload_n F 0 dX11_enter_16 rfl rfl ?_
      refine z_get F 0 11 1 inlX11 rfl rfl (by decide) fl_X11_19 rfl dX11_enter_17 ?_
      refine z_callVm (rest := [.int x2]) F 7 (c_Line_size (xL X) G a_queue a_queue_who queue_length _ rfl) hy_X7_size ml_X11_94 hd_X7_size ⟨by omega, by omega⟩ rfl [3] rfl rfl 3 rfl rfl (w_T_enter G a_this a_crowd a_queue a_text a_judge a_deeds a_mendings a_picture a_shelves a_books a_thoughts a_heads a_crowd_heights a_queue_who a_text_tape a_text_reader a_text_steps a_text_worked a_judge_known a_deeds_kept a_deeds_numbers a_deeds_changes a_deeds_greatest a_deeds_kept_e a_deeds_kept_e_who hasPicture crowd_people crowd_heights queue_length queue_who text_fed text_length text_top text_steps text_worked judge_known deeds_first deeds_size deeds_kept_e_length deeds_kept_e_who deeds_numbers deeds_changes deeds_greatest) [none, none, none, some 0, none, none, none, none, none, none, none, none, none, none, none, none, none, none, none, none, none, none, none, none, none, none, none, none, none, none, none, none, none, none, none, none, none, none, none] rfl (by decide +kernel) rfl rfl (Nat.le_of_ble_eq_true rfl) dX11_enter_20 (fun hz_2 => ?_)
      refine z_icmp_le F 28 dX11_enter_23 (by decide) hf (fun hf _ => ?_) (fun hf _ => ?_)
      · refine z_aload_n F 0 dX11_enter_28 rfl rfl ?_
        refine z_get F 0 11 1 inlX11 rfl rfl (by decide) fl_X11_19 rfl dX11_enter_29 ?_
        refine z_iload_n F 1 dX11_enter_32 rfl rfl ?_
        obtain ⟨r_3, hg, hf⟩ := zb1_some hf
        refine z_callVm (rest := []) F 7 (c_Line_placeOf (xL X) G a_queue a_queue_who queue_length queue_who x1 r_3 hg) hy_X7_placeOf ml_X11_175 hd_X7_placeOf ⟨by omega, by omega⟩ rfl [3, 4] rfl rfl 3 rfl rfl (w_T_enter G a_this a_crowd a_queue a_text a_judge a_deeds a_mendings a_picture a_shelves a_books a_thoughts a_heads a_crowd_heights a_queue_who a_text_tape a_text_reader a_text_steps a_text_worked a_judge_known a_deeds_kept a_deeds_numbers a_deeds_changes a_deeds_greatest a_deeds_kept_e a_deeds_kept_e_who hasPicture crowd_people crowd_heights queue_length queue_who text_fed text_length text_top text_steps text_worked judge_known deeds_first deeds_size deeds_kept_e_length deeds_kept_e_who deeds_numbers deeds_changes deeds_greatest) [none, none, none, some 0, some 1, none, none, none, none, none, none, none, none, none, none, none, none, none, none, none, none, none, none, none, none, none, none, none, none, none, none, none, none, none, none, none, none, none, none] rfl (by decide +kernel) rfl rfl (Nat.le_of_ble_eq_true rfl) dX11_enter_33 (fun hz_4 => ?_)
        refine z_if_lt F 42 dX11_enter_36 (by decide) hf (fun hf _ => ?_) (fun hf _ => ?_)
        · refine z_aload_n F 0 dX11_enter_42 rfl rfl ?_
          refine z_get F 0 11 4 inlX11 rfl rfl (by decide) fl_X11_44 rfl dX11_enter_43 ?_
          refine z_aload_n F 0 dX11_enter_46 rfl rfl ?_
          refine z_get F 0 11 1 inlX11 rfl rfl (by decide) fl_X11_19 rfl dX11_enter_47 ?_
          obtain ⟨deeds_first_5, deeds_size_6, text_top_7, text_worked_8, judge_known_9, deeds_kept_e_length_10, deeds_kept_e_who_11, deeds_numbers_12, hg, hf⟩ := zb8_some hf
          refine z_callVm (rest := []) F 2 (c_Deeds_begin (xL X) G a_deeds a_judge a_deeds_kept a_deeds_numbers a_deeds_changes a_deeds_greatest a_crowd a_text a_judge_known a_crowd_heights a_text_tape a_text_reader a_text_steps a_text_worked a_deeds_kept_e a_deeds_kept_e_who a_queue a_queue_who deeds_first deeds_size crowd_people crowd_heights text_fed text_length text_top text_steps text_worked judge_known deeds_kept_e_length deeds_kept_e_who deeds_numbers queue_length queue_who deeds_first_5 deeds_size_6 text_top_7 text_worked_8 judge_known_9 deeds_kept_e_length_10 deeds_kept_e_who_11 deeds_numbers_12 hg) hy_X2_begin ml_X11_165 hd_X2_begin ⟨by omega, by omega⟩ rfl [10, 8, 1, 2, 5, 6, 7, 9, 11, 12, 13, 14, 15, 16, 17, 18, 19, 20, 21, 22, 23, 24, 25, 26, 27, 28, 29, 30, 31, 32, 33, 34, 35, 36, 3, 4] rfl rfl 10 rfl rfl (w_T_enter G a_this a_crowd a_queue a_text a_judge a_deeds a_mendings a_picture a_shelves a_books a_thoughts a_heads a_crowd_heights a_queue_who a_text_tape a_text_reader a_text_steps a_text_worked a_judge_known a_deeds_kept a_deeds_numbers a_deeds_changes a_deeds_greatest a_deeds_kept_e a_deeds_kept_e_who hasPicture crowd_people crowd_heights queue_length queue_who text_fed text_length text_top_7 text_steps text_worked_8 judge_known_9 deeds_first_5 deeds_size_6 deeds_kept_e_length_10 deeds_kept_e_who_11 deeds_numbers_12 deeds_changes deeds_greatest) [none, some 2, some 3, some 34, some 35, some 4, some 5, some 6, some 1, some 7, some 0, some 8, some 9, some 10, some 11, some 12, some 13, some 14, some 15, some 16, some 17, some 18, some 19, some 20, some 21, some 22, some 23, some 24, some 25, some 26, some 27, some 28, some 29, some 30, some 31, some 32, some 33, none, none] rfl (by decide +kernel) rfl rfl (Nat.le_of_ble_eq_true rfl) dX11_enter_50 (fun hz_13 => ?_)
          refine z_aload_n F 0 dX11_enter_53 rfl rfl ?_
          refine z_get F 0 11 1 inlX11 rfl rfl (by decide) fl_X11_19 rfl dX11_enter_54 ?_
          refine z_iload_n F 1 dX11_enter_57 rfl rfl ?_
          refine z_iload_n F 2 dX11_enter_58 rfl rfl ?_
          obtain ⟨queue_length_14, queue_who_15, hg, hf⟩ := zb2_some hf
          refine z_callVm (rest := []) F 7 (c_Line_insert (xL X) G a_queue a_queue_who queue_length queue_who x1 x2 queue_length_14 queue_who_15 hg) hy_X7_insert ml_X11_98 hd_X7_insert ⟨by omega, by omega⟩ rfl [3, 4] rfl rfl 3 rfl rfl (w_T_enter G a_this a_crowd a_queue a_text a_judge a_deeds a_mendings a_picture a_shelves a_books a_thoughts a_heads a_crowd_heights a_queue_who a_text_tape a_text_reader a_text_steps a_text_worked a_judge_known a_deeds_kept a_deeds_numbers a_deeds_changes a_deeds_greatest a_deeds_kept_e a_deeds_kept_e_who hasPicture crowd_people crowd_heights queue_length_14 queue_who_15 text_fed text_length text_top_7 text_steps text_worked_8 judge_known_9 deeds_first_5 deeds_size_6 deeds_kept_e_length_10 deeds_kept_e_who_11 deeds_numbers_12 deeds_changes deeds_greatest) [none, none, none, some 0, some 1, none, none, none, none, none, none, none, none, none, none, none, none, none, none, none, none, none, none, none, none, none, none, none, none, none, none, none, none, none, none, none, none, none, none] rfl (by decide +kernel) rfl rfl (Nat.le_of_ble_eq_true rfl) dX11_enter_59 (fun hz_16 => ?_)
          refine z_aload_n F 0 dX11_enter_62 rfl rfl ?_
          refine z_get F 0 11 4 inlX11 rfl rfl (by decide) fl_X11_44 rfl dX11_enter_63 ?_
          refine z_aload_n F 0 dX11_enter_66 rfl rfl ?_
          refine z_get F 0 11 1 inlX11 rfl rfl (by decide) fl_X11_19 rfl dX11_enter_67 ?_
          obtain ⟨text_top_17, text_worked_18, judge_known_19, deeds_changes_20, deeds_greatest_21, hg, hf⟩ := zb5_some hf
          refine z_callVm (rest := []) F 2 (c_Deeds_end (xL X) G a_deeds a_judge a_deeds_kept a_deeds_numbers a_deeds_changes a_deeds_greatest a_crowd a_text a_judge_known a_crowd_heights a_text_tape a_text_reader a_text_steps a_text_worked a_queue a_queue_who deeds_first_5 deeds_size_6 crowd_people crowd_heights text_fed text_length text_top_7 text_steps text_worked_8 judge_known_9 deeds_numbers_12 deeds_changes deeds_greatest queue_length_14 queue_who_15 text_top_17 text_worked_18 judge_known_19 deeds_changes_20 deeds_greatest_21 hg) hy_X2_end ml_X11_172 hd_X2_end ⟨by omega, by omega⟩ rfl [10, 8, 1, 2, 5, 6, 7, 9, 36, 37, 38, 3, 4] rfl rfl 10 rfl rfl (w_T_enter G a_this a_crowd a_queue a_text a_judge a_deeds a_mendings a_picture a_shelves a_books a_thoughts a_heads a_crowd_heights a_queue_who a_text_tape a_text_reader a_text_steps a_text_worked a_judge_known a_deeds_kept a_deeds_numbers a_deeds_changes a_deeds_greatest a_deeds_kept_e a_deeds_kept_e_who hasPicture crowd_people crowd_heights queue_length_14 queue_who_15 text_fed text_length text_top_17 text_steps text_worked_18 judge_known_19 deeds_first_5 deeds_size_6 deeds_kept_e_length_10 deeds_kept_e_who_11 deeds_numbers_12 deeds_changes_20 deeds_greatest_21) [none, some 2, some 3, some 11, some 12, some 4, some 5, some 6, some 1, some 7, some 0, none, none, none, none, none, none, none, none, none, none, none, none, none, none, none, none, none, none, none, none, none, none, none, none, none, some 8, some 9, some 10] rfl (by decide +kernel) rfl rfl (Nat.le_of_ble_eq_true rfl) dX11_enter_70 (fun hz_22 => ?_)
          refine z_aload_n F 0 dX11_enter_73 rfl rfl ?_
          refine z_get F 0 11 3 inlX11 rfl rfl (by decide) fl_X11_35 rfl dX11_enter_74 ?_
          refine z_aload_n F 0 dX11_enter_77 rfl rfl ?_
          refine z_get F 0 11 1 inlX11 rfl rfl (by decide) fl_X11_19 rfl dX11_enter_78 ?_
          obtain ⟨r_23, text_top_24, text_worked_25, judge_known_26, hg, hf⟩ := zb4_some hf
          refine z_callVm (rest := []) F 4 (c_Judge_disquietOf (xL X) G a_judge a_crowd a_text a_judge_known a_crowd_heights a_text_tape a_text_reader a_text_steps a_text_worked a_queue a_queue_who crowd_people crowd_heights text_fed text_length text_top_17 text_steps text_worked_18 judge_known_19 queue_length_14 queue_who_15 r_23 text_top_24 text_worked_25 judge_known_26 hg) hy_X4_disquietOf ml_X11_155 hd_X4_disquietOf ⟨by omega, by omega⟩ rfl [8, 1, 2, 5, 6, 7, 9, 3, 4] rfl rfl 8 rfl rfl (w_T_enter G a_this a_crowd a_queue a_text a_judge a_deeds a_mendings a_picture a_shelves a_books a_thoughts a_heads a_crowd_heights a_queue_who a_text_tape a_text_reader a_text_steps a_text_worked a_judge_known a_deeds_kept a_deeds_numbers a_deeds_changes a_deeds_greatest a_deeds_kept_e a_deeds_kept_e_who hasPicture crowd_people crowd_heights queue_length_14 queue_who_15 text_fed text_length text_top_24 text_steps text_worked_25 judge_known_26 deeds_first_5 deeds_size_6 deeds_kept_e_length_10 deeds_kept_e_who_11 deeds_numbers_12 deeds_changes_20 deeds_greatest_21) [none, some 1, some 2, some 7, some 8, some 3, some 4, some 5, some 0, some 6, none, none, none, none, none, none, none, none, none, none, none, none, none, none, none, none, none, none, none, none, none, none, none, none, none, none, none, none, none] rfl (by decide +kernel) rfl rfl (Nat.le_of_ble_eq_true rfl) dX11_enter_81 (fun hz_27 => ?_)
          have eq1 := Option.some.inj hf
          obtain ⟨ee1, eq2⟩ := Prod.mk.inj eq1
          obtain ⟨ee2, eq3⟩ := Prod.mk.inj eq2
          obtain ⟨ee3, eq4⟩ := Prod.mk.inj eq3
          obtain ⟨ee4, eq5⟩ := Prod.mk.inj eq4
          obtain ⟨ee5, eq6⟩ := Prod.mk.inj eq5
          obtain ⟨ee6, eq7⟩ := Prod.mk.inj eq6
          obtain ⟨ee7, eq8⟩ := Prod.mk.inj eq7
          obtain ⟨ee8, eq9⟩ := Prod.mk.inj eq8
          obtain ⟨ee9, eq10⟩ := Prod.mk.inj eq9
          obtain ⟨ee10, eq11⟩ := Prod.mk.inj eq10
          obtain ⟨ee11, eq12⟩ := Prod.mk.inj eq11
          obtain ⟨ee12, ee13⟩ := Prod.mk.inj eq12
          subst ee1
          subst ee2
          subst ee3
          subst ee4
          subst ee5
          subst ee6
          subst ee7
          subst ee8
          subst ee9
          subst ee10
          subst ee11
          subst ee12
          subst ee13
          exact z_iret F rfl rfl rfl rfl dX11_enter_84
        · refine z_bipush F (-5) dX11_enter_39 rfl ?_
          have eq1 := Option.some.inj hf
          obtain ⟨ee1, eq2⟩ := Prod.mk.inj eq1
          obtain ⟨ee2, eq3⟩ := Prod.mk.inj eq2
          obtain ⟨ee3, eq4⟩ := Prod.mk.inj eq3
          obtain ⟨ee4, eq5⟩ := Prod.mk.inj eq4
          obtain ⟨ee5, eq6⟩ := Prod.mk.inj eq5
          obtain ⟨ee6, eq7⟩ := Prod.mk.inj eq6
          obtain ⟨ee7, eq8⟩ := Prod.mk.inj eq7
          obtain ⟨ee8, eq9⟩ := Prod.mk.inj eq8
          obtain ⟨ee9, eq10⟩ := Prod.mk.inj eq9
          obtain ⟨ee10, eq11⟩ := Prod.mk.inj eq10
          obtain ⟨ee11, eq12⟩ := Prod.mk.inj eq11
          obtain ⟨ee12, ee13⟩ := Prod.mk.inj eq12
          subst ee1
          subst ee2
          subst ee3
          subst ee4
          subst ee5
          subst ee6
          subst ee7
          subst ee8
          subst ee9
          subst ee10
          subst ee11
          subst ee12
          subst ee13
          exact z_iret F rfl rfl rfl rfl dX11_enter_41
      · refine z_iconst F (-1) dX11_enter_26 rfl ?_
        have eq1 := Option.some.inj hf
        obtain ⟨ee1, eq2⟩ := Prod.mk.inj eq1
        obtain ⟨ee2, eq3⟩ := Prod.mk.inj eq2
        obtain ⟨ee3, eq4⟩ := Prod.mk.inj eq3
        obtain ⟨ee4, eq5⟩ := Prod.mk.inj eq4
        obtain ⟨ee5, eq6⟩ := Prod.mk.inj eq5
        obtain ⟨ee6, eq7⟩ := Prod.mk.inj eq6
        obtain ⟨ee7, eq8⟩ := Prod.mk.inj eq7
        obtain ⟨ee8, eq9⟩ := Prod.mk.inj eq8
        obtain ⟨ee9, eq10⟩ := Prod.mk.inj eq9
        obtain ⟨ee10, eq11⟩ := Prod.mk.inj eq10
        obtain ⟨ee11, eq12⟩ := Prod.mk.inj eq11
        obtain ⟨ee12, ee13⟩ := Prod.mk.inj eq12
        subst ee1
        subst ee2
        subst ee3
        subst ee4
        subst ee5
        subst ee6
        subst ee7
        subst ee8
        subst ee9
        subst ee10
        subst ee11
        subst ee12
        subst ee13
        exact z_iret F rfl rfl rfl rfl dX11_enter_27

