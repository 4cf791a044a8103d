/-! by program (wip/whole/gen.py): pure functions and contracts -/
theorem dX11_takeOut_0 : decode cX11_takeOut 0 = .ok (.aload_n 0, 1) := by decide +kernel
theorem dX11_takeOut_1 : decode cX11_takeOut 1 = .ok (.getfield 44, 3) := by decide +kernel
theorem dX11_takeOut_4 : decode cX11_takeOut 4 = .ok (.aload_n 0, 1) := by decide +kernel
theorem dX11_takeOut_5 : decode cX11_takeOut 5 = .ok (.getfield 19, 3) := by decide +kernel
theorem dX11_takeOut_8 : decode cX11_takeOut 8 = .ok (.invokevirtual 165, 3) := by decide +kernel
theorem dX11_takeOut_11 : decode cX11_takeOut 11 = .ok (.aload_n 0, 1) := by decide +kernel
theorem dX11_takeOut_12 : decode cX11_takeOut 12 = .ok (.getfield 19, 3) := by decide +kernel
theorem dX11_takeOut_15 : decode cX11_takeOut 15 = .ok (.iload_n 1, 1) := by decide +kernel
theorem dX11_takeOut_16 : decode cX11_takeOut 16 = .ok (.invokevirtual 388, 3) := by decide +kernel
theorem dX11_takeOut_19 : decode cX11_takeOut 19 = .ok (.istore_n 2, 1) := by decide +kernel
theorem dX11_takeOut_20 : decode cX11_takeOut 20 = .ok (.aload_n 0, 1) := by decide +kernel
theorem dX11_takeOut_21 : decode cX11_takeOut 21 = .ok (.getfield 44, 3) := by decide +kernel
theorem dX11_takeOut_24 : decode cX11_takeOut 24 = .ok (.aload_n 0, 1) := by decide +kernel
theorem dX11_takeOut_25 : decode cX11_takeOut 25 = .ok (.getfield 19, 3) := by decide +kernel
theorem dX11_takeOut_28 : decode cX11_takeOut 28 = .ok (.invokevirtual 172, 3) := by decide +kernel
theorem dX11_takeOut_31 : decode cX11_takeOut 31 = .ok (.iload_n 2, 1) := by decide +kernel
theorem dX11_takeOut_32 : decode cX11_takeOut 32 = .ok (.ireturn, 1) := by decide +kernel
theorem dX11_leave_0 : decode cX11_leave 0 = .ok (.aload_n 0, 1) := by decide +kernel
theorem dX11_leave_1 : decode cX11_leave 1 = .ok (.getfield 19, 3) := by decide +kernel
theorem dX11_leave_4 : decode cX11_leave 4 = .ok (.iload_n 1, 1) := by decide +kernel
theorem dX11_leave_5 : decode cX11_leave 5 = .ok (.invokevirtual 140, 3) := by decide +kernel
theorem dX11_leave_8 : decode cX11_leave 8 = .ok (.ifCond .ne 5, 3) := by decide +kernel
theorem dX11_leave_11 : decode cX11_leave 11 = .ok (.iconst (-1), 1) := by decide +kernel
theorem dX11_leave_12 : decode cX11_leave 12 = .ok (.ireturn, 1) := by decide +kernel
theorem dX11_leave_13 : decode cX11_leave 13 = .ok (.aload_n 0, 1) := by decide +kernel
theorem dX11_leave_14 : decode cX11_leave 14 = .ok (.iload_n 1, 1) := by decide +kernel
theorem dX11_leave_15 : decode cX11_leave 15 = .ok (.invokevirtual 178, 3) := by decide +kernel
theorem dX11_leave_18 : decode cX11_leave 18 = .ok (.ireturn, 1) := by decide +kernel
theorem dX11_serve_0 : decode cX11_serve 0 = .ok (.aload_n 0, 1) := by decide +kernel
theorem dX11_serve_1 : decode cX11_serve 1 = .ok (.getfield 19, 3) := by decide +kernel
theorem dX11_serve_4 : decode cX11_serve 4 = .ok (.invokevirtual 94, 3) := by decide +kernel
theorem dX11_serve_7 : decode cX11_serve 7 = .ok (.ifCond .ne 6, 3) := by decide +kernel
theorem dX11_serve_10 : decode cX11_serve 10 = .ok (.bipush (-5), 2) := by decide +kernel
theorem dX11_serve_12 : decode cX11_serve 12 = .ok (.ireturn, 1) := by decide +kernel
theorem dX11_serve_13 : decode cX11_serve 13 = .ok (.aload_n 0, 1) := by decide +kernel
theorem dX11_serve_14 : decode cX11_serve 14 = .ok (.iconst 0, 1) := by decide +kernel
theorem dX11_serve_15 : decode cX11_serve 15 = .ok (.invokevirtual 178, 3) := by decide +kernel
theorem dX11_serve_18 : decode cX11_serve 18 = .ok (.ireturn, 1) := by decide +kernel
theorem dX11_grow_0 : decode cX11_grow 0 = .ok (.aload_n 0, 1) := by decide +kernel
theorem dX11_grow_1 : decode cX11_grow 1 = .ok (.getfield 10, 3) := by decide +kernel
theorem dX11_grow_4 : decode cX11_grow 4 = .ok (.iload_n 1, 1) := by decide +kernel
theorem dX11_grow_5 : decode cX11_grow 5 = .ok (.invokevirtual 119, 3) := by decide +kernel
theorem dX11_grow_8 : decode cX11_grow 8 = .ok (.ifCond .eq 14, 3) := by decide +kernel
theorem dX11_grow_11 : decode cX11_grow 11 = .ok (.iload_n 2, 1) := by decide +kernel
theorem dX11_grow_12 : decode cX11_grow 12 = .ok (.iconst 1, 1) := by decide +kernel
theorem dX11_grow_13 : decode cX11_grow 13 = .ok (.if_icmp .lt 9, 3) := by decide +kernel
theorem dX11_grow_16 : decode cX11_grow 16 = .ok (.iload_n 2, 1) := by decide +kernel
theorem dX11_grow_17 : decode cX11_grow 17 = .ok (.bipush 20, 2) := by decide +kernel
theorem dX11_grow_19 : decode cX11_grow 19 = .ok (.if_icmp .le 5, 3) := by decide +kernel
theorem dX11_grow_22 : decode cX11_grow 22 = .ok (.iconst (-1), 1) := by decide +kernel
theorem dX11_grow_23 : decode cX11_grow 23 = .ok (.ireturn, 1) := by decide +kernel
theorem dX11_grow_24 : decode cX11_grow 24 = .ok (.aload_n 0, 1) := by decide +kernel
theorem dX11_grow_25 : decode cX11_grow 25 = .ok (.getfield 10, 3) := by decide +kernel
theorem dX11_grow_28 : decode cX11_grow 28 = .ok (.iload_n 1, 1) := by decide +kernel
theorem dX11_grow_29 : decode cX11_grow 29 = .ok (.iload_n 2, 1) := by decide +kernel
theorem dX11_grow_30 : decode cX11_grow 30 = .ok (.invokevirtual 181, 3) := by decide +kernel
theorem dX11_grow_33 : decode cX11_grow 33 = .ok (.istore_n 3, 1) := by decide +kernel
theorem dX11_grow_34 : decode cX11_grow 34 = .ok (.aload_n 0, 1) := by decide +kernel
theorem dX11_grow_35 : decode cX11_grow 35 = .ok (.getfield 10, 3) := by decide +kernel
theorem dX11_grow_38 : decode cX11_grow 38 = .ok (.iload_n 3, 1) := by decide +kernel
theorem dX11_grow_39 : decode cX11_grow 39 = .ok (.iload_n 1, 1) := by decide +kernel
theorem dX11_grow_40 : decode cX11_grow 40 = .ok (.invokevirtual 122, 3) := by decide +kernel
theorem dX11_grow_43 : decode cX11_grow 43 = .ok (.ifCond .ne 5, 3) := by decide +kernel
theorem dX11_grow_46 : decode cX11_grow 46 = .ok (.iconst (-1), 1) := by decide +kernel
theorem dX11_grow_47 : decode cX11_grow 47 = .ok (.ireturn, 1) := by decide +kernel
theorem dX11_grow_48 : decode cX11_grow 48 = .ok (.aload_n 0, 1) := by decide +kernel
theorem dX11_grow_49 : decode cX11_grow 49 = .ok (.getfield 44, 3) := by decide +kernel
theorem dX11_grow_52 : decode cX11_grow 52 = .ok (.aload_n 0, 1) := by decide +kernel
theorem dX11_grow_53 : decode cX11_grow 53 = .ok (.getfield 19, 3) := by decide +kernel
theorem dX11_grow_56 : decode cX11_grow 56 = .ok (.invokevirtual 165, 3) := by decide +kernel
theorem dX11_grow_59 : decode cX11_grow 59 = .ok (.aload_n 0, 1) := by decide +kernel
theorem dX11_grow_60 : decode cX11_grow 60 = .ok (.iload_n 1, 1) := by decide +kernel
theorem dX11_grow_61 : decode cX11_grow 61 = .ok (.iload_n 3, 1) := by decide +kernel
theorem dX11_grow_62 : decode cX11_grow 62 = .ok (.invokevirtual 133, 3) := by decide +kernel
theorem dX11_grow_65 : decode cX11_grow 65 = .ok (.aload_n 0, 1) := by decide +kernel
theorem dX11_grow_66 : decode cX11_grow 66 = .ok (.getfield 44, 3) := by decide +kernel
theorem dX11_grow_69 : decode cX11_grow 69 = .ok (.aload_n 0, 1) := by decide +kernel
theorem dX11_grow_70 : decode cX11_grow 70 = .ok (.getfield 19, 3) := by decide +kernel
theorem dX11_grow_73 : decode cX11_grow 73 = .ok (.invokevirtual 172, 3) := by decide +kernel
theorem dX11_grow_76 : decode cX11_grow 76 = .ok (.iload_n 3, 1) := by decide +kernel
theorem dX11_grow_77 : decode cX11_grow 77 = .ok (.ireturn, 1) := by decide +kernel
theorem dX11_restore_0 : decode cX11_restore 0 = .ok (.aload_n 0, 1) := by decide +kernel
theorem dX11_restore_1 : decode cX11_restore 1 = .ok (.getfield 61, 3) := by decide +kernel
theorem dX11_restore_4 : decode cX11_restore 4 = .ok (.iload_n 1, 1) := by decide +kernel
theorem dX11_restore_5 : decode cX11_restore 5 = .ok (.invokevirtual 102, 3) := by decide +kernel
theorem dX11_restore_8 : decode cX11_restore 8 = .ok (.ifCond .ne 5, 3) := by decide +kernel
theorem dX11_restore_11 : decode cX11_restore 11 = .ok (.iconst (-1), 1) := by decide +kernel
theorem dX11_restore_12 : decode cX11_restore 12 = .ok (.ireturn, 1) := by decide +kernel
theorem dX11_restore_13 : decode cX11_restore 13 = .ok (.aload_n 0, 1) := by decide +kernel
theorem dX11_restore_14 : decode cX11_restore 14 = .ok (.getfield 70, 3) := by decide +kernel
theorem dX11_restore_17 : decode cX11_restore 17 = .ok (.iload_n 1, 1) := by decide +kernel
theorem dX11_restore_18 : decode cX11_restore 18 = .ok (.aload_n 0, 1) := by decide +kernel
theorem dX11_restore_19 : decode cX11_restore 19 = .ok (.getfield 19, 3) := by decide +kernel
theorem dX11_restore_22 : decode cX11_restore 22 = .ok (.invokevirtual 184, 3) := by decide +kernel
theorem dX11_restore_25 : decode cX11_restore 25 = .ok (.istore_n 2, 1) := by decide +kernel
theorem dX11_restore_26 : decode cX11_restore 26 = .ok (.iload_n 2, 1) := by decide +kernel
theorem dX11_restore_27 : decode cX11_restore 27 = .ok (.ifCond .eq 5, 3) := by decide +kernel
theorem dX11_restore_30 : decode cX11_restore 30 = .ok (.iload_n 2, 1) := by decide +kernel
theorem dX11_restore_31 : decode cX11_restore 31 = .ok (.ireturn, 1) := by decide +kernel
theorem dX11_restore_32 : decode cX11_restore 32 = .ok (.aload_n 0, 1) := by decide +kernel
theorem dX11_restore_33 : decode cX11_restore 33 = .ok (.getfield 44, 3) := by decide +kernel
theorem dX11_restore_36 : decode cX11_restore 36 = .ok (.aload_n 0, 1) := by decide +kernel
theorem dX11_restore_37 : decode cX11_restore 37 = .ok (.getfield 19, 3) := by decide +kernel
theorem dX11_restore_40 : decode cX11_restore 40 = .ok (.invokevirtual 165, 3) := by decide +kernel
theorem dX11_restore_43 : decode cX11_restore 43 = .ok (.aload_n 0, 1) := by decide +kernel
theorem dX11_restore_44 : decode cX11_restore 44 = .ok (.getfield 19, 3) := by decide +kernel
theorem dX11_restore_47 : decode cX11_restore 47 = .ok (.aload_n 0, 1) := by decide +kernel
theorem dX11_restore_48 : decode cX11_restore 48 = .ok (.getfield 70, 3) := by decide +kernel
theorem dX11_restore_51 : decode cX11_restore 51 = .ok (.aload_n 0, 1) := by decide +kernel
theorem dX11_restore_52 : decode cX11_restore 52 = .ok (.getfield 19, 3) := by decide +kernel
theorem dX11_restore_55 : decode cX11_restore 55 = .ok (.invokevirtual 188, 3) := by decide +kernel
theorem dX11_restore_58 : decode cX11_restore 58 = .ok (.invokevirtual 192, 3) := by decide +kernel
theorem dX11_restore_61 : decode cX11_restore 61 = .ok (.aload_n 0, 1) := by decide +kernel
theorem dX11_restore_62 : decode cX11_restore 62 = .ok (.getfield 44, 3) := by decide +kernel
theorem dX11_restore_65 : decode cX11_restore 65 = .ok (.aload_n 0, 1) := by decide +kernel
theorem dX11_restore_66 : decode cX11_restore 66 = .ok (.getfield 19, 3) := by decide +kernel
theorem dX11_restore_69 : decode cX11_restore 69 = .ok (.invokevirtual 172, 3) := by decide +kernel
theorem dX11_restore_72 : decode cX11_restore 72 = .ok (.iconst 1, 1) := by decide +kernel
theorem dX11_restore_73 : decode cX11_restore 73 = .ok (.ireturn, 1) := by decide +kernel
theorem fl_X11_70 : Cond.fieldLink RX11 70 (TX11 9).1 (TX11 9).2.1 (TX11 9).2.2.1 ∈ wsL_law := (uw2 _ (List.mem_of_getElem? (i := 21) rfl))
theorem hy_X0_lineRestored : Cond.code yX0_lineRestored cX0_lineRestored 3 (some (.object "TallerAhead$Line")) ∈ wsL_law ∧ Cond.initialized yX0_lineRestored.cls ∈ wsL_law ∧ Cond.instanceMethod yX0_lineRestored ∈ wsL_law ∧ Cond.selects yX0_lineRestored.cls yX0_lineRestored yX0_lineRestored ∈ wsL_law := ⟨(uw33 _ (List.mem_of_getElem? (i := 8) rfl)), (uw2 _ (List.mem_of_getElem? (i := 20) rfl)), (uw33 _ (List.mem_of_getElem? (i := 6) rfl)), (uw33 _ (List.mem_of_getElem? (i := 7) rfl))⟩
theorem hd_X0_lineRestored : yX0_lineRestored.cls ≠ "java/lang/invoke/MethodHandle" ∧ yX0_lineRestored.cls ≠ "java/lang/invoke/VarHandle" ∧ (parseMethodDescriptor yX0_lineRestored.desc).map (fun d => d.parameters.length) = some 1 := ⟨by decide +kernel, by decide +kernel, by decide +kernel⟩
theorem hy_X0_refusalToRestore : Cond.code yX0_refusalToRestore cX0_refusalToRestore 4 (some .int) ∈ wsL_law ∧ Cond.initialized yX0_refusalToRestore.cls ∈ wsL_law ∧ Cond.instanceMethod yX0_refusalToRestore ∈ wsL_law ∧ Cond.selects yX0_refusalToRestore.cls yX0_refusalToRestore yX0_refusalToRestore ∈ wsL_law := ⟨(uw32 _ (List.mem_of_getElem? (i := 6) rfl)), (uw2 _ (List.mem_of_getElem? (i := 20) rfl)), (uw32 _ (List.mem_of_getElem? (i := 4) rfl)), (uw32 _ (List.mem_of_getElem? (i := 5) rfl))⟩
theorem hd_X0_refusalToRestore : yX0_refusalToRestore.cls ≠ "java/lang/invoke/MethodHandle" ∧ yX0_refusalToRestore.cls ≠ "java/lang/invoke/VarHandle" ∧ (parseMethodDescriptor yX0_refusalToRestore.desc).map (fun d => d.parameters.length) = some 2 := ⟨by decide +kernel, by decide +kernel, by decide +kernel⟩
theorem hy_X11_takeOut : Cond.code yX11_takeOut cX11_takeOut 3 (some .int) ∈ wsL_law ∧ Cond.initialized yX11_takeOut.cls ∈ wsL_law ∧ Cond.instanceMethod yX11_takeOut ∈ wsL_law ∧ Cond.selects yX11_takeOut.cls yX11_takeOut yX11_takeOut ∈ wsL_law := ⟨(uw30 _ (List.mem_of_getElem? (i := 15) rfl)), (uw1 _ (List.mem_of_getElem? (i := 2) rfl)), (uw30 _ (List.mem_of_getElem? (i := 13) rfl)), (uw30 _ (List.mem_of_getElem? (i := 14) rfl))⟩
theorem hd_X11_takeOut : yX11_takeOut.cls ≠ "java/lang/invoke/MethodHandle" ∧ yX11_takeOut.cls ≠ "java/lang/invoke/VarHandle" ∧ (parseMethodDescriptor yX11_takeOut.desc).map (fun d => d.parameters.length) = some 1 := ⟨by decide +kernel, by decide +kernel, by decide +kernel⟩
theorem hy_X1_heightGrown : Cond.code yX1_heightGrown cX1_heightGrown 5 (some .int) ∈ wsL_law ∧ Cond.initialized yX1_heightGrown.cls ∈ wsL_law ∧ Cond.instanceMethod yX1_heightGrown ∈ wsL_law ∧ Cond.selects yX1_heightGrown.cls yX1_heightGrown yX1_heightGrown ∈ wsL_law := ⟨(uw31 _ (List.mem_of_getElem? (i := 16) rfl)), (uw1 _ (List.mem_of_getElem? (i := 15) rfl)), (uw31 _ (List.mem_of_getElem? (i := 14) rfl)), (uw31 _ (List.mem_of_getElem? (i := 15) rfl))⟩
theorem hd_X1_heightGrown : yX1_heightGrown.cls ≠ "java/lang/invoke/MethodHandle" ∧ yX1_heightGrown.cls ≠ "java/lang/invoke/VarHandle" ∧ (parseMethodDescriptor yX1_heightGrown.desc).map (fun d => d.parameters.length) = some 2 := ⟨by decide +kernel, by decide +kernel, by decide +kernel⟩
theorem ml_X11_178 : Cond.methodLink RX11 178 yX11_takeOut ∈ wsL_law := (uw30 _ (List.mem_of_getElem? (i := 12) rfl))
theorem ml_X11_181 : Cond.methodLink RX11 181 yX1_heightGrown ∈ wsL_law := (uw31 _ (List.mem_of_getElem? (i := 13) rfl))
theorem ml_X11_184 : Cond.methodLink RX11 184 yX0_refusalToRestore ∈ wsL_law := (uw32 _ (List.mem_of_getElem? (i := 3) rfl))
theorem ml_X11_188 : Cond.methodLink RX11 188 yX0_lineRestored ∈ wsL_law := (uw33 _ (List.mem_of_getElem? (i := 5) rfl))
theorem ml_X11_192 : Cond.methodLink RX11 192 yX7_copyFrom ∈ wsL_law := (uw33 _ (List.mem_of_getElem? (i := 21) rfl))
theorem ml_X11_388 : Cond.methodLink RX11 388 yX7_removeAt ∈ wsL_law := (uw30 _ (List.mem_of_getElem? (i := 16) rfl))
abbrev w_T_takeOut (G : zG) (a_this : Nat) (a_crowd : Nat) (a_queue : Nat) (a_text : Nat) (a_judge : Nat) (a_deeds : Nat) (a_mendings : Nat) (a_picture : Nat) (a_shelves : Nat) (a_books : Nat) (a_thoughts : Nat) (a_heads : Nat) (a_crowd_heights : Nat) (a_queue_who : Nat) (a_text_tape : Nat) (a_text_reader : Nat) (a_text_steps : Nat) (a_text_worked : Nat) (a_judge_known : Nat) (a_deeds_kept : Nat) (a_deeds_numbers : Nat) (a_deeds_changes : Nat) (a_deeds_greatest : Nat) (a_deeds_kept_e : Nat → Nat) (a_deeds_kept_e_who : Nat → Nat) (hasPicture : Int32) (crowd_people : Int32) (crowd_heights : Nat → Int32) (queue_length : Int32) (queue_who : Nat → Int32) (text_fed : Int32) (text_length : Int32) (text_top : Int32) (text_steps : Nat → Int32) (text_worked : Nat → Int32) (judge_known : Nat → Int32) (deeds_first : Int32) (deeds_size : Int32) (deeds_kept_e_length : Nat → Int32) (deeds_kept_e_who : Nat → (Nat → Int32)) (deeds_numbers : Nat → Int32) (deeds_changes : Nat → Int32) (deeds_greatest : Nat → Int32) : va_W := [(a_this, cO 11 [.ref a_crowd, .ref a_queue, .ref a_text, .ref a_judge, .ref a_deeds, .ref a_mendings, .ref a_picture, .int hasPicture, .ref a_shelves, .ref a_books, .ref a_thoughts, .ref a_heads]), (a_crowd, cO 1 [.ref a_crowd_heights, .int crowd_people]), (a_crowd_heights, cI G 9 crowd_heights), (a_queue, cO 7 [.ref a_queue_who, .int queue_length]), (a_queue_who, cI G 9 queue_who), (a_text, cO 5 [.ref a_text_tape, .int text_fed, .ref a_text_reader, .ref a_text_steps, .int text_length, .ref a_text_worked, .int text_top]), (a_text_steps, cI G 121 text_steps), (a_text_worked, cI G 121 text_worked), (a_judge, cO 4 [.ref a_crowd, .ref a_text, .ref a_judge_known]), (a_judge_known, cB G 729 judge_known), (a_deeds, cO 2 [.ref a_judge, .ref a_deeds_kept, .int deeds_first, .int deeds_size, .ref a_deeds_numbers, .ref a_deeds_changes, .ref a_deeds_greatest]), (a_deeds_kept, cL G 12 (fun j => some (a_deeds_kept_e j))), ((a_deeds_kept_e 0), cO 7 [.ref (a_deeds_kept_e_who 0), .int (deeds_kept_e_length 0)]), ((a_deeds_kept_e_who 0), cI G 9 (deeds_kept_e_who 0)), ((a_deeds_kept_e 1), cO 7 [.ref (a_deeds_kept_e_who 1), .int (deeds_kept_e_length 1)]), ((a_deeds_kept_e_who 1), cI G 9 (deeds_kept_e_who 1)), ((a_deeds_kept_e 2), cO 7 [.ref (a_deeds_kept_e_who 2), .int (deeds_kept_e_length 2)]), ((a_deeds_kept_e_who 2), cI G 9 (deeds_kept_e_who 2)), ((a_deeds_kept_e 3), cO 7 [.ref (a_deeds_kept_e_who 3), .int (deeds_kept_e_length 3)]), ((a_deeds_kept_e_who 3), cI G 9 (deeds_kept_e_who 3)), ((a_deeds_kept_e 4), cO 7 [.ref (a_deeds_kept_e_who 4), .int (deeds_kept_e_length 4)]), ((a_deeds_kept_e_who 4), cI G 9 (deeds_kept_e_who 4)), ((a_deeds_kept_e 5), cO 7 [.ref (a_deeds_kept_e_who 5), .int (deeds_kept_e_length 5)]), ((a_deeds_kept_e_who 5), cI G 9 (deeds_kept_e_who 5)), ((a_deeds_kept_e 6), cO 7 [.ref (a_deeds_kept_e_who 6), .int (deeds_kept_e_length 6)]), ((a_deeds_kept_e_who 6), cI G 9 (deeds_kept_e_who 6)), ((a_deeds_kept_e 7), cO 7 [.ref (a_deeds_kept_e_who 7), .int (deeds_kept_e_length 7)]), ((a_deeds_kept_e_who 7), cI G 9 (deeds_kept_e_who 7)), ((a_deeds_kept_e 8), cO 7 [.ref (a_deeds_kept_e_who 8), .int (deeds_kept_e_length 8)]), ((a_deeds_kept_e_who 8), cI G 9 (deeds_kept_e_who 8)), ((a_deeds_kept_e 9), cO 7 [.ref (a_deeds_kept_e_who 9), .int (deeds_kept_e_length 9)]), ((a_deeds_kept_e_who 9), cI G 9 (deeds_kept_e_who 9)), ((a_deeds_kept_e 10), cO 7 [.ref (a_deeds_kept_e_who 10), .int (deeds_kept_e_length 10)]), ((a_deeds_kept_e_who 10), cI G 9 (deeds_kept_e_who 10)), ((a_deeds_kept_e 11), cO 7 [.ref (a_deeds_kept_e_who 11), .int (deeds_kept_e_length 11)]), ((a_deeds_kept_e_who 11), cI G 9 (deeds_kept_e_who 11)), (a_deeds_numbers, cI G 9 deeds_numbers), (a_deeds_changes, cI G 9 deeds_changes), (a_deeds_greatest, cI G 9 deeds_greatest)]
def f_T_takeOut (crowd_people : Int32) (crowd_heights : Nat → Int32) (queue_length : Int32) (queue_who : Nat → Int32) (text_length : Int32) (text_top : Int32) (text_steps : Nat → Int32) (text_worked : Nat → Int32) (judge_known : Nat → Int32) (deeds_first : Int32) (deeds_size : Int32) (deeds_kept_e_length : Nat → Int32) (deeds_kept_e_who : Nat → (Nat → Int32)) (deeds_numbers : Nat → Int32) (deeds_changes : Nat → Int32) (deeds_greatest : Nat → Int32) (x1 : Int32) : Option (Int32 × Int32 × (Nat → Int32) × Int32 × (Nat → Int32) × (Nat → Int32) × Int32 × Int32 × (Nat → Int32) × (Nat → (Nat → Int32)) × (Nat → Int32) × (Nat → Int32) × (Nat → Int32)) := (zb8 (f_Deeds_begin deeds_first deeds_size crowd_people crowd_heights text_length text_top text_steps text_worked judge_known deeds_kept_e_length deeds_kept_e_who deeds_numbers queue_length queue_who) fun deeds_first_1 deeds_size_2 text_top_3 text_worked_4 judge_known_5 deeds_kept_e_length_6 deeds_kept_e_who_7 deeds_numbers_8 => (zb3 (f_Line_removeAt queue_length queue_who x1) fun r_10 queue_length_11 queue_who_12 => (zb5 (f_Deeds_end crowd_people crowd_heights text_length text_top_3 text_steps text_worked_4 judge_known_5 deeds_numbers_8 deeds_changes deeds_greatest queue_length_11 queue_who_12) fun text_top_14 text_worked_15 judge_known_16 deeds_changes_17 deeds_greatest_18 => (some (r_10, queue_length_11, queue_who_12, text_top_14, text_worked_15, judge_known_16, deeds_first_1, deeds_size_2, deeds_kept_e_length_6, deeds_kept_e_who_7, deeds_numbers_8, deeds_changes_17, deeds_greatest_18)))))
set_option maxRecDepth 100000 in
set_option maxHeartbeats 4000000 in
theorem c_T_takeOut (l : Launch) (G : zG) (a_this : Nat) (a_crowd : Nat) (a_queue : Nat) (a_text : Nat) (a_judge : Nat) (a_deeds : Nat) (a_mendings : Nat) (a_picture : Nat) (a_shelves : Nat) (a_books : Nat) (a_thoughts : Nat) (a_heads : Nat) (a_crowd_heights : Nat) (a_queue_who : Nat) (a_text_tape : Nat) (a_text_reader : Nat) (a_text_steps : Nat) (a_text_worked : Nat) (a_judge_known : Nat) (a_deeds_kept : Nat) (a_deeds_numbers : Nat) (a_deeds_changes : Nat) (a_deeds_greatest : Nat) (a_deeds_kept_e : Nat → Nat) (a_deeds_kept_e_who : Nat → Nat) (hasPicture : Int32) (crowd_people : Int32) (crowd_heights : Nat → Int32) (queue_length : Int32) (queue_who : Nat → Int32) (text_fed : Int32) (text_length : Int32) (text_top : Int32) (text_steps : Nat → Int32) (text_worked : Nat → Int32) (judge_known : Nat → Int32) (deeds_first : Int32) (deeds_size : Int32) (deeds_kept_e_length : Nat → Int32) (deeds_kept_e_who : Nat → (Nat → Int32)) (deeds_numbers : Nat → Int32) (deeds_changes : Nat → Int32) (deeds_greatest : Nat → Int32) (x1 : Int32) (r_ : Int32) (o_queue_length : Int32) (o_queue_who : Nat → Int32) (o_text_top : Int32) (o_text_worked : Nat → Int32) (o_judge_known : Nat → Int32) (o_deeds_first : Int32) (o_deeds_size : Int32) (o_deeds_kept_e_length : Nat → Int32) (o_deeds_kept_e_who : Nat → (Nat → Int32)) (o_deeds_numbers : Nat → Int32) (o_deeds_changes : Nat → Int32) (o_deeds_greatest : Nat → Int32) (hf : f_T_takeOut crowd_people crowd_heights queue_length queue_who text_length text_top text_steps text_worked judge_known deeds_first deeds_size deeds_kept_e_length deeds_kept_e_who deeds_numbers deeds_changes deeds_greatest x1 = some (r_, o_queue_length, o_queue_who, o_text_top, o_text_worked, o_judge_known, o_deeds_first, o_deeds_size, o_deeds_kept_e_length, o_deeds_kept_e_who, o_deeds_numbers, o_deeds_changes, o_deeds_greatest)) : zM l yX11_takeOut cX11_takeOut 3 (some .int) 5 164 G [.ref a_this, .int x1] (w_T_takeOut G a_this a_crowd a_queue a_text a_judge a_deeds a_mendings a_picture a_shelves a_books a_thoughts a_heads a_crowd_heights a_queue_who a_text_tape a_text_reader a_text_steps a_text_worked a_judge_known a_deeds_kept a_deeds_numbers a_deeds_changes a_deeds_greatest a_deeds_kept_e a_deeds_kept_e_who hasPicture crowd_people crowd_heights queue_length queue_who text_fed text_length text_top text_steps text_worked judge_known deeds_first deeds_size deeds_kept_e_length deeds_kept_e_who deeds_numbers deeds_changes deeds_greatest) (some (.int r_)) (w_T_takeOut G a_this a_crowd a_queue a_text a_judge a_deeds a_mendings a_picture a_shelves a_books a_thoughts a_heads a_crowd_heights a_queue_who a_text_tape a_text_reader a_text_steps a_text_worked a_judge_known a_deeds_kept a_deeds_numbers a_deeds_changes a_deeds_greatest a_deeds_kept_e a_deeds_kept_e_who hasPicture crowd_people crowd_heights o_queue_length o_queue_who text_fed text_length o_text_top text_steps o_text_worked o_judge_known o_deeds_first o_deeds_size o_deeds_kept_e_length o_deeds_kept_e_who o_deeds_numbers o_deeds_changes o_deeds_greatest) := by
  refine zM.of [(0, .ref a_this), (1, .int x1)] (own := RX11) rfl (by decide +kernel) (Nat.le_of_ble_eq_true rfl) rfl rfl fun X hX F => ?_
  subst hX
  replace hf := (f_T_takeOut.eq_1 ..).symm.trans hf
  refine z_aload_n F 0 dX11_takeOut_0 rfl rfl ?_
  refine z_get F 0 11 4 inlX11 rfl rfl (by decide) fl_X11_44 rfl dX11_takeOut_1 ?_
  refine z_aload_n F 0 dX11_takeOut_4 rfl rfl ?_
  refine z_get F 0 11 1 inlX11 rfl rfl (by decide) fl_X11_19 rfl dX11_takeOut_5 ?_
  obtain ⟨deeds_first_1, deeds_size_2, text_top_3, text_worked_4, judge_known_5, deeds_kept_e_length_6, deeds_kept_e_who_7, deeds_numbers_8, hg, hf⟩ := zb8_some hf
  refine z_callVm (rest := []) F 2 (c_Deeds_begin (xL X) G a_deeds a_judge a_deeds_kept a_deeds_numbers a_deeds_changes a_deeds_greatest a_crowd a_text a_judge_known a_crowd_heights a_text_tape a_text_reader a_text_steps a_text_worked a_deeds_kept_e a_deeds_kept_e_who a_queue a_queue_who deeds_first deeds_size crowd_people crowd_heights text_fed text_length text_top text_steps text_worked judge_known deeds_kept_e_length deeds_kept_e_who deeds_numbers queue_length queue_who deeds_first_1 deeds_size_2 text_top_3 text_worked_4 judge_known_5 deeds_kept_e_length_6 deeds_kept_e_who_7 deeds_numbers_8 hg) hy_X2_begin ml_X11_165 hd_X2_begin ⟨by omega, by omega⟩ rfl [10, 8, 1, 2, 5, 6, 7, 9, 11, 12, 13, 14, 15, 16, 17, 18, 19, 20, 21, 22, 23, 24, 25, 26, 27, 28, 29, 30, 31, 32, 33, 34, 35, 36, 3, 4] rfl rfl 10 rfl rfl (w_T_takeOut G a_this a_crowd a_queue a_text a_judge a_deeds a_mendings a_picture a_shelves a_books a_thoughts a_heads a_crowd_heights a_queue_who a_text_tape a_text_reader a_text_steps a_text_worked a_judge_known a_deeds_kept a_deeds_numbers a_deeds_changes a_deeds_greatest a_deeds_kept_e a_deeds_kept_e_who hasPicture crowd_people crowd_heights queue_length queue_who text_fed text_length text_top_3 text_steps text_worked_4 judge_known_5 deeds_first_1 deeds_size_2 deeds_kept_e_length_6 deeds_kept_e_who_7 deeds_numbers_8 deeds_changes deeds_greatest) [none, some 2, some 3, some 34, some 35, some 4, some 5, some 6, some 1, some 7, some 0, some 8, some 9, some 10, some 11, some 12, some 13, some 14, some 15, some 16, some 17, some 18, some 19, some 20, some 21, some 22, some 23, some 24, some 25, some 26, some 27, some 28, some 29, some 30, some 31, some 32, some 33, none, none] rfl (by decide +kernel) rfl rfl (Nat.le_of_ble_eq_true rfl) dX11_takeOut_8 (fun hz_9 => ?_)
  refine z_aload_n F 0 dX11_takeOut_11 rfl rfl ?_
  refine z_get F 0 11 1 inlX11 rfl rfl (by decide) fl_X11_19 rfl dX11_takeOut_12 ?_
  refine z_iload_n F 1 dX11_takeOut_15 rfl rfl ?_
  obtain ⟨r_10, queue_length_11, queue_who_12, hg, hf⟩ := zb3_some hf
  refine z_callVm (rest := []) F 7 (c_Line_removeAt (xL X) G a_queue a_queue_who queue_length queue_who x1 r_10 queue_length_11 queue_who_12 hg) hy_X7_removeAt ml_X11_388 hd_X7_removeAt ⟨by omega, by omega⟩ rfl [3, 4] rfl rfl 3 rfl rfl (w_T_takeOut G a_this a_crowd a_queue a_text a_judge a_deeds a_mendings a_picture a_shelves a_books a_thoughts a_heads a_crowd_heights a_queue_who a_text_tape a_text_reader a_text_steps a_text_worked a_judge_known a_deeds_kept a_deeds_numbers a_deeds_changes a_deeds_greatest a_deeds_kept_e a_deeds_kept_e_who hasPicture crowd_people crowd_heights queue_length_11 queue_who_12 text_fed text_length text_top_3 text_steps text_worked_4 judge_known_5 deeds_first_1 deeds_size_2 deeds_kept_e_length_6 deeds_kept_e_who_7 deeds_numbers_8 deeds_changes deeds_greatest) [none, none, none, some 0, some 1, none, none, none, none, none, none, none, none, none, none, none, none, none, none, none, none, none, none, none, none, none, none, none, none, none, none, none, none, none, none, none, none, none, none] rfl (by decide +kernel) rfl rfl (Nat.le_of_ble_eq_true rfl) dX11_takeOut_16 (fun hz_13 => ?_)
  refine z_istore_n F [(2, .int r_10), (0, .ref a_this), (1, .int x1)] dX11_takeOut_19 rfl (by decide) rfl ?_
  refine z_aload_n F 1 dX11_takeOut_20 rfl rfl ?_
  refine z_get F 0 11 4 inlX11 rfl rfl (by decide) fl_X11_44 rfl dX11_takeOut_21 ?_
  refine z_aload_n F 1 dX11_takeOut_24 rfl rfl ?_
  refine z_get F 0 11 1 inlX11 rfl rfl (by decide) fl_X11_19 rfl dX11_takeOut_25 ?_
  obtain ⟨text_top_14, text_worked_15, judge_known_16, deeds_changes_17, deeds_greatest_18, hg, hf⟩ := zb5_some hf
  refine z_callVm (rest := []) F 2 (c_Deeds_end (xL X) G a_deeds a_judge a_deeds_kept a_deeds_numbers a_deeds_changes a_deeds_greatest a_crowd a_text a_judge_known a_crowd_heights a_text_tape a_text_reader a_text_steps a_text_worked a_queue a_queue_who deeds_first_1 deeds_size_2 crowd_people crowd_heights text_fed text_length text_top_3 text_steps text_worked_4 judge_known_5 deeds_numbers_8 deeds_changes deeds_greatest queue_length_11 queue_who_12 text_top_14 text_worked_15 judge_known_16 deeds_changes_17 deeds_greatest_18 hg) hy_X2_end ml_X11_172 hd_X2_end ⟨by omega, by omega⟩ rfl [10, 8, 1, 2, 5, 6, 7, 9, 36, 37, 38, 3, 4] rfl rfl 10 rfl rfl (w_T_takeOut G a_this a_crowd a_queue a_text a_judge a_deeds a_mendings a_picture a_shelves a_books a_thoughts a_heads a_crowd_heights a_queue_who a_text_tape a_text_reader a_text_steps a_text_worked a_judge_known a_deeds_kept a_deeds_numbers a_deeds_changes a_deeds_greatest a_deeds_kept_e a_deeds_kept_e_who hasPicture crowd_people crowd_heights queue_length_11 queue_who_12 text_fed text_length text_top_14 text_steps text_worked_15 judge_known_16 deeds_first_1 deeds_size_2 deeds_kept_e_length_6 deeds_kept_e_who_7 deeds_numbers_8 deeds_changes_17 deeds_greatest_18) [none, some 2, some 3, some 11, some 12, some 4, some 5, some 6, some 1, some 7, some 0, none, none, none, none, none, none, none, none, none, none, none, none, none, none, none, none, none, none, none, none, none, none, none, none, none, some 8, some 9, some 10] rfl (by decide +kernel) rfl rfl (Nat.le_of_ble_eq_true rfl) dX11_takeOut_28 (fun hz_19 => ?_)
  refine z_iload_n F 0 dX11_takeOut_31 rfl rfl ?_
  have eq1 := Option.some.inj hf
  obtain ⟨ee1, eq2⟩ := Prod.mk.inj eq1
  obtain ⟨ee2, eq3⟩ := Prod.mk.inj eq2
  obtain ⟨ee3, eq4⟩ := Prod.mk.inj eq3
  obtain ⟨ee4, eq5⟩ := Prod.mk.inj eq4
  obtain ⟨ee5, eq6⟩ := Prod.mk.inj eq5
  obtain ⟨ee6, eq7⟩ := Prod.mk.inj eq6
  obtain ⟨ee7, eq8⟩ := Prod.mk.inj eq7
  obtain ⟨ee8, eq9⟩ := Prod.mk.inj eq8
  obtain ⟨ee9, eq10⟩ := Prod.mk.inj eq9
  obtain ⟨ee10, eq11⟩ := Prod.mk.inj eq10
  obtain ⟨ee11, eq12⟩ := Prod.mk.inj eq11
  obtain ⟨ee12, ee13⟩ := Prod.mk.inj eq12
  subst ee1
  subst ee2
  subst ee3
  subst ee4
  subst ee5
  subst ee6
  subst ee7
  subst ee8
  subst ee9
  subst ee10
  subst ee11
  subst ee12
  subst ee13
  exact z_iret F rfl rfl rfl rfl dX11_takeOut_32

abbrev w_T_leave (G : zG) (a_this : Nat) (a_crowd : Nat) (a_queue : Nat) (a_text : Nat) (a_judge : Nat) (a_deeds : Nat) (a_mendings : Nat) (a_picture : Nat) (a_shelves : Nat) (a_books : Nat) (a_thoughts : Nat) (a_heads : Nat) (a_crowd_heights : Nat) (a_queue_who : Nat) (a_text_tape : Nat) (a_text_reader : Nat) (a_text_steps : Nat) (a_text_worked : Nat) (a_judge_known : Nat) (a_deeds_kept : Nat) (a_deeds_numbers : Nat) (a_deeds_changes : Nat) (a_deeds_greatest : Nat) (a_deeds_kept_e : Nat → Nat) (a_deeds_kept_e_who : Nat → Nat) (hasPicture : Int32) (crowd_people : Int32) (crowd_heights : Nat → Int32) (queue_length : Int32) (queue_who : Nat → Int32) (text_fed : Int32) (text_length : Int32) (text_top : Int32) (text_steps : Nat → Int32) (text_worked : Nat → Int32) (judge_known : Nat → Int32) (deeds_first : Int32) (deeds_size : Int32) (deeds_kept_e_length : Nat → Int32) (deeds_kept_e_who : Nat → (Nat → Int32)) (deeds_numbers : Nat → Int32) (deeds_changes : Nat → Int32) (deeds_greatest : Nat → Int32) : va_W := [(a_this, cO 11 [.ref a_crowd, .ref a_queue, .ref a_text, .ref a_judge, .ref a_deeds, .ref a_mendings, .ref a_picture, .int hasPicture, .ref a_shelves, .ref a_books, .ref a_thoughts, .ref a_heads]), (a_crowd, cO 1 [.ref a_crowd_heights, .int crowd_people]), (a_crowd_heights, cI G 9 crowd_heights), (a_queue, cO 7 [.ref a_queue_who, .int queue_length]), (a_queue_who, cI G 9 queue_who), (a_text, cO 5 [.ref a_text_tape, .int text_fed, .ref a_text_reader, .ref a_text_steps, .int text_length, .ref a_text_worked, .int text_top]), (a_text_steps, cI G 121 text_steps), (a_text_worked, cI G 121 text_worked), (a_judge, cO 4 [.ref a_crowd, .ref a_text, .ref a_judge_known]), (a_judge_known, cB G 729 judge_known), (a_deeds, cO 2 [.ref a_judge, .ref a_deeds_kept, .int deeds_first, .int deeds_size, .ref a_deeds_numbers, .ref a_deeds_changes, .ref a_deeds_greatest]), (a_deeds_kept, cL G 12 (fun j => some (a_deeds_kept_e j))), ((a_deeds_kept_e 0), cO 7 [.ref (a_deeds_kept_e_who 0), .int (deeds_kept_e_length 0)]), ((a_deeds_kept_e_who 0), cI G 9 (deeds_kept_e_who 0)), ((a_deeds_kept_e 1), cO 7 [.ref (a_deeds_kept_e_who 1), .int (deeds_kept_e_length 1)]), ((a_deeds_kept_e_who 1), cI G 9 (deeds_kept_e_who 1)), ((a_deeds_kept_e 2), cO 7 [.ref (a_deeds_kept_e_who 2), .int (deeds_kept_e_length 2)]), ((a_deeds_kept_e_who 2), cI G 9 (deeds_kept_e_who 2)), ((a_deeds_kept_e 3), cO 7 [.ref (a_deeds_kept_e_who 3), .int (deeds_kept_e_length 3)]), ((a_deeds_kept_e_who 3), cI G 9 (deeds_kept_e_who 3)), ((a_deeds_kept_e 4), cO 7 [.ref (a_deeds_kept_e_who 4), .int (deeds_kept_e_length 4)]), ((a_deeds_kept_e_who 4), cI G 9 (deeds_kept_e_who 4)), ((a_deeds_kept_e 5), cO 7 [.ref (a_deeds_kept_e_who 5), .int (deeds_kept_e_length 5)]), ((a_deeds_kept_e_who 5), cI G 9 (deeds_kept_e_who 5)), ((a_deeds_kept_e 6), cO 7 [.ref (a_deeds_kept_e_who 6), .int (deeds_kept_e_length 6)]), ((a_deeds_kept_e_who 6), cI G 9 (deeds_kept_e_who 6)), ((a_deeds_kept_e 7), cO 7 [.ref (a_deeds_kept_e_who 7), .int (deeds_kept_e_length 7)]), ((a_deeds_kept_e_who 7), cI G 9 (deeds_kept_e_who 7)), ((a_deeds_kept_e 8), cO 7 [.ref (a_deeds_kept_e_who 8), .int (deeds_kept_e_length 8)]), ((a_deeds_kept_e_who 8), cI G 9 (deeds_kept_e_who 8)), ((a_deeds_kept_e 9), cO 7 [.ref (a_deeds_kept_e_who 9), .int (deeds_kept_e_length 9)]), ((a_deeds_kept_e_who 9), cI G 9 (deeds_kept_e_who 9)), ((a_deeds_kept_e 10), cO 7 [.ref (a_deeds_kept_e_who 10), .int (deeds_kept_e_length 10)]), ((a_deeds_kept_e_who 10), cI G 9 (deeds_kept_e_who 10)), ((a_deeds_kept_e 11), cO 7 [.ref (a_deeds_kept_e_who 11), .int (deeds_kept_e_length 11)]), ((a_deeds_kept_e_who 11), cI G 9 (deeds_kept_e_who 11)), (a_deeds_numbers, cI G 9 deeds_numbers), (a_deeds_changes, cI G 9 deeds_changes), (a_deeds_greatest, cI G 9 deeds_greatest)]
def f_T_leave (crowd_people : Int32) (crowd_heights : Nat → Int32) (queue_length : Int32) (queue_who : Nat → Int32) (text_length : Int32) (text_top : Int32) (text_steps : Nat → Int32) (text_worked : Nat → Int32) (judge_known : Nat → Int32) (deeds_first : Int32) (deeds_size : Int32) (deeds_kept_e_length : Nat → Int32) (deeds_kept_e_who : Nat → (Nat → Int32)) (deeds_numbers : Nat → Int32) (deeds_changes : Nat → Int32) (deeds_greatest : Nat → Int32) (x1 : Int32) : Option (Int32 × Int32 × (Nat → Int32) × Int32 × (Nat → Int32) × (Nat → Int32) × Int32 × Int32 × (Nat → Int32) × (Nat → (Nat → Int32)) × (Nat → Int32) × (Nat → Int32) × (Nat → Int32)) := (if (f_Line_isPlace queue_length x1) = 0 then (some ((-1), queue_length, queue_who, text_top, text_worked, judge_known, deeds_first, deeds_size, deeds_kept_e_length, deeds_kept_e_who, deeds_numbers, deeds_changes, deeds_greatest)) else (zb13 (f_T_takeOut crowd_people crowd_heights queue_length queue_who text_length text_top text_steps text_worked judge_known deeds_first deeds_size deeds_kept_e_length deeds_kept_e_who deeds_numbers deeds_changes deeds_greatest x1) fun r_2 queue_length_3 queue_who_4 text_top_5 text_worked_6 judge_known_7 deeds_first_8 deeds_size_9 deeds_kept_e_length_10 deeds_kept_e_who_11 deeds_numbers_12 deeds_changes_13 deeds_greatest_14 => (some (r_2, queue_length_3, queue_who_4, text_top_5, text_worked_6, judge_known_7, deeds_first_8, deeds_size_9, deeds_kept_e_length_10, deeds_kept_e_who_11, deeds_numbers_12, deeds_changes_13, deeds_greatest_14))))
set_option maxRecDepth 100000 in
set_option maxHeartbeats 4000000 in
theorem c_T_leave (l : Launch) (G : zG) (a_this : Nat) (a_crowd : Nat) (a_queue : Nat) (a_text : Nat) (a_judge : Nat) (a_deeds : Nat) (a_mendings : Nat) (a_picture : Nat) (a_shelves : Nat) (a_books : Nat) (a_thoughts : Nat) (a_heads : Nat) (a_crowd_heights : Nat) (a_queue_who : Nat) (a_text_tape : Nat) (a_text_reader : Nat) (a_text_steps : Nat) (a_text_worked : Nat) (a_judge_known : Nat) (a_deeds_kept : Nat) (a_deeds_numbers : Nat) (a_deeds_changes : Nat) (a_deeds_greatest : Nat) (a_deeds_kept_e : Nat → Nat) (a_deeds_kept_e_who : Nat → Nat) (hasPicture : Int32) (crowd_people : Int32) (crowd_heights : Nat → Int32) (queue_length : Int32) (queue_who : Nat → Int32) (text_fed : Int32) (text_length : Int32) (text_top : Int32) (text_steps : Nat → Int32) (text_worked : Nat → Int32) (judge_known : Nat → Int32) (deeds_first : Int32) (deeds_size : Int32) (deeds_kept_e_length : Nat → Int32) (deeds_kept_e_who : Nat → (Nat → Int32)) (deeds_numbers : Nat → Int32) (deeds_changes : Nat → Int32) (deeds_greatest : Nat → Int32) (x1 : Int32) (r_ : Int32) (o_queue_length : Int32) (o_queue_who : Nat → Int32) (o_text_top : Int32) (o_text_worked : Nat → Int32) (o_judge_known : Nat → Int32) (o_deeds_first : Int32) (o_deeds_size : Int32) (o_deeds_kept_e_length : Nat → Int32) (o_deeds_kept_e_who : Nat → (Nat → Int32)) (o_deeds_numbers : Nat → Int32) (o_deeds_changes : Nat → Int32) (o_deeds_greatest : Nat → Int32) (hf : f_T_leave crowd_people crowd_heights queue_length queue_who text_length text_top text_steps text_worked judge_known deeds_first deeds_size deeds_kept_e_length deeds_kept_e_who deeds_numbers deeds_changes deeds_greatest x1 = some (r_, o_queue_length, o_queue_who, o_text_top, o_text_worked, o_judge_known, o_deeds_first, o_deeds_size, o_deeds_kept_e_length, o_deeds_kept_e_who, o_deeds_numbers, o_deeds_changes, o_deeds_greatest)) : zM l yX11_leave cX11_leave 2 (some .int) 6 186 G [.ref a_this, .int x1] (w_T_leave G a_this a_crowd a_queue a_text a_judge a_deeds a_mendings a_picture a_shelves a_books a_thoughts a_heads a_crowd_heights a_queue_who a_text_tape a_text_reader a_text_steps a_text_worked a_judge_known a_deeds_kept a_deeds_numbers a_deeds_changes a_deeds_greatest a_deeds_kept_e a_deeds_kept_e_who hasPicture crowd_people crowd_heights queue_length queue_who text_fed text_length text_top text_steps text_worked judge_known deeds_first deeds_size deeds_kept_e_length deeds_kept_e_who deeds_numbers deeds_changes deeds_greatest) (some (.int r_)) (w_T_leave G a_this a_crowd a_queue a_text a_judge a_deeds a_mendings a_picture a_shelves a_books a_thoughts a_heads a_crowd_heights a_queue_who a_text_tape a_text_reader a_text_steps a_text_worked a_judge_known a_deeds_kept a_deeds_numbers a_deeds_changes a_deeds_greatest a_deeds_kept_e a_deeds_kept_e_who hasPicture crowd_people crowd_heights o_queue_length o_queue_who text_fed text_length o_text_top text_steps o_text_worked o_judge_known o_deeds_first o_deeds_size o_deeds_kept_e_length o_deeds_kept_e_who o_deeds_numbers o_deeds_changes o_deeds_greatest) := by
  refine zM.of [(0, .ref a_this), (1, .int x1)] (own := RX11) rfl (by decide +kernel) (Nat.le_of_ble_eq_true rfl) rfl rfl fun X hX F => ?_
  subst hX
  replace hf := (f_T_leave.eq_1 ..).symm.trans hf
  refine z_aload_n F 0 dX11_leave_0 rfl rfl ?_
  refine z_get F 0 11 1 inlX11 rfl rfl (by decide) fl_X11_19 rfl dX11_leave_1 ?_
  refine z_iload_n F 1 dX11_leave_4 rfl rfl ?_
  refine z_callVm (rest := []) F 7 (c_Line_isPlace (xL X) G a_queue a_queue_who queue_length x1 _ rfl) hy_X7_isPlace ml_X11_140 hd_X7_isPlace ⟨by omega, by omega⟩ rfl [3] rfl rfl 3 rfl rfl (w_T_leave G a_this a_crowd a_queue a_text a_judge a_deeds a_mendings a_picture a_shelves a_books a_thoughts a_heads a_crowd_heights a_queue_who a_text_tape a_text_reader a_text_steps a_text_worked a_judge_known a_deeds_kept a_deeds_numbers a_deeds_changes a_deeds_greatest a_deeds_kept_e a_deeds_kept_e_who hasPicture crowd_people crowd_heights queue_length queue_who text_fed text_length text_top text_steps text_worked judge_known deeds_first deeds_size deeds_kept_e_length deeds_kept_e_who deeds_numbers deeds_changes deeds_greatest) [none, none, none, some 0, none, none, none, none, none, none, none, none, none, none, none, none, none, none, none, none, none, none, none, none, none, none, none, none, none, none, none, none, none, none, none, none, none, none, none] rfl (by decide +kernel) rfl rfl (Nat.le_of_ble_eq_true rfl) dX11_leave_5 (fun hz_1 => ?_)
  refine z_if_ne F 13 dX11_leave_8 (by decide) hf (fun hf _ => ?_) (fun hf _ => ?_)
  · refine z_aload_n F 0 dX11_leave_13 rfl rfl ?_
    refine z_iload_n F 1 dX11_leave_14 rfl rfl ?_
    obtain ⟨r_2, queue_length_3, queue_who_4, text_top_5, text_worked_6, judge_known_7, deeds_first_8, deeds_size_9, deeds_kept_e_length_10, deeds_kept_e_who_11, deeds_numbers_12, deeds_changes_13, deeds_greatest_14, hg, hf⟩ := zb13_some hf
    refine z_callVm (rest := []) F 11 (c_T_takeOut (xL X) G a_this a_crowd a_queue a_text a_judge a_deeds a_mendings a_picture a_shelves a_books a_thoughts a_heads a_crowd_heights a_queue_who a_text_tape a_text_reader a_text_steps a_text_worked a_judge_known a_deeds_kept a_deeds_numbers a_deeds_changes a_deeds_greatest a_deeds_kept_e a_deeds_kept_e_who hasPicture crowd_people crowd_heights queue_length queue_who text_fed text_length text_top text_steps text_worked judge_known deeds_first deeds_size deeds_kept_e_length deeds_kept_e_who deeds_numbers deeds_changes deeds_greatest x1 r_2 queue_length_3 queue_who_4 text_top_5 text_worked_6 judge_known_7 deeds_first_8 deeds_size_9 deeds_kept_e_length_10 deeds_kept_e_who_11 deeds_numbers_12 deeds_changes_13 deeds_greatest_14 hg) hy_X11_takeOut ml_X11_178 hd_X11_takeOut ⟨by omega, by omega⟩ rfl [0, 1, 2, 3, 4, 5, 6, 7, 8, 9, 10, 11, 12, 13, 14, 15, 16, 17, 18, 19, 20, 21, 22, 23, 24, 25, 26, 27, 28, 29, 30, 31, 32, 33, 34, 35, 36, 37, 38] rfl rfl 0 rfl rfl (w_T_leave G a_this a_crowd a_queue a_text a_judge a_deeds a_mendings a_picture a_shelves a_books a_thoughts a_heads a_crowd_heights a_queue_who a_text_tape a_text_reader a_text_steps a_text_worked a_judge_known a_deeds_kept a_deeds_numbers a_deeds_changes a_deeds_greatest a_deeds_kept_e a_deeds_kept_e_who hasPicture crowd_people crowd_heights queue_length_3 queue_who_4 text_fed text_length text_top_5 text_steps text_worked_6 judge_known_7 deeds_first_8 deeds_size_9 deeds_kept_e_length_10 deeds_kept_e_who_11 deeds_numbers_12 deeds_changes_13 deeds_greatest_14) [some 0, some 1, some 2, some 3, some 4, some 5, some 6, some 7, some 8, some 9, some 10, some 11, some 12, some 13, some 14, some 15, some 16, some 17, some 18, some 19, some 20, some 21, some 22, some 23, some 24, some 25, some 26, some 27, some 28, some 29, some 30, some 31, some 32, some 33, some 34, some 35, some 36, some 37, some 38] rfl (by decide +kernel) rfl rfl (Nat.le_of_ble_eq_true rfl) dX11_leave_15 (fun hz_15 => ?_)
    have eq1 := Option.some.inj hf
    obtain ⟨ee1, eq2⟩ := Prod.mk.inj eq1
    obtain ⟨ee2, eq3⟩ := Prod.mk.inj eq2
    obtain ⟨ee3, eq4⟩ := Prod.mk.inj eq3
    obtain ⟨ee4, eq5⟩ := Prod.mk.inj eq4
    obtain ⟨ee5, eq6⟩ := Prod.mk.inj eq5
    obtain ⟨ee6, eq7⟩ := Prod.mk.inj eq6
    obtain ⟨ee7, eq8⟩ := Prod.mk.inj eq7
    obtain ⟨ee8, eq9⟩ := Prod.mk.inj eq8
    obtain ⟨ee9, eq10⟩ := Prod.mk.inj eq9
    obtain ⟨ee10, eq11⟩ := Prod.mk.inj eq10
    obtain ⟨ee11, eq12⟩ := Prod.mk.inj eq11
    obtain ⟨ee12, ee13⟩ := Prod.mk.inj eq12
    subst ee1
    subst ee2
    subst ee3
    subst ee4
    subst ee5
    subst ee6
    subst ee7
    subst ee8
    subst ee9
    subst ee10
    subst ee11
    subst ee12
    subst ee13
    exact z_iret F rfl rfl rfl rfl dX11_leave_18
  · refine z_iconst F (-1) dX11_leave_11 rfl ?_
    have eq1 := Option.some.inj hf
    obtain ⟨ee1, eq2⟩ := Prod.mk.inj eq1
    obtain ⟨ee2, eq3⟩ := Prod.mk.inj eq2
    obtain ⟨ee3, eq4⟩ := Prod.mk.inj eq3
    obtain ⟨ee4, eq5⟩ := Prod.mk.inj eq4
    obtain ⟨ee5, eq6⟩ := Prod.mk.inj eq5
    obtain ⟨ee6, eq7⟩ := Prod.mk.inj eq6
    obtain ⟨ee7, eq8⟩ := Prod.mk.inj eq7
    obtain ⟨ee8, eq9⟩ := Prod.mk.inj eq8
    obtain ⟨ee9, eq10⟩ := Prod.mk.inj eq9
    obtain ⟨ee10, eq11⟩ := Prod.mk.inj eq10
    obtain ⟨ee11, eq12⟩ := Prod.mk.inj eq11
    obtain ⟨ee12, ee13⟩ := Prod.mk.inj eq12
    subst ee1
    subst ee2
    subst ee3
    subst ee4
    subst ee5
    subst ee6
    subst ee7
    subst ee8
    subst ee9
    subst ee10
    subst ee11
    subst ee12
    subst ee13
    exact z_iret F rfl rfl rfl rfl dX11_leave_12

abbrev w_T_serve (G : zG) (a_this : Nat) (a_crowd : Nat) (a_queue : Nat) (a_text : Nat) (a_judge : Nat) (a_deeds : Nat) (a_mendings : Nat) (a_picture : Nat) (a_shelves : Nat) (a_books : Nat) (a_thoughts : Nat) (a_heads : Nat) (a_crowd_heights : Nat) (a_queue_who : Nat) (a_text_tape : Nat) (a_text_reader : Nat) (a_text_steps : Nat) (a_text_worked : Nat) (a_judge_known : Nat) (a_deeds_kept : Nat) (a_deeds_numbers : Nat) (a_deeds_changes : Nat) (a_deeds_greatest : Nat) (a_deeds_kept_e : Nat → Nat) (a_deeds_kept_e_who : Nat → Nat) (hasPicture : Int32) (crowd_people : Int32) (crowd_heights : Nat → Int32) (queue_length : Int32) (queue_who : Nat → Int32) (text_fed : Int32) (text_length : Int32) (text_top : Int32) (text_steps : Nat → Int32) (text_worked : Nat → Int32) (judge_known : Nat → Int32) (deeds_first : Int32) (deeds_size : Int32) (deeds_kept_e_length : Nat → Int32) (deeds_kept_e_who : Nat → (Nat → Int32)) (deeds_numbers : Nat → Int32) (deeds_changes : Nat → Int32) (deeds_greatest : Nat → Int32) : va_W := [(a_this, cO 11 [.ref a_crowd, .ref a_queue, .ref a_text, .ref a_judge, .ref a_deeds, .ref a_mendings, .ref a_picture, .int hasPicture, .ref a_shelves, .ref a_books, .ref a_thoughts, .ref a_heads]), (a_crowd, cO 1 [.ref a_crowd_heights, .int crowd_people]), (a_crowd_heights, cI G 9 crowd_heights), (a_queue, cO 7 [.ref a_queue_who, .int queue_length]), (a_queue_who, cI G 9 queue_who), (a_text, cO 5 [.ref a_text_tape, .int text_fed, .ref a_text_reader, .ref a_text_steps, .int text_length, .ref a_text_worked, .int text_top]), (a_text_steps, cI G 121 text_steps), (a_text_worked, cI G 121 text_worked), (a_judge, cO 4 [.ref a_crowd, .ref a_text, .ref a_judge_known]), (a_judge_known, cB G 729 judge_known), (a_deeds, cO 2 [.ref a_judge, .ref a_deeds_kept, .int deeds_first, .int deeds_size, .ref a_deeds_numbers, .ref a_deeds_changes, .ref a_deeds_greatest]), (a_deeds_kept, cL G 12 (fun j => some (a_deeds_kept_e j))), ((a_deeds_kept_e 0), cO 7 [.ref (a_deeds_kept_e_who 0), .int (deeds_kept_e_length 0)]), ((a_deeds_kept_e_who 0), cI G 9 (deeds_kept_e_who 0)), ((a_deeds_kept_e 1), cO 7 [.ref (a_deeds_kept_e_who 1), .int (deeds_kept_e_length 1)]), ((a_deeds_kept_e_who 1), cI G 9 (deeds_kept_e_who 1)), ((a_deeds_kept_e 2), cO 7 [.ref (a_deeds_kept_e_who 2), .int (deeds_kept_e_length 2)]), ((a_deeds_kept_e_who 2), cI G 9 (deeds_kept_e_who 2)), ((a_deeds_kept_e 3), cO 7 [.ref (a_deeds_kept_e_who 3), .int (deeds_kept_e_length 3)]), ((a_deeds_kept_e_who 3), cI G 9 (deeds_kept_e_who 3)), ((a_deeds_kept_e 4), cO 7 [.ref (a_deeds_kept_e_who 4), .int (deeds_kept_e_length 4)]), ((a_deeds_kept_e_who 4), cI G 9 (deeds_kept_e_who 4)), ((a_deeds_kept_e 5), cO 7 [.ref (a_deeds_kept_e_who 5), .int (deeds_kept_e_length 5)]), ((a_deeds_kept_e_who 5), cI G 9 (deeds_kept_e_who 5)), ((a_deeds_kept_e 6), cO 7 [.ref (a_deeds_kept_e_who 6), .int (deeds_kept_e_length 6)]), ((a_deeds_kept_e_who 6), cI G 9 (deeds_kept_e_who 6)), ((a_deeds_kept_e 7), cO 7 [.ref (a_deeds_kept_e_who 7), .int (deeds_kept_e_length 7)]), ((a_deeds_kept_e_who 7), cI G 9 (deeds_kept_e_who 7)), ((a_deeds_kept_e 8), cO 7 [.ref (a_deeds_kept_e_who 8), .int (deeds_kept_e_length 8)]), ((a_deeds_kept_e_who 8), cI G 9 (deeds_kept_e_who 8)), ((a_deeds_kept_e 9), cO 7 [.ref (a_deeds_kept_e_who 9), .int (deeds_kept_e_length 9)]), ((a_deeds_kept_e_who 9), cI G 9 (deeds_kept_e_who 9)), ((a_deeds_kept_e 10), cO 7 [.ref (a_deeds_kept_e_who 10), .int (deeds_kept_e_length 10)]), ((a_deeds_kept_e_who 10), cI G 9 (deeds_kept_e_who 10)), ((a_deeds_kept_e 11), cO 7 [.ref (a_deeds_kept_e_who 11), .int (deeds_kept_e_length 11)]), ((a_deeds_kept_e_who 11), cI G 9 (deeds_kept_e_who 11)), (a_deeds_numbers, cI G 9 deeds_numbers), (a_deeds_changes, cI G 9 deeds_changes), (a_deeds_greatest, cI G 9 deeds_greatest)]
def f_T_serve (crowd_people : Int32) (crowd_heights : Nat → Int32) (queue_length : Int32) (queue_who : Nat → Int32) (text_length : Int32) (text_top : Int32) (text_steps : Nat → Int32) (text_worked : Nat → Int32) (judge_known : Nat → Int32) (deeds_first : Int32) (deeds_size : Int32) (deeds_kept_e_length : Nat → Int32) (deeds_kept_e_who : Nat → (Nat → Int32)) (deeds_numbers : Nat → Int32) (deeds_changes : Nat → Int32) (deeds_greatest : Nat → Int32) : Option (Int32 × Int32 × (Nat → Int32) × Int32 × (Nat → Int32) × (Nat → Int32) × Int32 × Int32 × (Nat → Int32) × (Nat → (Nat → Int32)) × (Nat → Int32) × (Nat → Int32) × (Nat → Int32)) := (if (f_Line_size queue_length) = 0 then (some ((-5), queue_length, queue_who, text_top, text_worked, judge_known, deeds_first, deeds_size, deeds_kept_e_length, deeds_kept_e_who, deeds_numbers, deeds_changes, deeds_greatest)) else (zb13 (f_T_takeOut crowd_people crowd_heights queue_length queue_who text_length text_top text_steps text_worked judge_known deeds_first deeds_size deeds_kept_e_length deeds_kept_e_who deeds_numbers deeds_changes deeds_greatest 0) fun r_2 queue_length_3 queue_who_4 text_top_5 text_worked_6 judge_known_7 deeds_first_8 deeds_size_9 deeds_kept_e_length_10 deeds_kept_e_who_11 deeds_numbers_12 deeds_changes_13 deeds_greatest_14 => (some (r_2, queue_length_3, queue_who_4, text_top_5, text_worked_6, judge_known_7, deeds_first_8, deeds_size_9, deeds_kept_e_length_10, deeds_kept_e_who_11, deeds_numbers_12, deeds_changes_13, deeds_greatest_14))))
set_option maxRecDepth 100000 in
set_option maxHeartbeats 4000000 in
theorem c_T_serve (l : Launch) (G : zG) (a_this : Nat) (a_crowd : Nat) (a_queue : Nat) (a_text : Nat) (a_judge : Nat) (a_deeds : Nat) (a_mendings : Nat) (a_picture : Nat) (a_shelves : Nat) (a_books : Nat) (a_thoughts : Nat) (a_heads : Nat) (a_crowd_heights : Nat) (a_queue_who : Nat) (a_text_tape : Nat) (a_text_reader : Nat) (a_text_steps : Nat) (a_text_worked : Nat) (a_judge_known : Nat) (a_deeds_kept : Nat) (a_deeds_numbers : Nat) (a_deeds_changes : Nat) (a_deeds_greatest : Nat) (a_deeds_kept_e : Nat → Nat) (a_deeds_kept_e_who : Nat → Nat) (hasPicture : Int32) (crowd_people : Int32) (crowd_heights : Nat → Int32) (queue_length : Int32) (queue_who : Nat → Int32) (text_fed : Int32) (text_length : Int32) (text_top : Int32) (text_steps : Nat → Int32) (text_worked : Nat → Int32) (judge_known : Nat → Int32) (deeds_first : Int32) (deeds_size : Int32) (deeds_kept_e_length : Nat → Int32) (deeds_kept_e_who : Nat → (Nat → Int32)) (deeds_numbers : Nat → Int32) (deeds_changes : Nat → Int32) (deeds_greatest : Nat → Int32) (r_ : Int32) (o_queue_length : Int32) (o_queue_who : Nat → Int32) (o_text_top : Int32) (o_text_worked : Nat → Int32) (o_judge_known : Nat → Int32) (o_deeds_first : Int32) (o_deeds_size : Int32) (o_deeds_kept_e_length : Nat → Int32) (o_deeds_kept_e_who : Nat → (Nat → Int32)) (o_deeds_numbers : Nat → Int32) (o_deeds_changes : Nat → Int32) (o_deeds_greatest : Nat → Int32) (hf : f_T_serve crowd_people crowd_heights queue_length queue_who text_length text_top text_steps text_worked judge_known deeds_first deeds_size deeds_kept_e_length deeds_kept_e_who deeds_numbers deeds_changes deeds_greatest = some (r_, o_queue_length, o_queue_who, o_text_top, o_text_worked, o_judge_known, o_deeds_first, o_deeds_size, o_deeds_kept_e_length, o_deeds_kept_e_who, o_deeds_numbers, o_deeds_changes, o_deeds_greatest)) : zM l yX11_serve cX11_serve 1 (some .int) 6 186 G [.ref a_this] (w_T_serve G a_this a_crowd a_queue a_text a_judge a_deeds a_mendings a_picture a_shelves a_books a_thoughts a_heads a_crowd_heights a_queue_who a_text_tape a_text_reader a_text_steps a_text_worked a_judge_known a_deeds_kept a_deeds_numbers a_deeds_changes a_deeds_greatest a_deeds_kept_e a_deeds_kept_e_who hasPicture crowd_people crowd_heights queue_length queue_who text_fed text_length text_top text_steps text_worked judge_known deeds_first deeds_size deeds_kept_e_length deeds_kept_e_who deeds_numbers deeds_changes deeds_greatest) (some (.int r_)) (w_T_serve G a_this a_crowd a_queue a_text a_judge a_deeds a_mendings a_picture a_shelves a_books a_thoughts a_heads a_crowd_heights a_queue_who a_text_tape a_text_reader a_text_steps a_text_worked a_judge_known a_deeds_kept a_deeds_numbers a_deeds_changes a_deeds_greatest a_deeds_kept_e a_deeds_kept_e_who hasPicture crowd_people crowd_heights o_queue_length o_queue_who text_fed text_length o_text_top text_steps o_text_worked o_judge_known o_deeds_first o_deeds_size o_deeds_kept_e_length o_deeds_kept_e_who o_deeds_numbers o_deeds_changes o_deeds_greatest) := by
  refine zM.of [(0, .ref a_this)] (own := RX11) rfl (by decide +kernel) (Nat.le_of_ble_eq_true rfl) rfl rfl fun X hX F => ?_
  subst hX
  replace hf := (f_T_serve.eq_1 ..).symm.trans hf
  refine z_aload_n F 0 dX11_serve_0 rfl rfl ?_
  refine z_get F 0 11 1 inlX11 rfl rfl (by decide) fl_X11_19 rfl dX11_serve_1 ?_
  refine z_callVm (rest := []) F 7 (c_Line_size (xL X) G a_queue a_queue_who queue_length _ rfl) hy_X7_size ml_X11_94 hd_X7_size ⟨by omega, by omega⟩ rfl [3] rfl rfl 3 rfl rfl (w_T_serve G a_this a_crowd a_queue a_text a_judge a_deeds a_mendings a_picture a_shelves a_books a_thoughts a_heads a_crowd_heights a_queue_who a_text_tape a_text_reader a_text_steps a_text_worked a_judge_known a_deeds_kept a_deeds_numbers a_deeds_changes a_deeds_greatest a_deeds_kept_e a_deeds_kept_e_who hasPicture crowd_people crowd_heights queue_length queue_who text_fed text_length text_top text_steps text_worked judge_known deeds_first deeds_size deeds_kept_e_length deeds_kept_e_who deeds_numbers deeds_changes deeds_greatest) [none, none, none, some 0, none, none, none, none, none, none, none, none, none, none, none, none, none, none, none, none, none, none, none, none, none, none, none, none, none, none, none, none, none, none, none, none, none, none, none] rfl (by decide +kernel) rfl rfl (Nat.le_of_ble_eq_true rfl) dX11_serve_4 (fun hz_1 => ?_)
  refine z_if_ne F 13 dX11_serve_7 (by decide) hf (fun hf _ => ?_) (fun hf _ => ?_)
  · refine z_aload_n F 0 dX11_serve_13 rfl rfl ?_
    refine z_iconst F (0) dX11_serve_14 rfl ?_
    obtain ⟨r_2, queue_length_3, queue_who_4, text_top_5, text_worked_6, judge_known_7, deeds_first_8, deeds_size_9, deeds_kept_e_length_10, deeds_kept_e_who_11, deeds_numbers_12, deeds_changes_13, deeds_greatest_14, hg, hf⟩ := zb13_some hf
    refine z_callVm (rest := []) F 11 (c_T_takeOut (xL X) G a_this a_crowd a_queue a_text a_judge a_deeds a_mendings a_picture a_shelves a_books a_thoughts a_heads a_crowd_heights a_queue_who a_text_tape a_text_reader a_text_steps a_text_worked a_judge_known a_deeds_kept a_deeds_numbers a_deeds_changes a_deeds_greatest a_deeds_kept_e a_deeds_kept_e_who hasPicture crowd_people crowd_heights queue_length queue_who text_fed text_length text_top text_steps text_worked judge_known deeds_first deeds_size deeds_kept_e_length deeds_kept_e_who deeds_numbers deeds_changes deeds_greatest 0 r_2 queue_length_3 queue_who_4 text_top_5 text_worked_6 judge_known_7 deeds_first_8 deeds_size_9 deeds_kept_e_length_10 deeds_kept_e_who_11 deeds_numbers_12 deeds_changes_13 deeds_greatest_14 hg) hy_X11_takeOut ml_X11_178 hd_X11_takeOut ⟨by omega, by omega⟩ rfl [0, 1, 2, 3, 4, 5, 6, 7, 8, 9, 10, 11, 12, 13, 14, 15, 16, 17, 18, 19, 20, 21, 22, 23, 24, 25, 26, 27, 28, 29, 30, 31, 32, 33, 34, 35, 36, 37, 38] rfl rfl 0 rfl rfl (w_T_serve G a_this a_crowd a_queue a_text a_judge a_deeds a_mendings a_picture a_shelves a_books a_thoughts a_heads a_crowd_heights a_queue_who a_text_tape a_text_reader a_text_steps a_text_worked a_judge_known a_deeds_kept a_deeds_numbers a_deeds_changes a_deeds_greatest a_deeds_kept_e a_deeds_kept_e_who hasPicture crowd_people crowd_heights queue_length_3 queue_who_4 text_fed text_length text_top_5 text_steps text_worked_6 judge_known_7 deeds_first_8 deeds_size_9 deeds_kept_e_length_10 deeds_kept_e_who_11 deeds_numbers_12 deeds_changes_13 deeds_greatest_14) [some 0, some 1, some 2, some 3, some 4, some 5, some 6, some 7, some 8, some 9, some 10, some 11, some 12, some 13, some 14, some 15, some 16, some 17, some 18, some 19, some 20, some 21, some 22, some 23, some 24, some 25, some 26, some 27, some 28, some 29, some 30, some 31, some 32, some 33, some 34, some 35, some 36, some 37, some 38] rfl (by decide +kernel) rfl rfl (Nat.le_of_ble_eq_true rfl) dX11_serve_15 (fun hz_15 => ?_)
    have eq1 := Option.some.inj hf
    obtain ⟨ee1, eq2⟩ := Prod.mk.inj eq1
    obtain ⟨ee2, eq3⟩ := Prod.mk.inj eq2
    obtain ⟨ee3, eq4⟩ := Prod.mk.inj eq3
    obtain ⟨ee4, eq5⟩ := Prod.mk.inj eq4
    obtain ⟨ee5, eq6⟩ := Prod.mk.inj eq5
    obtain ⟨ee6, eq7⟩ := Prod.mk.inj eq6
    obtain ⟨ee7, eq8⟩ := Prod.mk.inj eq7
    obtain ⟨ee8, eq9⟩ := Prod.mk.inj eq8
    obtain ⟨ee9, eq10⟩ := Prod.mk.inj eq9
    obtain ⟨ee10, eq11⟩ := Prod.mk.inj eq10
    obtain ⟨ee11, eq12⟩ := Prod.mk.inj eq11
    obtain ⟨ee12, ee13⟩ := Prod.mk.inj eq12
    subst ee1
    subst ee2
    subst ee3
    subst ee4
    subst ee5
    subst ee6
    subst ee7
    subst ee8
    subst ee9
    subst ee10
    subst ee11
    subst ee12
    subst ee13
    exact z_iret F rfl rfl rfl rfl dX11_serve_18
  · refine z_bipush F (-5) dX11_serve_10 rfl ?_
    have eq1 := Option.some.inj hf
    obtain ⟨ee1, eq2⟩ := Prod.mk.inj eq1
    obtain ⟨ee2, eq3⟩ := Prod.mk.inj eq2
    obtain ⟨ee3, eq4⟩ := Prod.mk.inj eq3
    obtain ⟨ee4, eq5⟩ := Prod.mk.inj eq4
    obtain ⟨ee5, eq6⟩ := Prod.mk.inj eq5
    obtain ⟨ee6, eq7⟩ := Prod.mk.inj eq6
    obtain ⟨ee7, eq8⟩ := Prod.mk.inj eq7
    obtain ⟨ee8, eq9⟩ := Prod.mk.inj eq8
    obtain ⟨ee9, eq10⟩ := Prod.mk.inj eq9
    obtain ⟨ee10, eq11⟩ := Prod.mk.inj eq10
    obtain ⟨ee11, eq12⟩ := Prod.mk.inj eq11
    obtain ⟨ee12, ee13⟩ := Prod.mk.inj eq12
    subst ee1
    subst ee2
    subst ee3
    subst ee4
    subst ee5
    subst ee6
    subst ee7
    subst ee8
    subst ee9
    subst ee10
    subst ee11
    subst ee12
    subst ee13
    exact z_iret F rfl rfl rfl rfl dX11_serve_12

abbrev w_T_grow (G : zG) (a_this : Nat) (a_crowd : Nat) (a_queue : Nat) (a_text : Nat) (a_judge : Nat) (a_deeds : Nat) (a_mendings : Nat) (a_picture : Nat) (a_shelves : Nat) (a_books : Nat) (a_thoughts : Nat) (a_heads : Nat) (a_crowd_heights : Nat) (a_queue_who : Nat) (a_text_tape : Nat) (a_text_reader : Nat) (a_text_steps : Nat) (a_text_worked : Nat) (a_judge_known : Nat) (a_deeds_kept : Nat) (a_deeds_numbers : Nat) (a_deeds_changes : Nat) (a_deeds_greatest : Nat) (a_deeds_kept_e : Nat → Nat) (a_deeds_kept_e_who : Nat → Nat) (hasPicture : Int32) (crowd_people : Int32) (crowd_heights : Nat → Int32) (queue_length : Int32) (queue_who : Nat → Int32) (text_fed : Int32) (text_length : Int32) (text_top : Int32) (text_steps : Nat → Int32) (text_worked : Nat → Int32) (judge_known : Nat → Int32) (deeds_first : Int32) (deeds_size : Int32) (deeds_kept_e_length : Nat → Int32) (deeds_kept_e_who : Nat → (Nat → Int32)) (deeds_numbers : Nat → Int32) (deeds_changes : Nat → Int32) (deeds_greatest : Nat → Int32) : va_W := [(a_this, cO 11 [.ref a_crowd, .ref a_queue, .ref a_text, .ref a_judge, .ref a_deeds, .ref a_mendings, .ref a_picture, .int hasPicture, .ref a_shelves, .ref a_books, .ref a_thoughts, .ref a_heads]), (a_crowd, cO 1 [.ref a_crowd_heights, .int crowd_people]), (a_crowd_heights, cI G 9 crowd_heights), (a_queue, cO 7 [.ref a_queue_who, .int queue_length]), (a_queue_who, cI G 9 queue_who), (a_text, cO 5 [.ref a_text_tape, .int text_fed, .ref a_text_reader, .ref a_text_steps, .int text_length, .ref a_text_worked, .int text_top]), (a_text_steps, cI G 121 text_steps), (a_text_worked, cI G 121 text_worked), (a_judge, cO 4 [.ref a_crowd, .ref a_text, .ref a_judge_known]), (a_judge_known, cB G 729 judge_known), (a_deeds, cO 2 [.ref a_judge, .ref a_deeds_kept, .int deeds_first, .int deeds_size, .ref a_deeds_numbers, .ref a_deeds_changes, .ref a_deeds_greatest]), (a_deeds_kept, cL G 12 (fun j => some (a_deeds_kept_e j))), ((a_deeds_kept_e 0), cO 7 [.ref (a_deeds_kept_e_who 0), .int (deeds_kept_e_length 0)]), ((a_deeds_kept_e_who 0), cI G 9 (deeds_kept_e_who 0)), ((a_deeds_kept_e 1), cO 7 [.ref (a_deeds_kept_e_who 1), .int (deeds_kept_e_length 1)]), ((a_deeds_kept_e_who 1), cI G 9 (deeds_kept_e_who 1)), ((a_deeds_kept_e 2), cO 7 [.ref (a_deeds_kept_e_who 2), .int (deeds_kept_e_length 2)]), ((a_deeds_kept_e_who 2), cI G 9 (deeds_kept_e_who 2)), ((a_deeds_kept_e 3), cO 7 [.ref (a_deeds_kept_e_who 3), .int (deeds_kept_e_length 3)]), ((a_deeds_kept_e_who 3), cI G 9 (deeds_kept_e_who 3)), ((a_deeds_kept_e 4), cO 7 [.ref (a_deeds_kept_e_who 4), .int (deeds_kept_e_length 4)]), ((a_deeds_kept_e_who 4), cI G 9 (deeds_kept_e_who 4)), ((a_deeds_kept_e 5), cO 7 [.ref (a_deeds_kept_e_who 5), .int (deeds_kept_e_length 5)]), ((a_deeds_kept_e_who 5), cI G 9 (deeds_kept_e_who 5)), ((a_deeds_kept_e 6), cO 7 [.ref (a_deeds_kept_e_who 6), .int (deeds_kept_e_length 6)]), ((a_deeds_kept_e_who 6), cI G 9 (deeds_kept_e_who 6)), ((a_deeds_kept_e 7), cO 7 [.ref (a_deeds_kept_e_who 7), .int (deeds_kept_e_length 7)]), ((a_deeds_kept_e_who 7), cI G 9 (deeds_kept_e_who 7)), ((a_deeds_kept_e 8), cO 7 [.ref (a_deeds_kept_e_who 8), .int (deeds_kept_e_length 8)]), ((a_deeds_kept_e_who 8), cI G 9 (deeds_kept_e_who 8)), ((a_deeds_kept_e 9), cO 7 [.ref (a_deeds_kept_e_who 9), .int (deeds_kept_e_length 9)]), ((a_deeds_kept_e_who 9), cI G 9 (deeds_kept_e_who 9)), ((a_deeds_kept_e 10), cO 7 [.ref (a_deeds_kept_e_who 10), .int (deeds_kept_e_length 10)]), ((a_deeds_kept_e_who 10), cI G 9 (deeds_kept_e_who 10)), ((a_deeds_kept_e 11), cO 7 [.ref (a_deeds_kept_e_who 11), .int (deeds_kept_e_length 11)]), ((a_deeds_kept_e_who 11), cI G 9 (deeds_kept_e_who 11)), (a_deeds_numbers, cI G 9 deeds_numbers), (a_deeds_changes, cI G 9 deeds_changes), (a_deeds_greatest, cI G 9 deeds_greatest)]
def f_T_grow (crowd_people : Int32) (crowd_heights : Nat → Int32) (queue_length : Int32) (queue_who : Nat → Int32) (text_length : Int32) (text_top : Int32) (text_steps : Nat → Int32) (text_worked : Nat → Int32) (judge_known : Nat → Int32) (deeds_first : Int32) (deeds_size : Int32) (deeds_kept_e_length : Nat → Int32) (deeds_kept_e_who : Nat → (Nat → Int32)) (deeds_numbers : Nat → Int32) (deeds_changes : Nat → Int32) (deeds_greatest : Nat → Int32) (x1 : Int32) (x2 : Int32) : Option (Int32 × (Nat → Int32) × Int32 × (Nat → Int32) × (Nat → Int32) × Int32 × Int32 × (Nat → Int32) × (Nat → (Nat → Int32)) × (Nat → Int32) × (Nat → Int32) × (Nat → Int32)) := (if (f_Crowd_isPerson crowd_people x1) = 0 then (some ((-1), crowd_heights, text_top, text_worked, judge_known, deeds_first, deeds_size, deeds_kept_e_length, deeds_kept_e_who, deeds_numbers, deeds_changes, deeds_greatest)) else (if x2 < 1 then (some ((-1), crowd_heights, text_top, text_worked, judge_known, deeds_first, deeds_size, deeds_kept_e_length, deeds_kept_e_who, deeds_numbers, deeds_changes, deeds_greatest)) else (if x2 ≤ 20 then (zb1 (f_Crowd_heightGrown crowd_people crowd_heights x1 x2) fun r_2 => (zb1 (f_Crowd_isFree crowd_people crowd_heights r_2 x1) fun r_4 => (if r_4 = 0 then (some ((-1), crowd_heights, text_top, text_worked, judge_known, deeds_first, deeds_size, deeds_kept_e_length, deeds_kept_e_who, deeds_numbers, deeds_changes, deeds_greatest)) else (zb8 (f_Deeds_begin deeds_first deeds_size crowd_people crowd_heights text_length text_top text_steps text_worked judge_known deeds_kept_e_length deeds_kept_e_who deeds_numbers queue_length queue_who) fun deeds_first_6 deeds_size_7 text_top_8 text_worked_9 judge_known_10 deeds_kept_e_length_11 deeds_kept_e_who_12 deeds_numbers_13 => (zb2 (f_T_changeHeight crowd_people crowd_heights judge_known_10 x1 r_2) fun crowd_heights_15 judge_known_16 => (zb5 (f_Deeds_end crowd_people crowd_heights_15 text_length text_top_8 text_steps text_worked_9 judge_known_16 deeds_numbers_13 deeds_changes deeds_greatest queue_length queue_who) fun text_top_18 text_worked_19 judge_known_20 deeds_changes_21 deeds_greatest_22 => (some (r_2, crowd_heights_15, text_top_18, text_worked_19, judge_known_20, deeds_first_6, deeds_size_7, deeds_kept_e_length_11, deeds_kept_e_who_12, deeds_numbers_13, deeds_changes_21, deeds_greatest_22)))))))) else (some ((-1), crowd_heights, text_top, text_worked, judge_known, deeds_first, deeds_size, deeds_kept_e_length, deeds_kept_e_who, deeds_numbers, deeds_changes, deeds_greatest)))))
set_option maxRecDepth 100000 in
set_option maxHeartbeats 4000000 in
theorem c_T_grow (l : Launch) (G : zG) (a_this : Nat) (a_crowd : Nat) (a_queue : Nat) (a_text : Nat) (a_judge : Nat) (a_deeds : Nat) (a_mendings : Nat) (a_picture : Nat) (a_shelves : Nat) (a_books : Nat) (a_thoughts : Nat) (a_heads : Nat) (a_crowd_heights : Nat) (a_queue_who : Nat) (a_text_tape : Nat) (a_text_reader : Nat) (a_text_steps : Nat) (a_text_worked : Nat) (a_judge_known : Nat) (a_deeds_kept : Nat) (a_deeds_numbers : Nat) (a_deeds_changes : Nat) (a_deeds_greatest : Nat) (a_deeds_kept_e : Nat → Nat) (a_deeds_kept_e_who : Nat → Nat) (hasPicture : Int32) (crowd_people : Int32) (crowd_heights : Nat → Int32) (queue_length : Int32) (queue_who : Nat → Int32) (text_fed : Int32) (text_length : Int32) (text_top : Int32) (text_steps : Nat → Int32) (text_worked : Nat → Int32) (judge_known : Nat → Int32) (deeds_first : Int32) (deeds_size : Int32) (deeds_kept_e_length : Nat → Int32) (deeds_kept_e_who : Nat → (Nat → Int32)) (deeds_numbers : Nat → Int32) (deeds_changes : Nat → Int32) (deeds_greatest : Nat → Int32) (x1 : Int32) (x2 : Int32) (r_ : Int32) (o_crowd_heights : Nat → Int32) (o_text_top : Int32) (o_text_worked : Nat → Int32) (o_judge_known : Nat → Int32) (o_deeds_first : Int32) (o_deeds_size : Int32) (o_deeds_kept_e_length : Nat → Int32) (o_deeds_kept_e_who : Nat → (Nat → Int32)) (o_deeds_numbers : Nat → Int32) (o_deeds_changes : Nat → Int32) (o_deeds_greatest : Nat → Int32) (hf : f_T_grow crowd_people crowd_heights queue_length queue_who text_length text_top text_steps text_worked judge_known deeds_first deeds_size deeds_kept_e_length deeds_kept_e_who deeds_numbers deeds_changes deeds_greatest x1 x2 = some (r_, o_crowd_heights, o_text_top, o_text_worked, o_judge_known, o_deeds_first, o_deeds_size, o_deeds_kept_e_length, o_deeds_kept_e_who, o_deeds_numbers, o_deeds_changes, o_deeds_greatest)) : zM l yX11_grow cX11_grow 4 (some .int) 5 164 G [.ref a_this, .int x1, .int x2] (w_T_grow G a_this a_crowd a_queue a_text a_judge a_deeds a_mendings a_picture a_shelves a_books a_thoughts a_heads a_crowd_heights a_queue_who a_text_tape a_text_reader a_text_steps a_text_worked a_judge_known a_deeds_kept a_deeds_numbers a_deeds_changes a_deeds_greatest a_deeds_kept_e a_deeds_kept_e_who hasPicture crowd_people crowd_heights queue_length queue_who text_fed text_length text_top text_steps text_worked judge_known deeds_first deeds_size deeds_kept_e_length deeds_kept_e_who deeds_numbers deeds_changes deeds_greatest) (some (.int r_)) (w_T_grow G a_this a_crowd a_queue a_text a_judge a_deeds a_mendings a_picture a_shelves a_books a_thoughts a_heads a_crowd_heights a_queue_who a_text_tape a_text_reader a_text_steps a_text_worked a_judge_known a_deeds_kept a_deeds_numbers a_deeds_changes a_deeds_greatest a_deeds_kept_e a_deeds_kept_e_who hasPicture crowd_people o_crowd_heights queue_length queue_who text_fed text_length o_text_top text_steps o_text_worked o_judge_known o_deeds_first o_deeds_size o_deeds_kept_e_length o_deeds_kept_e_who o_deeds_numbers o_deeds_changes o_deeds_greatest) := by
  refine zM.of [(0, .ref a_this), (1, .int x1), (2, .int x2)] (own := RX11) rfl (by decide +kernel) (Nat.le_of_ble_eq_true rfl) rfl rfl fun X hX F => ?_
  subst hX
  replace hf := (f_T_grow.eq_1 ..).symm.trans hf
  refine z_aload_n F 0 dX11_grow_0 rfl rfl ?_
  refine z_get F 0 11 0 inlX11 rfl rfl (by decide) fl_X11_10 rfl dX11_grow_1 ?_
  refine z_iload_n F 1 dX11_grow_4 rfl rfl ?_
  refine z_callVm (rest := []) F 1 (c_Crowd_isPerson (xL X) G a_crowd a_crowd_heights crowd_people x1 _ rfl) hy_X1_isPerson ml_X11_119 hd_X1_isPerson ⟨by omega, by omega⟩ rfl [1] rfl rfl 1 rfl rfl (w_T_grow G a_this a_crowd a_queue a_text a_judge a_deeds a_mendings a_picture a_shelves a_books a_thoughts a_heads a_crowd_heights a_queue_who a_text_tape a_text_reader a_text_steps a_text_worked a_judge_known a_deeds_kept a_deeds_numbers a_deeds_changes a_deeds_greatest a_deeds_kept_e a_deeds_kept_e_who hasPicture crowd_people crowd_heights queue_length queue_who text_fed text_length text_top text_steps text_worked judge_known deeds_first deeds_size deeds_kept_e_length deeds_kept_e_who deeds_numbers deeds_changes deeds_greatest) [none, some 0, none, none, none, none, none, none, none, none, none, none, none, none, none, none, none, none, none, none, none, none, none, none, none, none, none, none, none, none, none, none, none, none, none, none, none, none, none] rfl (by decide +kernel) rfl rfl (Nat.le_of_ble_eq_true rfl) dX11_grow_5 (fun hz_1 => ?_)
  refine z_if_eq F 22 dX11_grow_8 (by decide) hf (fun hf _ => ?_) (fun hf _ => ?_)
  · refine z_iconst F (-1) dX11_grow_22 rfl ?_
    have eq1 := Option.some.inj hf
    obtain ⟨ee1, eq2⟩ := Prod.mk.inj eq1
    obtain ⟨ee2, eq3⟩ := Prod.mk.inj eq2
    obtain ⟨ee3, eq4⟩ := Prod.mk.inj eq3
    obtain ⟨ee4, eq5⟩ := Prod.mk.inj eq4
    obtain ⟨ee5, eq6⟩ := Prod.mk.inj eq5
    obtain ⟨ee6, eq7⟩ := Prod.mk.inj eq6
    obtain ⟨ee7, eq8⟩ := Prod.mk.inj eq7
    obtain ⟨ee8, eq9⟩ := Prod.mk.inj eq8
    obtain ⟨ee9, eq10⟩ := Prod.mk.inj eq9
    obtain ⟨ee10, eq11⟩ := Prod.mk.inj eq10
    obtain ⟨ee11, ee12⟩ := Prod.mk.inj eq11
    subst ee1
    subst ee2
    subst ee3
    subst ee4
    subst ee5
    subst ee6
    subst ee7
    subst ee8
    subst ee9
    subst ee10
    subst ee11
    subst ee12
    exact z_iret F rfl rfl rfl rfl dX11_grow_23
  · refine z_iload_n F 2 dX11_grow_11 rfl rfl ?_
    refine z_iconst F (1) dX11_grow_12 rfl ?_
    refine z_icmp_lt F 22 dX11_grow_13 (by decide) hf (fun hf _ => ?_) (fun hf _ => ?_)
    · refine z_iconst F (-1) dX11_grow_22 rfl ?_
      have eq1 := Option.some.inj hf
      obtain ⟨ee1, eq2⟩ := Prod.mk.inj eq1
      obtain ⟨ee2, eq3⟩ := Prod.mk.inj eq2
      obtain ⟨ee3, eq4⟩ := Prod.mk.inj eq3
      obtain ⟨ee4, eq5⟩ := Prod.mk.inj eq4
      obtain ⟨ee5, eq6⟩ := Prod.mk.inj eq5
      obtain ⟨ee6, eq7⟩ := Prod.mk.inj eq6
      obtain ⟨ee7, eq8⟩ := Prod.mk.inj eq7
      obtain ⟨ee8, eq9⟩ := Prod.mk.inj eq8
      obtain ⟨ee9, eq10⟩ := Prod.mk.inj eq9
      obtain ⟨ee10, eq11⟩ := Prod.mk.inj eq10
      obtain ⟨ee11, ee12⟩ := Prod.mk.inj eq11
      subst ee1
      subst ee2
      subst ee3
      subst ee4
      subst ee5
      subst ee6
      subst ee7
      subst ee8
      subst ee9
      subst ee10
      subst ee11
      subst ee12
      exact z_iret F rfl rfl rfl rfl dX11_grow_23
    · refine z_iload_n F 2 dX11_grow_16 rfl rfl ?_
      refine z_bipush F (20) dX11_grow_17 rfl ?_
      refine z_icmp_le F 24 dX11_grow_19 (by decide) hf (fun hf _ => ?_) (fun hf _ => ?_)
      · refine z_aload_n F 0 dX11_grow_24 rfl rfl ?_
        refine z_get F 0 11 0 inlX11 rfl rfl (by decide) fl_X11_10 rfl dX11_grow_25 ?_
        refine z_iload_n F 1 dX11_grow_28 rfl rfl ?_
        refine z_iload_n F 2 dX11_grow_29 rfl rfl ?_
        obtain ⟨r_2, hg, hf⟩ := zb1_some hf
        refine z_callVm (rest := []) F 1 (c_Crowd_heightGrown (xL X) G a_crowd a_crowd_heights crowd_people crowd_heights x1 x2 r_2 hg) hy_X1_heightGrown ml_X11_181 hd_X1_heightGrown ⟨by omega, by omega⟩ rfl [1, 2] rfl rfl 1 rfl rfl (w_T_grow G a_this a_crowd a_queue a_text a_judge a_deeds a_mendings a_picture a_shelves a_books a_thoughts a_heads a_crowd_heights a_queue_who a_text_tape a_text_reader a_text_steps a_text_worked a_judge_known a_deeds_kept a_deeds_numbers a_deeds_changes a_deeds_greatest a_deeds_kept_e a_deeds_kept_e_who hasPicture crowd_people crowd_heights queue_length queue_who text_fed text_length text_top text_steps text_worked judge_known deeds_first deeds_size deeds_kept_e_length deeds_kept_e_who deeds_numbers deeds_changes deeds_greatest) [none, some 0, some 1, none, none, none, none, none, none, none, none, none, none, none, none, none, none, none, none, none, none, none, none, none, none, none, none, none, none, none, none, none, none, none, none, none, none, none, none] rfl (by decide +kernel) rfl rfl (Nat.le_of_ble_eq_true rfl) dX11_grow_30 (fun hz_3 => ?_)
        refine z_istore_n F [(3, .int r_2), (0, .ref a_this), (1, .int x1), (2, .int x2)] dX11_grow_33 rfl (by decide) rfl ?_
        refine z_aload_n F 1 dX11_grow_34 rfl rfl ?_
        refine z_get F 0 11 0 inlX11 rfl rfl (by decide) fl_X11_10 rfl dX11_grow_35 ?_
        refine z_iload_n F 0 dX11_grow_38 rfl rfl ?_
        refine z_iload_n F 2 dX11_grow_39 rfl rfl ?_
        obtain ⟨r_4, hg, hf⟩ := zb1_some hf
        refine z_callVm (rest := []) F 1 (c_Crowd_isFree (xL X) G a_crowd a_crowd_heights crowd_people crowd_heights r_2 x1 r_4 hg) hy_X1_isFree ml_X11_122 hd_X1_isFree ⟨by omega, by omega⟩ rfl [1, 2] rfl rfl 1 rfl rfl (w_T_grow G a_this a_crowd a_queue a_text a_judge a_deeds a_mendings a_picture a_shelves a_books a_thoughts a_heads a_crowd_heights a_queue_who a_text_tape a_text_reader a_text_steps a_text_worked a_judge_known a_deeds_kept a_deeds_numbers a_deeds_changes a_deeds_greatest a_deeds_kept_e a_deeds_kept_e_who hasPicture crowd_people crowd_heights queue_length queue_who text_fed text_length text_top text_steps text_worked judge_known deeds_first deeds_size deeds_kept_e_length deeds_kept_e_who deeds_numbers deeds_changes deeds_greatest) [none, some 0, some 1, none, none, none, none, none, none, none, none, none, none, none, none, none, none, none, none, none, none, none, none, none, none, none, none, none, none, none, none, none, none, none, none, none, none, none, none] rfl (by decide +kernel) rfl rfl (Nat.le_of_ble_eq_true rfl) dX11_grow_40 (fun hz_5 => ?_)
        refine z_if_ne F 48 dX11_grow_43 (by decide) hf (fun hf _ => ?_) (fun hf _ => ?_)
        · refine z_aload_n F 1 dX11_grow_48 rfl rfl ?_
          refine z_get F 0 11 4 inlX11 rfl rfl (by decide) fl_X11_44 rfl dX11_grow_49 ?_
          refine z_aload_n F 1 dX11_grow_52 rfl rfl ?_
          refine z_get F 0 11 1 inlX11 rfl rfl (by decide) fl_X11_19 rfl dX11_grow_53 ?_
          obtain ⟨deeds_first_6, deeds_size_7, text_top_8, text_worked_9, judge_known_10, deeds_kept_e_length_11, deeds_kept_e_who_12, deeds_numbers_13, hg, hf⟩ := zb8_some hf
          refine z_callVm (rest := []) F 2 (c_Deeds_begin (xL X) G a_deeds a_judge a_deeds_kept a_deeds_numbers a_deeds_changes a_deeds_greatest a_crowd a_text a_judge_known a_crowd_heights a_text_tape a_text_reader a_text_steps a_text_worked a_deeds_kept_e a_deeds_kept_e_who a_queue a_queue_who deeds_first deeds_size crowd_people crowd_heights text_fed text_length text_top text_steps text_worked judge_known deeds_kept_e_length deeds_kept_e_who deeds_numbers queue_length queue_who deeds_first_6 deeds_size_7 text_top_8 text_worked_9 judge_known_10 deeds_kept_e_length_11 deeds_kept_e_who_12 deeds_numbers_13 hg) hy_X2_begin ml_X11_165 hd_X2_begin ⟨by omega, by omega⟩ rfl [10, 8, 1, 2, 5, 6, 7, 9, 11, 12, 13, 14, 15, 16, 17, 18, 19, 20, 21, 22, 23, 24, 25, 26, 27, 28, 29, 30, 31, 32, 33, 34, 35, 36, 3, 4] rfl rfl 10 rfl rfl (w_T_grow G a_this a_crowd a_queue a_text a_judge a_deeds a_mendings a_picture a_shelves a_books a_thoughts a_heads a_crowd_heights a_queue_who a_text_tape a_text_reader a_text_steps a_text_worked a_judge_known a_deeds_kept a_deeds_numbers a_deeds_changes a_deeds_greatest a_deeds_kept_e a_deeds_kept_e_who hasPicture crowd_people crowd_heights queue_length queue_who text_fed text_length text_top_8 text_steps text_worked_9 judge_known_10 deeds_first_6 deeds_size_7 deeds_kept_e_length_11 deeds_kept_e_who_12 deeds_numbers_13 deeds_changes deeds_greatest) [none, some 2, some 3, some 34, some 35, some 4, some 5, some 6, some 1, some 7, some 0, some 8, some 9, some 10, some 11, some 12, some 13, some 14, some 15, some 16, some 17, some 18, some 19, some 20, some 21, some 22, some 23, some 24, some 25, some 26, some 27, some 28, some 29, some 30, some 31, some 32, some 33, none, none] rfl (by decide +kernel) rfl rfl (Nat.le_of_ble_eq_true rfl) dX11_grow_56 (fun hz_14 => ?_)
          refine z_aload_n F 1 dX11_grow_59 rfl rfl ?_
          refine z_iload_n F 2 dX11_grow_60 rfl rfl ?_
          refine z_iload_n F 0 dX11_grow_61 rfl rfl ?_
          obtain ⟨crowd_heights_15, judge_known_16, hg, hf⟩ := zb2_some hf
          refine z_callVm (rest := []) F 11 (c_T_changeHeight (xL X) G a_this a_crowd a_queue a_text a_judge a_deeds a_mendings a_picture a_shelves a_books a_thoughts a_heads a_crowd_heights a_judge_known hasPicture crowd_people crowd_heights judge_known_10 x1 r_2 crowd_heights_15 judge_known_16 hg) hy_X11_changeHeight ml_X11_133 hd_X11_changeHeight ⟨by omega, by omega⟩ rfl [0, 1, 2, 8, 9] rfl rfl 0 rfl rfl (w_T_grow G a_this a_crowd a_queue a_text a_judge a_deeds a_mendings a_picture a_shelves a_books a_thoughts a_heads a_crowd_heights a_queue_who a_text_tape a_text_reader a_text_steps a_text_worked a_judge_known a_deeds_kept a_deeds_numbers a_deeds_changes a_deeds_greatest a_deeds_kept_e a_deeds_kept_e_who hasPicture crowd_people crowd_heights_15 queue_length queue_who text_fed text_length text_top_8 text_steps text_worked_9 judge_known_16 deeds_first_6 deeds_size_7 deeds_kept_e_length_11 deeds_kept_e_who_12 deeds_numbers_13 deeds_changes deeds_greatest) [some 0, some 1, some 2, none, none, none, none, none, some 3, some 4, none, none, none, none, none, none, none, none, none, none, none, none, none, none, none, none, none, none, none, none, none, none, none, none, none, none, none, none, none] rfl (by decide +kernel) rfl rfl (Nat.le_of_ble_eq_true rfl) dX11_grow_62 (fun hz_17 => ?_)
          refine z_aload_n F 1 dX11_grow_65 rfl rfl ?_
          refine z_get F 0 11 4 inlX11 rfl rfl (by decide) fl_X11_44 rfl dX11_grow_66 ?_
          refine z_aload_n F 1 dX11_grow_69 rfl rfl ?_
          refine z_get F 0 11 1 inlX11 rfl rfl (by decide) fl_X11_19 rfl dX11_grow_70 ?_
          obtain ⟨text_top_18, text_worked_19, judge_known_20, deeds_changes_21, deeds_greatest_22, hg, hf⟩ := zb5_some hf
          refine z_callVm (rest := []) F 2 (c_Deeds_end (xL X) G a_deeds a_judge a_deeds_kept a_deeds_numbers a_deeds_changes a_deeds_greatest a_crowd a_text a_judge_known a_crowd_heights a_text_tape a_text_reader a_text_steps a_text_worked a_queue a_queue_who deeds_first_6 deeds_size_7 crowd_people crowd_heights_15 text_fed text_length text_top_8 text_steps text_worked_9 judge_known_16 deeds_numbers_13 deeds_changes deeds_greatest queue_length queue_who text_top_18 text_worked_19 judge_known_20 deeds_changes_21 deeds_greatest_22 hg) hy_X2_end ml_X11_172 hd_X2_end ⟨by omega, by omega⟩ rfl [10, 8, 1, 2, 5, 6, 7, 9, 36, 37, 38, 3, 4] rfl rfl 10 rfl rfl (w_T_grow G a_this a_crowd a_queue a_text a_judge a_deeds a_mendings a_picture a_shelves a_books a_thoughts a_heads a_crowd_heights a_queue_who a_text_tape a_text_reader a_text_steps a_text_worked a_judge_known a_deeds_kept a_deeds_numbers a_deeds_changes a_deeds_greatest a_deeds_kept_e a_deeds_kept_e_who hasPicture crowd_people crowd_heights_15 queue_length queue_who text_fed text_length text_top_18 text_steps text_worked_19 judge_known_20 deeds_first_6 deeds_size_7 deeds_kept_e_length_11 deeds_kept_e_who_12 deeds_numbers_13 deeds_changes_21 deeds_greatest_22) [none, some 2, some 3, some 11, some 12, some 4, some 5, some 6, some 1, some 7, some 0, none, none, none, none, none, none, none, none, none, none, none, none, none, none, none, none, none, none, none, none, none, none, none, none, none, some 8, some 9, some 10] rfl (by decide +kernel) rfl rfl (Nat.le_of_ble_eq_true rfl) dX11_grow_73 (fun hz_23 => ?_)
          refine z_iload_n F 0 dX11_grow_76 rfl rfl ?_
          have eq1 := Option.some.inj hf
          obtain ⟨ee1, eq2⟩ := Prod.mk.inj eq1
          obtain ⟨ee2, eq3⟩ := Prod.mk.inj eq2
          obtain ⟨ee3, eq4⟩ := Prod.mk.inj eq3
          obtain ⟨ee4, eq5⟩ := Prod.mk.inj eq4
          obtain ⟨ee5, eq6⟩ := Prod.mk.inj eq5
          obtain ⟨ee6, eq7⟩ := Prod.mk.inj eq6
          obtain ⟨ee7, eq8⟩ := Prod.mk.inj eq7
          obtain ⟨ee8, eq9⟩ := Prod.mk.inj eq8
          obtain ⟨ee9, eq10⟩ := Prod.mk.inj eq9
          obtain ⟨ee10, eq11⟩ := Prod.mk.inj eq10
          obtain ⟨ee11, ee12⟩ := Prod.mk.inj eq11
          subst ee1
          subst ee2
          subst ee3
          subst ee4
          subst ee5
          subst ee6
          subst ee7
          subst ee8
          subst ee9
          subst ee10
          subst ee11
          subst ee12
          exact z_iret F rfl rfl rfl rfl dX11_grow_77
        · refine z_iconst F (-1) dX11_grow_46 rfl ?_
          have eq1 := Option.some.inj hf
          obtain ⟨ee1, eq2⟩ := Prod.mk.inj eq1
          obtain ⟨ee2, eq3⟩ := Prod.mk.inj eq2
          obtain ⟨ee3, eq4⟩ := Prod.mk.inj eq3
          obtain ⟨ee4, eq5⟩ := Prod.mk.inj eq4
          obtain ⟨ee5, eq6⟩ := Prod.mk.inj eq5
          obtain ⟨ee6, eq7⟩ := Prod.mk.inj eq6
          obtain ⟨ee7, eq8⟩ := Prod.mk.inj eq7
          obtain ⟨ee8, eq9⟩ := Prod.mk.inj eq8
          obtain ⟨ee9, eq10⟩ := Prod.mk.inj eq9
          obtain ⟨ee10, eq11⟩ := Prod.mk.inj eq10
          obtain ⟨ee11, ee12⟩ := Prod.mk.inj eq11
          subst ee1
          subst ee2
          subst ee3
          subst ee4
          subst ee5
          subst ee6
          subst ee7
          subst ee8
          subst ee9
          subst ee10
          subst ee11
          subst ee12
          exact z_iret F rfl rfl rfl rfl dX11_grow_47
      · refine z_iconst F (-1) dX11_grow_22 rfl ?_
        have eq1 := Option.some.inj hf
        obtain ⟨ee1, eq2⟩ := Prod.mk.inj eq1
        obtain ⟨ee2, eq3⟩ := Prod.mk.inj eq2
        obtain ⟨ee3, eq4⟩ := Prod.mk.inj eq3
        obtain ⟨ee4, eq5⟩ := Prod.mk.inj eq4
        obtain ⟨ee5, eq6⟩ := Prod.mk.inj eq5
        obtain ⟨ee6, eq7⟩ := Prod.mk.inj eq6
        obtain ⟨ee7, eq8⟩ := Prod.mk.inj eq7
        obtain ⟨ee8, eq9⟩ := Prod.mk.inj eq8
        obtain ⟨ee9, eq10⟩ := Prod.mk.inj eq9
        obtain ⟨ee10, eq11⟩ := Prod.mk.inj eq10
        obtain ⟨ee11, ee12⟩ := Prod.mk.inj eq11
        subst ee1
        subst ee2
        subst ee3
        subst ee4
        subst ee5
        subst ee6
        subst ee7
        subst ee8
        subst ee9
        subst ee10
        subst ee11
        subst ee12
        exact z_iret F rfl rfl rfl rfl dX11_grow_23

abbrev w_T_restore (G : zG) (a_this : Nat) (a_crowd : Nat) (a_queue : Nat) (a_text : Nat) (a_judge : Nat) (a_deeds : Nat) (a_mendings : Nat) (a_picture : Nat) (a_shelves : Nat) (a_books : Nat) (a_thoughts : Nat) (a_heads : Nat) (a_crowd_heights : Nat) (a_queue_who : Nat) (a_text_tape : Nat) (a_text_reader : Nat) (a_text_steps : Nat) (a_text_worked : Nat) (a_judge_known : Nat) (a_deeds_kept : Nat) (a_deeds_numbers : Nat) (a_deeds_changes : Nat) (a_deeds_greatest : Nat) (a_deeds_kept_e : Nat → Nat) (a_deeds_kept_e_who : Nat → Nat) (a_shelves_sorts : Nat) (a_shelves_sizes : Nat) (a_shelves_held : Nat) (a_shelves_elements : Nat) (a_shelves_elements_e : Nat → Nat) (a_books_numbers : Nat) (a_books_left : Nat) (a_books_result : Nat) (a_books_fillings : Nat) (a_books_spare : Nat) (a_books_rowCounts : Nat) (a_books_left_who : Nat) (a_books_result_who : Nat) (hasPicture : Int32) (crowd_people : Int32) (crowd_heights : Nat → Int32) (queue_length : Int32) (queue_who : Nat → Int32) (text_fed : Int32) (text_length : Int32) (text_top : Int32) (text_steps : Nat → Int32) (text_worked : Nat → Int32) (judge_known : Nat → Int32) (deeds_first : Int32) (deeds_size : Int32) (deeds_kept_e_length : Nat → Int32) (deeds_kept_e_who : Nat → (Nat → Int32)) (deeds_numbers : Nat → Int32) (deeds_changes : Nat → Int32) (deeds_greatest : Nat → Int32) (shelves_sorts : Nat → Int32) (shelves_sizes : Nat → Int32) (shelves_elements_e : Nat → (Nat → Int64)) (books_size : Int32) (books_numbers : Nat → Int32) (books_left_length : Int32) (books_left_who : Nat → Int32) (books_result_length : Int32) (books_result_who : Nat → Int32) : va_W := [(a_this, cO 11 [.ref a_crowd, .ref a_queue, .ref a_text, .ref a_judge, .ref a_deeds, .ref a_mendings, .ref a_picture, .int hasPicture, .ref a_shelves, .ref a_books, .ref a_thoughts, .ref a_heads]), (a_crowd, cO 1 [.ref a_crowd_heights, .int crowd_people]), (a_crowd_heights, cI G 9 crowd_heights), (a_queue, cO 7 [.ref a_queue_who, .int queue_length]), (a_queue_who, cI G 9 queue_who), (a_text, cO 5 [.ref a_text_tape, .int text_fed, .ref a_text_reader, .ref a_text_steps, .int text_length, .ref a_text_worked, .int text_top]), (a_text_steps, cI G 121 text_steps), (a_text_worked, cI G 121 text_worked), (a_judge, cO 4 [.ref a_crowd, .ref a_text, .ref a_judge_known]), (a_judge_known, cB G 729 judge_known), (a_deeds, cO 2 [.ref a_judge, .ref a_deeds_kept, .int deeds_first, .int deeds_size, .ref a_deeds_numbers, .ref a_deeds_changes, .ref a_deeds_greatest]), (a_deeds_kept, cL G 12 (fun j => some (a_deeds_kept_e j))), ((a_deeds_kept_e 0), cO 7 [.ref (a_deeds_kept_e_who 0), .int (deeds_kept_e_length 0)]), ((a_deeds_kept_e_who 0), cI G 9 (deeds_kept_e_who 0)), ((a_deeds_kept_e 1), cO 7 [.ref (a_deeds_kept_e_who 1), .int (deeds_kept_e_length 1)]), ((a_deeds_kept_e_who 1), cI G 9 (deeds_kept_e_who 1)), ((a_deeds_kept_e 2), cO 7 [.ref (a_deeds_kept_e_who 2), .int (deeds_kept_e_length 2)]), ((a_deeds_kept_e_who 2), cI G 9 (deeds_kept_e_who 2)), ((a_deeds_kept_e 3), cO 7 [.ref (a_deeds_kept_e_who 3), .int (deeds_kept_e_length 3)]), ((a_deeds_kept_e_who 3), cI G 9 (deeds_kept_e_who 3)), ((a_deeds_kept_e 4), cO 7 [.ref (a_deeds_kept_e_who 4), .int (deeds_kept_e_length 4)]), ((a_deeds_kept_e_who 4), cI G 9 (deeds_kept_e_who 4)), ((a_deeds_kept_e 5), cO 7 [.ref (a_deeds_kept_e_who 5), .int (deeds_kept_e_length 5)]), ((a_deeds_kept_e_who 5), cI G 9 (deeds_kept_e_who 5)), ((a_deeds_kept_e 6), cO 7 [.ref (a_deeds_kept_e_who 6), .int (deeds_kept_e_length 6)]), ((a_deeds_kept_e_who 6), cI G 9 (deeds_kept_e_who 6)), ((a_deeds_kept_e 7), cO 7 [.ref (a_deeds_kept_e_who 7), .int (deeds_kept_e_length 7)]), ((a_deeds_kept_e_who 7), cI G 9 (deeds_kept_e_who 7)), ((a_deeds_kept_e 8), cO 7 [.ref (a_deeds_kept_e_who 8), .int (deeds_kept_e_length 8)]), ((a_deeds_kept_e_who 8), cI G 9 (deeds_kept_e_who 8)), ((a_deeds_kept_e 9), cO 7 [.ref (a_deeds_kept_e_who 9), .int (deeds_kept_e_length 9)]), ((a_deeds_kept_e_who 9), cI G 9 (deeds_kept_e_who 9)), ((a_deeds_kept_e 10), cO 7 [.ref (a_deeds_kept_e_who 10), .int (deeds_kept_e_length 10)]), ((a_deeds_kept_e_who 10), cI G 9 (deeds_kept_e_who 10)), ((a_deeds_kept_e 11), cO 7 [.ref (a_deeds_kept_e_who 11), .int (deeds_kept_e_length 11)]), ((a_deeds_kept_e_who 11), cI G 9 (deeds_kept_e_who 11)), (a_deeds_numbers, cI G 9 deeds_numbers), (a_deeds_changes, cI G 9 deeds_changes), (a_deeds_greatest, cI G 9 deeds_greatest), (a_shelves, cO 9 [.ref a_shelves_sorts, .ref a_shelves_sizes, .ref a_shelves_held, .ref a_shelves_elements]), (a_shelves_sorts, cI G 6 shelves_sorts), (a_shelves_sizes, cI G 6 shelves_sizes), (a_shelves_elements, cJJ G 6 (fun j => some (a_shelves_elements_e j))), ((a_shelves_elements_e 0), cJ G 60 (shelves_elements_e 0)), ((a_shelves_elements_e 1), cJ G 60 (shelves_elements_e 1)), ((a_shelves_elements_e 2), cJ G 60 (shelves_elements_e 2)), ((a_shelves_elements_e 3), cJ G 60 (shelves_elements_e 3)), ((a_shelves_elements_e 4), cJ G 60 (shelves_elements_e 4)), ((a_shelves_elements_e 5), cJ G 60 (shelves_elements_e 5)), (a_books, cO 0 [.ref a_crowd, .ref a_shelves, .ref a_books_numbers, .int books_size, .ref a_books_left, .ref a_books_result, .ref a_books_fillings, .ref a_books_spare, .ref a_books_rowCounts]), (a_books_numbers, cI G 9 books_numbers), (a_books_left, cO 7 [.ref a_books_left_who, .int books_left_length]), (a_books_left_who, cI G 9 books_left_who), (a_books_result, cO 7 [.ref a_books_result_who, .int books_result_length]), (a_books_result_who, cI G 9 books_result_who)]
def f_T_restore (crowd_people : Int32) (crowd_heights : Nat → Int32) (queue_length : Int32) (queue_who : Nat → Int32) (text_length : Int32) (text_top : Int32) (text_steps : Nat → Int32) (text_worked : Nat → Int32) (judge_known : Nat → Int32) (deeds_first : Int32) (deeds_size : Int32) (deeds_kept_e_length : Nat → Int32) (deeds_kept_e_who : Nat → (Nat → Int32)) (deeds_numbers : Nat → Int32) (deeds_changes : Nat → Int32) (deeds_greatest : Nat → Int32) (shelves_sorts : Nat → Int32) (shelves_sizes : Nat → Int32) (shelves_elements_e : Nat → (Nat → Int64)) (books_size : Int32) (books_numbers : Nat → Int32) (books_left_length : Int32) (books_left_who : Nat → Int32) (books_result_length : Int32) (books_result_who : Nat → Int32) (x1 : Int32) : Option (Int32 × Int32 × (Nat → Int32) × Int32 × (Nat → Int32) × (Nat → Int32) × Int32 × Int32 × (Nat → Int32) × (Nat → (Nat → Int32)) × (Nat → Int32) × (Nat → Int32) × (Nat → Int32) × Int32 × (Nat → Int32) × Int32 × (Nat → Int32) × Int32 × (Nat → Int32)) := (if (f_Shelves_isShelf x1) = 0 then (some ((-1), queue_length, queue_who, text_top, text_worked, judge_known, deeds_first, deeds_size, deeds_kept_e_length, deeds_kept_e_who, deeds_numbers, deeds_changes, deeds_greatest, books_size, books_numbers, books_left_length, books_left_who, books_result_length, books_result_who)) else (zb3 (f_Books_refusalToRestore books_size shelves_sorts shelves_sizes shelves_elements_e books_numbers queue_length x1) fun r_2 books_size_3 books_numbers_4 => (if r_2 = 0 then (zb8 (f_Deeds_begin deeds_first deeds_size crowd_people crowd_heights text_length text_top text_steps text_worked judge_known deeds_kept_e_length deeds_kept_e_who deeds_numbers queue_length queue_who) fun deeds_first_6 deeds_size_7 text_top_8 text_worked_9 judge_known_10 deeds_kept_e_length_11 deeds_kept_e_who_12 deeds_numbers_13 => (zb4 (f_Books_lineRestored books_size_3 crowd_people crowd_heights books_numbers_4 books_left_length books_left_who books_result_length books_result_who queue_length queue_who) fun books_left_length_15 books_left_who_16 books_result_length_17 books_result_who_18 => (zb2 (f_Line_copyFrom queue_length queue_who books_result_length_17 books_result_who_18) fun queue_length_20 queue_who_21 => (zb5 (f_Deeds_end crowd_people crowd_heights text_length text_top_8 text_steps text_worked_9 judge_known_10 deeds_numbers_13 deeds_changes deeds_greatest queue_length_20 queue_who_21) fun text_top_23 text_worked_24 judge_known_25 deeds_changes_26 deeds_greatest_27 => (some (1, queue_length_20, queue_who_21, text_top_23, text_worked_24, judge_known_25, deeds_first_6, deeds_size_7, deeds_kept_e_length_11, deeds_kept_e_who_12, deeds_numbers_13, deeds_changes_26, deeds_greatest_27, books_size_3, books_numbers_4, books_left_length_15, books_left_who_16, books_result_length_17, books_result_who_18)))))) else (some (r_2, queue_length, queue_who, text_top, text_worked, judge_known, deeds_first, deeds_size, deeds_kept_e_length, deeds_kept_e_who, deeds_numbers, deeds_changes, deeds_greatest, books_size_3, books_numbers_4, books_left_length, books_left_who, books_result_length, books_result_who)))))
set_option maxRecDepth 100000 in
set_option maxHeartbeats 4000000 in
theorem c_T_restore (l : Launch) (G : zG) (a_this : Nat) (a_crowd : Nat) (a_queue : Nat) (a_text : Nat) (a_judge : Nat) (a_deeds : Nat) (a_mendings : Nat) (a_picture : Nat) (a_shelves : Nat) (a_books : Nat) (a_thoughts : Nat) (a_heads : Nat) (a_crowd_heights : Nat) (a_queue_who : Nat) (a_text_tape : Nat) (a_text_reader : Nat) (a_text_steps : Nat) (a_text_worked : Nat) (a_judge_known : Nat) (a_deeds_kept : Nat) (a_deeds_numbers : Nat) (a_deeds_changes : Nat) (a_deeds_greatest : Nat) (a_deeds_kept_e : Nat → Nat) (a_deeds_kept_e_who : Nat → Nat) (a_shelves_sorts : Nat) (a_shelves_sizes : Nat) (a_shelves_held : Nat) (a_shelves_elements : Nat) (a_shelves_elements_e : Nat → Nat) (a_books_numbers : Nat) (a_books_left : Nat) (a_books_result : Nat) (a_books_fillings : Nat) (a_books_spare : Nat) (a_books_rowCounts : Nat) (a_books_left_who : Nat) (a_books_result_who : Nat) (hasPicture : Int32) (crowd_people : Int32) (crowd_heights : Nat → Int32) (queue_length : Int32) (queue_who : Nat → Int32) (text_fed : Int32) (text_length : Int32) (text_top : Int32) (text_steps : Nat → Int32) (text_worked : Nat → Int32) (judge_known : Nat → Int32) (deeds_first : Int32) (deeds_size : Int32) (deeds_kept_e_length : Nat → Int32) (deeds_kept_e_who : Nat → (Nat → Int32)) (deeds_numbers : Nat → Int32) (deeds_changes : Nat → Int32) (deeds_greatest : Nat → Int32) (shelves_sorts : Nat → Int32) (shelves_sizes : Nat → Int32) (shelves_elements_e : Nat → (Nat → Int64)) (books_size : Int32) (books_numbers : Nat → Int32) (books_left_length : Int32) (books_left_who : Nat → Int32) (books_result_length : Int32) (books_result_who : Nat → Int32) (x1 : Int32) (r_ : Int32) (o_queue_length : Int32) (o_queue_who : Nat → Int32) (o_text_top : Int32) (o_text_worked : Nat → Int32) (o_judge_known : Nat → Int32) (o_deeds_first : Int32) (o_deeds_size : Int32) (o_deeds_kept_e_length : Nat → Int32) (o_deeds_kept_e_who : Nat → (Nat → Int32)) (o_deeds_numbers : Nat → Int32) (o_deeds_changes : Nat → Int32) (o_deeds_greatest : Nat → Int32) (o_books_size : Int32) (o_books_numbers : Nat → Int32) (o_books_left_length : Int32) (o_books_left_who : Nat → Int32) (o_books_result_length : Int32) (o_books_result_who : Nat → Int32) (hf : f_T_restore crowd_people crowd_heights queue_length queue_who text_length text_top text_steps text_worked judge_known deeds_first deeds_size deeds_kept_e_length deeds_kept_e_who deeds_numbers deeds_changes deeds_greatest shelves_sorts shelves_sizes shelves_elements_e books_size books_numbers books_left_length books_left_who books_result_length books_result_who x1 = some (r_, o_queue_length, o_queue_who, o_text_top, o_text_worked, o_judge_known, o_deeds_first, o_deeds_size, o_deeds_kept_e_length, o_deeds_kept_e_who, o_deeds_numbers, o_deeds_changes, o_deeds_greatest, o_books_size, o_books_numbers, o_books_left_length, o_books_left_who, o_books_result_length, o_books_result_who)) : zM l yX11_restore cX11_restore 3 (some .int) 6 164 G [.ref a_this, .int x1] (w_T_restore G a_this a_crowd a_queue a_text a_judge a_deeds a_mendings a_picture a_shelves a_books a_thoughts a_heads a_crowd_heights a_queue_who a_text_tape a_text_reader a_text_steps a_text_worked a_judge_known a_deeds_kept a_deeds_numbers a_deeds_changes a_deeds_greatest a_deeds_kept_e a_deeds_kept_e_who a_shelves_sorts a_shelves_sizes a_shelves_held a_shelves_elements a_shelves_elements_e a_books_numbers a_books_left a_books_result a_books_fillings a_books_spare a_books_rowCounts a_books_left_who a_books_result_who hasPicture crowd_people crowd_heights queue_length queue_who text_fed text_length text_top text_steps text_worked judge_known deeds_first deeds_size deeds_kept_e_length deeds_kept_e_who deeds_numbers deeds_changes deeds_greatest shelves_sorts shelves_sizes shelves_elements_e books_size books_numbers books_left_length books_left_who books_result_length books_result_who) (some (.int r_)) (w_T_restore G a_this a_crowd a_queue a_text a_judge a_deeds a_mendings a_picture a_shelves a_books a_thoughts a_heads a_crowd_heights a_queue_who a_text_tape a_text_reader a_text_steps a_text_worked a_judge_known a_deeds_kept a_deeds_numbers a_deeds_changes a_deeds_greatest a_deeds_kept_e a_deeds_kept_e_who a_shelves_sorts a_shelves_sizes a_shelves_held a_shelves_elements a_shelves_elements_e a_books_numbers a_books_left a_books_result a_books_fillings a_books_spare a_books_rowCounts a_books_left_who a_books_result_who hasPicture crowd_people crowd_heights o_queue_length o_queue_who text_fed text_length o_text_top text_steps o_text_worked o_judge_known o_deeds_first o_deeds_size o_deeds_kept_e_length o_deeds_kept_e_who o_deeds_numbers o_deeds_changes o_deeds_greatest shelves_sorts shelves_sizes shelves_elements_e o_books_size o_books_numbers o_books_left_length o_books_left_who o_books_result_length o_books_result_who) := by
  refine zM.of [(0, .ref a_this), (1, .int x1)] (own := RX11) rfl (by decide +kernel) (Nat.le_of_ble_eq_true rfl) rfl rfl fun X hX F => ?_
  subst hX
  replace hf := (f_T_restore.eq_1 ..).symm.trans hf
  refine z_aload_n F 0 dX11_restore_0 rfl rfl ?_
  refine z_get F 0 11 8 inlX11 rfl rfl (by decide) fl_X11_61 rfl dX11_restore_1 ?_
  refine z_iload_n F 1 dX11_restore_4 rfl rfl ?_
  refine z_callVm (rest := []) F 9 (c_Shelves_isShelf (xL X) G a_shelves a_shelves_sorts a_shelves_sizes a_shelves_held a_shelves_elements x1 _ rfl) hy_X9_isShelf ml_X11_102 hd_X9_isShelf ⟨by omega, by omega⟩ rfl [39] rfl rfl 39 rfl rfl (w_T_restore G a_this a_crowd a_queue a_text a_judge a_deeds a_mendings a_picture a_shelves a_books a_thoughts a_heads a_crowd_heights a_queue_who a_text_tape a_text_reader a_text_steps a_text_worked a_judge_known a_deeds_kept a_deeds_numbers a_deeds_changes a_deeds_greatest a_deeds_kept_e a_deeds_kept_e_who a_shelves_sorts a_shelves_sizes a_shelves_held a_shelves_elements a_shelves_elements_e a_books_numbers a_books_left a_books_result a_books_fillings a_books_spare a_books_rowCounts a_books_left_who a_books_result_who hasPicture crowd_people crowd_heights queue_length queue_who text_fed text_length text_top text_steps text_worked judge_known deeds_first deeds_size deeds_kept_e_length deeds_kept_e_who deeds_numbers deeds_changes deeds_greatest shelves_sorts shelves_sizes shelves_elements_e books_size books_numbers books_left_length books_left_who books_result_length books_result_who) [none, none, none, none, none, none, none, none, none, none, none, none, none, none, none, none, none, none, none, none, none, none, none, none, none, none, none, none, none, none, none, none, none, none, none, none, none, none, none, some 0, none, none, none, none, none, none, none, none, none, none, none, none, none, none, none] rfl (by decide +kernel) rfl rfl (Nat.le_of_ble_eq_true rfl) dX11_restore_5 (fun hz_1 => ?_)
  refine z_if_ne F 13 dX11_restore_8 (by decide) hf (fun hf _ => ?_) (fun hf _ => ?_)
  · refine z_aload_n F 0 dX11_restore_13 rfl rfl ?_
    refine z_get F 0 11 9 inlX11 rfl rfl (by decide) fl_X11_70 rfl dX11_restore_14 ?_
    refine z_iload_n F 1 dX11_restore_17 rfl rfl ?_
    refine z_aload_n F 0 dX11_restore_18 rfl rfl ?_
    refine z_get F 0 11 1 inlX11 rfl rfl (by decide) fl_X11_19 rfl dX11_restore_19 ?_
    obtain ⟨r_2, books_size_3, books_numbers_4, hg, hf⟩ := zb3_some hf
    refine z_callVm (rest := []) F 0 (c_Books_refusalToRestore (xL X) G a_books a_crowd a_shelves a_books_numbers a_books_left a_books_result a_books_fillings a_books_spare a_books_rowCounts a_shelves_sorts a_shelves_sizes a_shelves_held a_shelves_elements a_shelves_elements_e a_queue a_queue_who books_size shelves_sorts shelves_sizes shelves_elements_e books_numbers queue_length x1 r_2 books_size_3 books_numbers_4 hg) hy_X0_refusalToRestore ml_X11_184 hd_X0_refusalToRestore ⟨by omega, by omega⟩ rfl [49, 39, 40, 41, 42, 43, 44, 45, 46, 47, 48, 50, 3] rfl rfl 49 rfl rfl (w_T_restore G a_this a_crowd a_queue a_text a_judge a_deeds a_mendings a_picture a_shelves a_books a_thoughts a_heads a_crowd_heights a_queue_who a_text_tape a_text_reader a_text_steps a_text_worked a_judge_known a_deeds_kept a_deeds_numbers a_deeds_changes a_deeds_greatest a_deeds_kept_e a_deeds_kept_e_who a_shelves_sorts a_shelves_sizes a_shelves_held a_shelves_elements a_shelves_elements_e a_books_numbers a_books_left a_books_result a_books_fillings a_books_spare a_books_rowCounts a_books_left_who a_books_result_who hasPicture crowd_people crowd_heights queue_length queue_who text_fed text_length text_top text_steps text_worked judge_known deeds_first deeds_size deeds_kept_e_length deeds_kept_e_who deeds_numbers deeds_changes deeds_greatest shelves_sorts shelves_sizes shelves_elements_e books_size_3 books_numbers_4 books_left_length books_left_who books_result_length books_result_who) [none, none, none, some 12, none, none, none, none, none, none, none, none, none, none, none, none, none, none, none, none, none, none, none, none, none, none, none, none, none, none, none, none, none, none, none, none, none, none, none, some 1, some 2, some 3, some 4, some 5, some 6, some 7, some 8, some 9, some 10, some 0, some 11, none, none, none, none] rfl (by decide +kernel) rfl rfl (Nat.le_of_ble_eq_true rfl) dX11_restore_22 (fun hz_5 => ?_)
    refine z_istore_n F [(2, .int r_2), (0, .ref a_this), (1, .int x1)] dX11_restore_25 rfl (by decide) rfl ?_
    refine z_iload_n F 0 dX11_restore_26 rfl rfl ?_
    refine z_if_eq F 32 dX11_restore_27 (by decide) hf (fun hf _ => ?_) (fun hf _ => ?_)
    · refine z_aload_n F 1 dX11_restore_32 rfl rfl ?_
      refine z_get F 0 11 4 inlX11 rfl rfl (by decide) fl_X11_44 rfl dX11_restore_33 ?_
      refine z_aload_n F 1 dX11_restore_36 rfl rfl ?_
      refine z_get F 0 11 1 inlX11 rfl rfl (by decide) fl_X11_19 rfl dX11_restore_37 ?_
      obtain ⟨deeds_first_6, deeds_size_7, text_top_8, text_worked_9, judge_known_10, deeds_kept_e_length_11, deeds_kept_e_who_12, deeds_numbers_13, hg, hf⟩ := zb8_some hf
      refine z_callVm (rest := []) F 2 (c_Deeds_begin (xL X) G a_deeds a_judge a_deeds_kept a_deeds_numbers a_deeds_changes a_deeds_greatest a_crowd a_text a_judge_known a_crowd_heights a_text_tape a_text_reader a_text_steps a_text_worked a_deeds_kept_e a_deeds_kept_e_who a_queue a_queue_who deeds_first deeds_size crowd_people crowd_heights text_fed text_length text_top text_steps text_worked judge_known deeds_kept_e_length deeds_kept_e_who deeds_numbers queue_length queue_who deeds_first_6 deeds_size_7 text_top_8 text_worked_9 judge_known_10 deeds_kept_e_length_11 deeds_kept_e_who_12 deeds_numbers_13 hg) hy_X2_begin ml_X11_165 hd_X2_begin ⟨by omega, by omega⟩ rfl [10, 8, 1, 2, 5, 6, 7, 9, 11, 12, 13, 14, 15, 16, 17, 18, 19, 20, 21, 22, 23, 24, 25, 26, 27, 28, 29, 30, 31, 32, 33, 34, 35, 36, 3, 4] rfl rfl 10 rfl rfl (w_T_restore G a_this a_crowd a_queue a_text a_judge a_deeds a_mendings a_picture a_shelves a_books a_thoughts a_heads a_crowd_heights a_queue_who a_text_tape a_text_reader a_text_steps a_text_worked a_judge_known a_deeds_kept a_deeds_numbers a_deeds_changes a_deeds_greatest a_deeds_kept_e a_deeds_kept_e_who a_shelves_sorts a_shelves_sizes a_shelves_held a_shelves_elements a_shelves_elements_e a_books_numbers a_books_left a_books_result a_books_fillings a_books_spare a_books_rowCounts a_books_left_who a_books_result_who hasPicture crowd_people crowd_heights queue_length queue_who text_fed text_length text_top_8 text_steps text_worked_9 judge_known_10 deeds_first_6 deeds_size_7 deeds_kept_e_length_11 deeds_kept_e_who_12 deeds_numbers_13 deeds_changes deeds_greatest shelves_sorts shelves_sizes shelves_elements_e books_size_3 books_numbers_4 books_left_length books_left_who books_result_length books_result_who) [none, some 2, some 3, some 34, some 35, some 4, some 5, some 6, some 1, some 7, some 0, some 8, some 9, some 10, some 11, some 12, some 13, some 14, some 15, some 16, some 17, some 18, some 19, some 20, some 21, some 22, some 23, some 24, some 25, some 26, some 27, some 28, some 29, some 30, some 31, some 32, some 33, none, none, none, none, none, none, none, none, none, none, none, none, none, none, none, none, none, none] rfl (by decide +kernel) rfl rfl (Nat.le_of_ble_eq_true rfl) dX11_restore_40 (fun hz_14 => ?_)
      refine z_aload_n F 1 dX11_restore_43 rfl rfl ?_
      refine z_get F 0 11 1 inlX11 rfl rfl (by decide) fl_X11_19 rfl dX11_restore_44 ?_
      refine z_aload_n F 1 dX11_restore_47 rfl rfl ?_
      refine z_get F 0 11 9 inlX11 rfl rfl (by decide) fl_X11_70 rfl dX11_restore_48 ?_
      refine z_aload_n F 1 dX11_restore_51 rfl rfl ?_
      refine z_get F 0 11 1 inlX11 rfl rfl (by decide) fl_X11_19 rfl dX11_restore_52 ?_
      obtain ⟨books_left_length_15, books_left_who_16, books_result_length_17, books_result_who_18, hg, hf⟩ := zb4_some hf
      refine z_callVm (rest := [.ref a_queue]) F 0 (c_Books_lineRestored (xL X) G a_books a_crowd a_shelves a_books_numbers a_books_left a_books_result a_books_fillings a_books_spare a_books_rowCounts a_crowd_heights a_books_left_who a_books_result_who a_queue a_queue_who books_size_3 crowd_people crowd_heights books_numbers_4 books_left_length books_left_who books_result_length books_result_who queue_length queue_who books_left_length_15 books_left_who_16 books_result_length_17 books_result_who_18 hg) hy_X0_lineRestored ml_X11_188 hd_X0_lineRestored ⟨by omega, by omega⟩ rfl [49, 1, 2, 50, 51, 52, 53, 54, 3, 4] rfl rfl 49 rfl rfl (w_T_restore G a_this a_crowd a_queue a_text a_judge a_deeds a_mendings a_picture a_shelves a_books a_thoughts a_heads a_crowd_heights a_queue_who a_text_tape a_text_reader a_text_steps a_text_worked a_judge_known a_deeds_kept a_deeds_numbers a_deeds_changes a_deeds_greatest a_deeds_kept_e a_deeds_kept_e_who a_shelves_sorts a_shelves_sizes a_shelves_held a_shelves_elements a_shelves_elements_e a_books_numbers a_books_left a_books_result a_books_fillings a_books_spare a_books_rowCounts a_books_left_who a_books_result_who hasPicture crowd_people crowd_heights queue_length queue_who text_fed text_length text_top_8 text_steps text_worked_9 judge_known_10 deeds_first_6 deeds_size_7 deeds_kept_e_length_11 deeds_kept_e_who_12 deeds_numbers_13 deeds_changes deeds_greatest shelves_sorts shelves_sizes shelves_elements_e books_size_3 books_numbers_4 books_left_length_15 books_left_who_16 books_result_length_17 books_result_who_18) [none, some 1, some 2, some 8, some 9, none, none, none, none, none, none, none, none, none, none, none, none, none, none, none, none, none, none, none, none, none, none, none, none, none, none, none, none, none, none, none, none, none, none, none, none, none, none, none, none, none, none, none, none, some 0, some 3, some 4, some 5, some 6, some 7] rfl (by decide +kernel) rfl rfl (Nat.le_of_ble_eq_true rfl) dX11_restore_55 (fun hz_19 => ?_)
      obtain ⟨queue_length_20, queue_who_21, hg, hf⟩ := zb2_some hf
      refine z_callVm (rest := []) F 7 (c_Line_copyFrom (xL X) G a_queue a_queue_who a_books_result a_books_result_who queue_length queue_who books_result_length_17 books_result_who_18 queue_length_20 queue_who_21 hg) hy_X7_copyFrom ml_X11_192 hd_X7_copyFrom ⟨by omega, by omega⟩ rfl [3, 4, 53, 54] rfl rfl 3 rfl rfl (w_T_restore G a_this a_crowd a_queue a_text a_judge a_deeds a_mendings a_picture a_shelves a_books a_thoughts a_heads a_crowd_heights a_queue_who a_text_tape a_text_reader a_text_steps a_text_worked a_judge_known a_deeds_kept a_deeds_numbers a_deeds_changes a_deeds_greatest a_deeds_kept_e a_deeds_kept_e_who a_shelves_sorts a_shelves_sizes a_shelves_held a_shelves_elements a_shelves_elements_e a_books_numbers a_books_left a_books_result a_books_fillings a_books_spare a_books_rowCounts a_books_left_who a_books_result_who hasPicture crowd_people crowd_heights queue_length_20 queue_who_21 text_fed text_length text_top_8 text_steps text_worked_9 judge_known_10 deeds_first_6 deeds_size_7 deeds_kept_e_length_11 deeds_kept_e_who_12 deeds_numbers_13 deeds_changes deeds_greatest shelves_sorts shelves_sizes shelves_elements_e books_size_3 books_numbers_4 books_left_length_15 books_left_who_16 books_result_length_17 books_result_who_18) [none, none, none, some 0, some 1, none, none, none, none, none, none, none, none, none, none, none, none, none, none, none, none, none, none, none, none, none, none, none, none, none, none, none, none, none, none, none, none, none, none, none, none, none, none, none, none, none, none, none, none, none, none, none, none, some 2, some 3] rfl (by decide +kernel) rfl rfl (Nat.le_of_ble_eq_true rfl) dX11_restore_58 (fun hz_22 => ?_)
      refine z_aload_n F 1 dX11_restore_61 rfl rfl ?_
      refine z_get F 0 11 4 inlX11 rfl rfl (by decide) fl_X11_44 rfl dX11_restore_62 ?_
      refine z_aload_n F 1 dX11_restore_65 rfl rfl ?_
      refine z_get F 0 11 1 inlX11 rfl rfl (by decide) fl_X11_19 rfl dX11_restore_66 ?_
      obtain ⟨text_top_23, text_worked_24, judge_known_25, deeds_changes_26, deeds_greatest_27, hg, hf⟩ := zb5_some hf
      refine z_callVm (rest := []) F 2 (c_Deeds_end (xL X) G a_deeds a_judge a_deeds_kept a_deeds_numbers a_deeds_changes a_deeds_greatest a_crowd a_text a_judge_known a_crowd_heights a_text_tape a_text_reader a_text_steps a_text_worked a_queue a_queue_who deeds_first_6 deeds_size_7 crowd_people crowd_heights text_fed text_length text_top_8 text_steps text_worked_9 judge_known_10 deeds_numbers_13 deeds_changes deeds_greatest queue_length_20 queue_who_21 text_top_23 text_worked_24 judge_known_25 deeds_changes_26 deeds_greatest_27 hg) hy_X2_end ml_X11_172 hd_X2_end ⟨by omega, by omega⟩ rfl [10, 8, 1, 2, 5, 6, 7, 9, 36, 37, 38, 3, 4] rfl rfl 10 rfl rfl (w_T_restore G a_this a_crowd a_queue a_text a_judge a_deeds a_mendings a_picture a_shelves a_books a_thoughts a_heads a_crowd_heights a_queue_who a_text_tape a_text_reader a_text_steps a_text_worked a_judge_known a_deeds_kept a_deeds_numbers a_deeds_changes a_deeds_greatest a_deeds_kept_e a_deeds_kept_e_who a_shelves_sorts a_shelves_sizes a_shelves_held a_shelves_elements a_shelves_elements_e a_books_numbers a_books_left a_books_result a_books_fillings a_books_spare a_books_rowCounts a_books_left_who a_books_result_who hasPicture crowd_people crowd_heights queue_length_20 queue_who_21 text_fed text_length text_top_23 text_steps text_worked_24 judge_known_25 deeds_first_6 deeds_size_7 deeds_kept_e_length_11 deeds_kept_e_who_12 deeds_numbers_13 deeds_changes_26 deeds_greatest_27 shelves_sorts shelves_sizes shelves_elements_e books_size_3 books_numbers_4 books_left_length_15 books_left_who_16 books_result_length_17 books_result_who_18) [none, some 2, some 3, some 11, some 12, some 4, some 5, some 6, some 1, some 7, some 0, none, none, none, none, none, none, none, none, none, none, none, none, none, none, none, none, none, none, none, none, none, none, none, none, none, some 8, some 9, some 10, none, none, none, none, none, none, none, none, none, none, none, none, none, none, none, none] rfl (by decide +kernel) rfl rfl (Nat.le_of_ble_eq_true rfl) dX11_restore_69 (fun hz_28 => ?_)
      refine z_iconst F (1) dX11_restore_72 rfl ?_
      have eq1 := Option.some.inj hf
      obtain ⟨ee1, eq2⟩ := Prod.mk.inj eq1
      obtain ⟨ee2, eq3⟩ := Prod.mk.inj eq2
      obtain ⟨ee3, eq4⟩ := Prod.mk.inj eq3
      obtain ⟨ee4, eq5⟩ := Prod.mk.inj eq4
      obtain ⟨ee5, eq6⟩ := Prod.mk.inj eq5
      obtain ⟨ee6, eq7⟩ := Prod.mk.inj eq6
      obtain ⟨ee7, eq8⟩ := Prod.mk.inj eq7
      obtain ⟨ee8, eq9⟩ := Prod.mk.inj eq8
      obtain ⟨ee9, eq10⟩ := Prod.mk.inj eq9
      obtain ⟨ee10, eq11⟩ := Prod.mk.inj eq10
      obtain ⟨ee11, eq12⟩ := Prod.mk.inj eq11
      obtain ⟨ee12, eq13⟩ := Prod.mk.inj eq12
      obtain ⟨ee13, eq14⟩ := Prod.mk.inj eq13
      obtain ⟨ee14, eq15⟩ := Prod.mk.inj eq14
      obtain ⟨ee15, eq16⟩ := Prod.mk.inj eq15
      obtain ⟨ee16, eq17⟩ := Prod.mk.inj eq16
      obtain ⟨ee17, eq18⟩ := Prod.mk.inj eq17
      obtain ⟨ee18, ee19⟩ := Prod.mk.inj eq18
      subst ee1
      subst ee2
      subst ee3
      subst ee4
      subst ee5
      subst ee6
      subst ee7
      subst ee8
      subst ee9
      subst ee10
      subst ee11
      subst ee12
      subst ee13
      subst ee14
      subst ee15
      subst ee16
      subst ee17
      subst ee18
      subst ee19
      exact z_iret F rfl rfl rfl rfl dX11_restore_73
    · refine z_iload_n F 0 dX11_restore_30 rfl rfl ?_
      have eq1 := Option.some.inj hf
      obtain ⟨ee1, eq2⟩ := Prod.mk.inj eq1
      obtain ⟨ee2, eq3⟩ := Prod.mk.inj eq2
      obtain ⟨ee3, eq4⟩ := Prod.mk.inj eq3
      obtain ⟨ee4, eq5⟩ := Prod.mk.inj eq4
      obtain ⟨ee5, eq6⟩ := Prod.mk.inj eq5
      obtain ⟨ee6, eq7⟩ := Prod.mk.inj eq6
      obtain ⟨ee7, eq8⟩ := Prod.mk.inj eq7
      obtain ⟨ee8, eq9⟩ := Prod.mk.inj eq8
      obtain ⟨ee9, eq10⟩ := Prod.mk.inj eq9
      obtain ⟨ee10, eq11⟩ := Prod.mk.inj eq10
      obtain ⟨ee11, eq12⟩ := Prod.mk.inj eq11
      obtain ⟨ee12, eq13⟩ := Prod.mk.inj eq12
      obtain ⟨ee13, eq14⟩ := Prod.mk.inj eq13
      obtain ⟨ee14, eq15⟩ := Prod.mk.inj eq14
      obtain ⟨ee15, eq16⟩ := Prod.mk.inj eq15
      obtain ⟨ee16, eq17⟩ := Prod.mk.inj eq16
      obtain ⟨ee17, eq18⟩ := Prod.mk.inj eq17
      obtain ⟨ee18, ee19⟩ := Prod.mk.inj eq18
      subst ee1
      subst ee2
      subst ee3
      subst ee4
      subst ee5
      subst ee6
      subst ee7
      subst ee8
      subst ee9
      subst ee10
      subst ee11
      subst ee12
      subst ee13
      subst ee14
      subst ee15
      subst ee16
      subst ee17
      subst ee18
      subst ee19
      exact z_iret F rfl rfl rfl rfl dX11_restore_31
  · refine z_iconst F (-1) dX11_restore_11 rfl ?_
    have eq1 := Option.some.inj hf
    obtain ⟨ee1, eq2⟩ := Prod.mk.inj eq1
    obtain ⟨ee2, eq3⟩ := Prod.mk.inj eq2
    obtain ⟨ee3, eq4⟩ := Prod.mk.inj eq3
    obtain ⟨ee4, eq5⟩ := Prod.mk.inj eq4
    obtain ⟨ee5, eq6⟩ := Prod.mk.inj eq5
    obtain ⟨ee6, eq7⟩ := Prod.mk.inj eq6
    obtain ⟨ee7, eq8⟩ := Prod.mk.inj eq7
    obtain ⟨ee8, eq9⟩ := Prod.mk.inj eq8
    obtain ⟨ee9, eq10⟩ := Prod.mk.inj eq9
    obtain ⟨ee10, eq11⟩ := Prod.mk.inj eq10
    obtain ⟨ee11, eq12⟩ := Prod.mk.inj eq11
    obtain ⟨ee12, eq13⟩ := Prod.mk.inj eq12
    obtain ⟨ee13, eq14⟩ := Prod.mk.inj eq13
    obtain ⟨ee14, eq15⟩ := Prod.mk.inj eq14
    obtain ⟨ee15, eq16⟩ := Prod.mk.inj eq15
    obtain ⟨ee16, eq17⟩ := Prod.mk.inj eq16
    obtain ⟨ee17, eq18⟩ := Prod.mk.inj eq17
    obtain ⟨ee18, ee19⟩ := Prod.mk.inj eq18
    subst ee1
    subst ee2
    subst ee3
    subst ee4
    subst ee5
    subst ee6
    subst ee7
    subst ee8
    subst ee9
    subst ee10
    subst ee11
    subst ee12
    subst ee13
    subst ee14
    subst ee15
    subst ee16
    subst ee17
    subst ee18
    subst ee19
    exact z_iret F rfl rfl rfl rfl dX11_restore_12

