/-! by program (wip/whole/gen.py): pure functions and contracts -/
theorem dX11_tellOfPerson_0 : decode cX11_tellOfPerson 0 = .ok (.aload_n 0, 1) := by decide +kernel
theorem dX11_tellOfPerson_1 : decode cX11_tellOfPerson 1 = .ok (.getfield 19, 3) := by decide +kernel
theorem dX11_tellOfPerson_4 : decode cX11_tellOfPerson 4 = .ok (.iload_n 1, 1) := by decide +kernel
theorem dX11_tellOfPerson_5 : decode cX11_tellOfPerson 5 = .ok (.invokevirtual 175, 3) := by decide +kernel
theorem dX11_tellOfPerson_8 : decode cX11_tellOfPerson 8 = .ok (.istore_n 3, 1) := by decide +kernel
theorem dX11_tellOfPerson_9 : decode cX11_tellOfPerson 9 = .ok (.iload_n 2, 1) := by decide +kernel
theorem dX11_tellOfPerson_10 : decode cX11_tellOfPerson 10 = .ok (.tableswitch 72 0 3 #[30, 39, 41, 63], 30) := by decide +kernel
theorem dX11_tellOfPerson_40 : decode cX11_tellOfPerson 40 = .ok (.aload_n 0, 1) := by decide +kernel
theorem dX11_tellOfPerson_41 : decode cX11_tellOfPerson 41 = .ok (.getfield 10, 3) := by decide +kernel
theorem dX11_tellOfPerson_44 : decode cX11_tellOfPerson 44 = .ok (.iload_n 1, 1) := by decide +kernel
theorem dX11_tellOfPerson_45 : decode cX11_tellOfPerson 45 = .ok (.invokevirtual 126, 3) := by decide +kernel
theorem dX11_tellOfPerson_48 : decode cX11_tellOfPerson 48 = .ok (.ireturn, 1) := by decide +kernel
theorem dX11_tellOfPerson_49 : decode cX11_tellOfPerson 49 = .ok (.iload_n 3, 1) := by decide +kernel
theorem dX11_tellOfPerson_50 : decode cX11_tellOfPerson 50 = .ok (.ireturn, 1) := by decide +kernel
theorem dX11_tellOfPerson_51 : decode cX11_tellOfPerson 51 = .ok (.iload_n 3, 1) := by decide +kernel
theorem dX11_tellOfPerson_52 : decode cX11_tellOfPerson 52 = .ok (.ifCond .ge 8, 3) := by decide +kernel
theorem dX11_tellOfPerson_55 : decode cX11_tellOfPerson 55 = .ok (.bipush (-2), 2) := by decide +kernel
theorem dX11_tellOfPerson_57 : decode cX11_tellOfPerson 57 = .ok (.goto 15, 3) := by decide +kernel
theorem dX11_tellOfPerson_60 : decode cX11_tellOfPerson 60 = .ok (.aload_n 0, 1) := by decide +kernel
theorem dX11_tellOfPerson_61 : decode cX11_tellOfPerson 61 = .ok (.getfield 35, 3) := by decide +kernel
theorem dX11_tellOfPerson_64 : decode cX11_tellOfPerson 64 = .ok (.aload_n 0, 1) := by decide +kernel
theorem dX11_tellOfPerson_65 : decode cX11_tellOfPerson 65 = .ok (.getfield 19, 3) := by decide +kernel
theorem dX11_tellOfPerson_68 : decode cX11_tellOfPerson 68 = .ok (.iload_n 3, 1) := by decide +kernel
theorem dX11_tellOfPerson_69 : decode cX11_tellOfPerson 69 = .ok (.invokevirtual 376, 3) := by decide +kernel
theorem dX11_tellOfPerson_72 : decode cX11_tellOfPerson 72 = .ok (.ireturn, 1) := by decide +kernel
theorem dX11_tellOfPerson_73 : decode cX11_tellOfPerson 73 = .ok (.aload_n 0, 1) := by decide +kernel
theorem dX11_tellOfPerson_74 : decode cX11_tellOfPerson 74 = .ok (.getfield 44, 3) := by decide +kernel
theorem dX11_tellOfPerson_77 : decode cX11_tellOfPerson 77 = .ok (.iload_n 1, 1) := by decide +kernel
theorem dX11_tellOfPerson_78 : decode cX11_tellOfPerson 78 = .ok (.invokevirtual 379, 3) := by decide +kernel
theorem dX11_tellOfPerson_81 : decode cX11_tellOfPerson 81 = .ok (.ireturn, 1) := by decide +kernel
theorem dX11_tellOfPerson_82 : decode cX11_tellOfPerson 82 = .ok (.aload_n 0, 1) := by decide +kernel
theorem dX11_tellOfPerson_83 : decode cX11_tellOfPerson 83 = .ok (.getfield 44, 3) := by decide +kernel
theorem dX11_tellOfPerson_86 : decode cX11_tellOfPerson 86 = .ok (.iload_n 1, 1) := by decide +kernel
theorem dX11_tellOfPerson_87 : decode cX11_tellOfPerson 87 = .ok (.invokevirtual 382, 3) := by decide +kernel
theorem dX11_tellOfPerson_90 : decode cX11_tellOfPerson 90 = .ok (.ireturn, 1) := by decide +kernel
theorem dX11_tellOfPlace_0 : decode cX11_tellOfPlace 0 = .ok (.iload_n 2, 1) := by decide +kernel
theorem dX11_tellOfPlace_1 : decode cX11_tellOfPlace 1 = .ok (.lookupswitch 49 #[(10, 27), (11, 36)], 27) := by decide +kernel
theorem dX11_tellOfPlace_28 : decode cX11_tellOfPlace 28 = .ok (.aload_n 0, 1) := by decide +kernel
theorem dX11_tellOfPlace_29 : decode cX11_tellOfPlace 29 = .ok (.getfield 19, 3) := by decide +kernel
theorem dX11_tellOfPlace_32 : decode cX11_tellOfPlace 32 = .ok (.iload_n 1, 1) := by decide +kernel
theorem dX11_tellOfPlace_33 : decode cX11_tellOfPlace 33 = .ok (.invokevirtual 202, 3) := by decide +kernel
theorem dX11_tellOfPlace_36 : decode cX11_tellOfPlace 36 = .ok (.ireturn, 1) := by decide +kernel
theorem dX11_tellOfPlace_37 : decode cX11_tellOfPlace 37 = .ok (.aload_n 0, 1) := by decide +kernel
theorem dX11_tellOfPlace_38 : decode cX11_tellOfPlace 38 = .ok (.getfield 35, 3) := by decide +kernel
theorem dX11_tellOfPlace_41 : decode cX11_tellOfPlace 41 = .ok (.aload_n 0, 1) := by decide +kernel
theorem dX11_tellOfPlace_42 : decode cX11_tellOfPlace 42 = .ok (.getfield 19, 3) := by decide +kernel
theorem dX11_tellOfPlace_45 : decode cX11_tellOfPlace 45 = .ok (.iload_n 1, 1) := by decide +kernel
theorem dX11_tellOfPlace_46 : decode cX11_tellOfPlace 46 = .ok (.invokevirtual 376, 3) := by decide +kernel
theorem dX11_tellOfPlace_49 : decode cX11_tellOfPlace 49 = .ok (.ireturn, 1) := by decide +kernel
theorem dX11_tellOfPlace_50 : decode cX11_tellOfPlace 50 = .ok (.aload_n 0, 1) := by decide +kernel
theorem dX11_tellOfPlace_51 : decode cX11_tellOfPlace 51 = .ok (.getfield 35, 3) := by decide +kernel
theorem dX11_tellOfPlace_54 : decode cX11_tellOfPlace 54 = .ok (.aload_n 0, 1) := by decide +kernel
theorem dX11_tellOfPlace_55 : decode cX11_tellOfPlace 55 = .ok (.getfield 19, 3) := by decide +kernel
theorem dX11_tellOfPlace_58 : decode cX11_tellOfPlace 58 = .ok (.iload_n 1, 1) := by decide +kernel
theorem dX11_tellOfPlace_59 : decode cX11_tellOfPlace 59 = .ok (.invokevirtual 385, 3) := by decide +kernel
theorem dX11_tellOfPlace_62 : decode cX11_tellOfPlace 62 = .ok (.ireturn, 1) := by decide +kernel
theorem dX11_of_0 : decode cX11_of 0 = .ok (.iload_n 2, 1) := by decide +kernel
theorem dX11_of_1 : decode cX11_of 1 = .ok (.ifCond .lt 30, 3) := by decide +kernel
theorem dX11_of_4 : decode cX11_of 4 = .ok (.iload_n 2, 1) := by decide +kernel
theorem dX11_of_5 : decode cX11_of 5 = .ok (.iconst 4, 1) := by decide +kernel
theorem dX11_of_6 : decode cX11_of 6 = .ok (.if_icmp .gt 25, 3) := by decide +kernel
theorem dX11_of_9 : decode cX11_of 9 = .ok (.aload_n 0, 1) := by decide +kernel
theorem dX11_of_10 : decode cX11_of 10 = .ok (.getfield 10, 3) := by decide +kernel
theorem dX11_of_13 : decode cX11_of 13 = .ok (.iload_n 1, 1) := by decide +kernel
theorem dX11_of_14 : decode cX11_of 14 = .ok (.invokevirtual 119, 3) := by decide +kernel
theorem dX11_of_17 : decode cX11_of 17 = .ok (.ifCond .eq 12, 3) := by decide +kernel
theorem dX11_of_20 : decode cX11_of 20 = .ok (.aload_n 0, 1) := by decide +kernel
theorem dX11_of_21 : decode cX11_of 21 = .ok (.iload_n 1, 1) := by decide +kernel
theorem dX11_of_22 : decode cX11_of 22 = .ok (.iload_n 2, 1) := by decide +kernel
theorem dX11_of_23 : decode cX11_of 23 = .ok (.invokevirtual 136, 3) := by decide +kernel
theorem dX11_of_26 : decode cX11_of 26 = .ok (.goto 4, 3) := by decide +kernel
theorem dX11_of_29 : decode cX11_of 29 = .ok (.iconst (-1), 1) := by decide +kernel
theorem dX11_of_30 : decode cX11_of 30 = .ok (.ireturn, 1) := by decide +kernel
theorem dX11_of_31 : decode cX11_of 31 = .ok (.iload_n 2, 1) := by decide +kernel
theorem dX11_of_32 : decode cX11_of 32 = .ok (.bipush 10, 2) := by decide +kernel
theorem dX11_of_34 : decode cX11_of 34 = .ok (.if_icmp .lt 31, 3) := by decide +kernel
theorem dX11_of_37 : decode cX11_of 37 = .ok (.iload_n 2, 1) := by decide +kernel
theorem dX11_of_38 : decode cX11_of 38 = .ok (.bipush 12, 2) := by decide +kernel
theorem dX11_of_40 : decode cX11_of 40 = .ok (.if_icmp .gt 25, 3) := by decide +kernel
theorem dX11_of_43 : decode cX11_of 43 = .ok (.aload_n 0, 1) := by decide +kernel
theorem dX11_of_44 : decode cX11_of 44 = .ok (.getfield 19, 3) := by decide +kernel
theorem dX11_of_47 : decode cX11_of 47 = .ok (.iload_n 1, 1) := by decide +kernel
theorem dX11_of_48 : decode cX11_of 48 = .ok (.invokevirtual 140, 3) := by decide +kernel
theorem dX11_of_51 : decode cX11_of 51 = .ok (.ifCond .eq 12, 3) := by decide +kernel
theorem dX11_of_54 : decode cX11_of 54 = .ok (.aload_n 0, 1) := by decide +kernel
theorem dX11_of_55 : decode cX11_of 55 = .ok (.iload_n 1, 1) := by decide +kernel
theorem dX11_of_56 : decode cX11_of 56 = .ok (.iload_n 2, 1) := by decide +kernel
theorem dX11_of_57 : decode cX11_of 57 = .ok (.invokevirtual 143, 3) := by decide +kernel
theorem dX11_of_60 : decode cX11_of 60 = .ok (.goto 4, 3) := by decide +kernel
theorem dX11_of_63 : decode cX11_of 63 = .ok (.iconst (-1), 1) := by decide +kernel
theorem dX11_of_64 : decode cX11_of 64 = .ok (.ireturn, 1) := by decide +kernel
theorem dX11_of_65 : decode cX11_of 65 = .ok (.iconst (-1), 1) := by decide +kernel
theorem dX11_of_66 : decode cX11_of 66 = .ok (.ireturn, 1) := by decide +kernel
theorem fl_X11_44 : Cond.fieldLink RX11 44 (TX11 4).1 (TX11 4).2.1 (TX11 4).2.2.1 ∈ wsL_law := (uw2 _ (List.mem_of_getElem? (i := 8) rfl))
theorem hy_X11_tellOfPerson : Cond.code yX11_tellOfPerson cX11_tellOfPerson 4 (some .int) ∈ wsL_law ∧ Cond.initialized yX11_tellOfPerson.cls ∈ wsL_law ∧ Cond.instanceMethod yX11_tellOfPerson ∈ wsL_law ∧ Cond.selects yX11_tellOfPerson.cls yX11_tellOfPerson yX11_tellOfPerson ∈ wsL_law := ⟨(uw15 _ (List.mem_of_getElem? (i := 1) rfl)), (uw1 _ (List.mem_of_getElem? (i := 2) rfl)), (uw14 _ (List.mem_of_getElem? (i := 23) rfl)), (uw15 _ (List.mem_of_getElem? (i := 0) rfl))⟩
theorem hd_X11_tellOfPerson : yX11_tellOfPerson.cls ≠ "java/lang/invoke/MethodHandle" ∧ yX11_tellOfPerson.cls ≠ "java/lang/invoke/VarHandle" ∧ (parseMethodDescriptor yX11_tellOfPerson.desc).map (fun d => d.parameters.length) = some 2 := ⟨by decide +kernel, by decide +kernel, by decide +kernel⟩
theorem hy_X11_tellOfPlace : Cond.code yX11_tellOfPlace cX11_tellOfPlace 3 (some .int) ∈ wsL_law ∧ Cond.initialized yX11_tellOfPlace.cls ∈ wsL_law ∧ Cond.instanceMethod yX11_tellOfPlace ∈ wsL_law ∧ Cond.selects yX11_tellOfPlace.cls yX11_tellOfPlace yX11_tellOfPlace ∈ wsL_law := ⟨(uw17 _ (List.mem_of_getElem? (i := 18) rfl)), (uw1 _ (List.mem_of_getElem? (i := 2) rfl)), (uw17 _ (List.mem_of_getElem? (i := 16) rfl)), (uw17 _ (List.mem_of_getElem? (i := 17) rfl))⟩
theorem hd_X11_tellOfPlace : yX11_tellOfPlace.cls ≠ "java/lang/invoke/MethodHandle" ∧ yX11_tellOfPlace.cls ≠ "java/lang/invoke/VarHandle" ∧ (parseMethodDescriptor yX11_tellOfPlace.desc).map (fun d => d.parameters.length) = some 2 := ⟨by decide +kernel, by decide +kernel, by decide +kernel⟩
theorem hy_X2_changesOf : Cond.code yX2_changesOf cX2_changesOf 2 (some .int) ∈ wsL_law ∧ Cond.initialized yX2_changesOf.cls ∈ wsL_law ∧ Cond.instanceMethod yX2_changesOf ∈ wsL_law ∧ Cond.selects yX2_changesOf.cls yX2_changesOf yX2_changesOf ∈ wsL_law := ⟨(uw17 _ (List.mem_of_getElem? (i := 6) rfl)), (uw2 _ (List.mem_of_getElem? (i := 7) rfl)), (uw17 _ (List.mem_of_getElem? (i := 4) rfl)), (uw17 _ (List.mem_of_getElem? (i := 5) rfl))⟩
theorem hd_X2_changesOf : yX2_changesOf.cls ≠ "java/lang/invoke/MethodHandle" ∧ yX2_changesOf.cls ≠ "java/lang/invoke/VarHandle" ∧ (parseMethodDescriptor yX2_changesOf.desc).map (fun d => d.parameters.length) = some 1 := ⟨by decide +kernel, by decide +kernel, by decide +kernel⟩
theorem hy_X2_greatestOf : Cond.code yX2_greatestOf cX2_greatestOf 2 (some .int) ∈ wsL_law ∧ Cond.initialized yX2_greatestOf.cls ∈ wsL_law ∧ Cond.instanceMethod yX2_greatestOf ∈ wsL_law ∧ Cond.selects yX2_greatestOf.cls yX2_greatestOf yX2_greatestOf ∈ wsL_law := ⟨(uw17 _ (List.mem_of_getElem? (i := 13) rfl)), (uw2 _ (List.mem_of_getElem? (i := 7) rfl)), (uw17 _ (List.mem_of_getElem? (i := 11) rfl)), (uw17 _ (List.mem_of_getElem? (i := 12) rfl))⟩
theorem hd_X2_greatestOf : yX2_greatestOf.cls ≠ "java/lang/invoke/MethodHandle" ∧ yX2_greatestOf.cls ≠ "java/lang/invoke/VarHandle" ∧ (parseMethodDescriptor yX2_greatestOf.desc).map (fun d => d.parameters.length) = some 1 := ⟨by decide +kernel, by decide +kernel, by decide +kernel⟩
theorem ml_X11_136 : Cond.methodLink RX11 136 yX11_tellOfPerson ∈ wsL_law := (uw14 _ (List.mem_of_getElem? (i := 22) rfl))
theorem ml_X11_140 : Cond.methodLink RX11 140 yX7_isPlace ∈ wsL_law := (uw17 _ (List.mem_of_getElem? (i := 14) rfl))
theorem ml_X11_143 : Cond.methodLink RX11 143 yX11_tellOfPlace ∈ wsL_law := (uw17 _ (List.mem_of_getElem? (i := 15) rfl))
theorem ml_X11_175 : Cond.methodLink RX11 175 yX7_placeOf ∈ wsL_law := (uw15 _ (List.mem_of_getElem? (i := 2) rfl))
theorem ml_X11_202 : Cond.methodLink RX11 202 yX7_at ∈ wsL_law := (uw17 _ (List.mem_of_getElem? (i := 19) rfl))
theorem ml_X11_376 : Cond.methodLink RX11 376 yX4_numberAt ∈ wsL_law := (uw15 _ (List.mem_of_getElem? (i := 6) rfl))
theorem ml_X11_379 : Cond.methodLink RX11 379 yX2_changesOf ∈ wsL_law := (uw17 _ (List.mem_of_getElem? (i := 3) rfl))
theorem ml_X11_382 : Cond.methodLink RX11 382 yX2_greatestOf ∈ wsL_law := (uw17 _ (List.mem_of_getElem? (i := 10) rfl))
theorem ml_X11_385 : Cond.methodLink RX11 385 yX4_plainNumberAt ∈ wsL_law := (uw17 _ (List.mem_of_getElem? (i := 20) rfl))
abbrev w_T_tellOfPerson (G : zG) (a_this : Nat) (a_crowd : Nat) (a_queue : Nat) (a_text : Nat) (a_judge : Nat) (a_deeds : Nat) (a_mendings : Nat) (a_picture : Nat) (a_shelves : Nat) (a_books : Nat) (a_thoughts : Nat) (a_heads : Nat) (a_crowd_heights : Nat) (a_queue_who : Nat) (a_text_tape : Nat) (a_text_reader : Nat) (a_text_steps : Nat) (a_text_worked : Nat) (a_judge_known : Nat) (a_deeds_kept : Nat) (a_deeds_numbers : Nat) (a_deeds_changes : Nat) (a_deeds_greatest : Nat) (hasPicture : Int32) (crowd_people : Int32) (crowd_heights : Nat → Int32) (queue_length : Int32) (queue_who : Nat → Int32) (text_fed : Int32) (text_length : Int32) (text_top : Int32) (text_steps : Nat → Int32) (text_worked : Nat → Int32) (judge_known : Nat → Int32) (deeds_first : Int32) (deeds_size : Int32) (deeds_changes : Nat → Int32) (deeds_greatest : Nat → Int32) : va_W := [(a_this, cO 11 [.ref a_crowd, .ref a_queue, .ref a_text, .ref a_judge, .ref a_deeds, .ref a_mendings, .ref a_picture, .int hasPicture, .ref a_shelves, .ref a_books, .ref a_thoughts, .ref a_heads]), (a_crowd, cO 1 [.ref a_crowd_heights, .int crowd_people]), (a_crowd_heights, cI G 9 crowd_heights), (a_queue, cO 7 [.ref a_queue_who, .int queue_length]), (a_queue_who, cI G 9 queue_who), (a_text, cO 5 [.ref a_text_tape, .int text_fed, .ref a_text_reader, .ref a_text_steps, .int text_length, .ref a_text_worked, .int text_top]), (a_text_steps, cI G 121 text_steps), (a_text_worked, cI G 121 text_worked), (a_judge, cO 4 [.ref a_crowd, .ref a_text, .ref a_judge_known]), (a_judge_known, cB G 729 judge_known), (a_deeds, cO 2 [.ref a_judge, .ref a_deeds_kept, .int deeds_first, .int deeds_size, .ref a_deeds_numbers, .ref a_deeds_changes, .ref a_deeds_greatest]), (a_deeds_changes, cI G 9 deeds_changes), (a_deeds_greatest, cI G 9 deeds_greatest)]
def f_T_tellOfPerson (crowd_people : Int32) (crowd_heights : Nat → Int32) (queue_length : Int32) (queue_who : Nat → Int32) (text_length : Int32) (text_top : Int32) (text_steps : Nat → Int32) (text_worked : Nat → Int32) (judge_known : Nat → Int32) (deeds_changes : Nat → Int32) (deeds_greatest : Nat → Int32) (x1 : Int32) (x2 : Int32) : Option (Int32 × Int32 × (Nat → Int32) × (Nat → Int32)) := (zb1 (f_Line_placeOf queue_length queue_who x1) fun r_1 => (if x2 = 0 then (zb1 (f_Crowd_heightOf crowd_people crowd_heights x1) fun r_4 => (some (r_4, text_top, text_worked, judge_known))) else (if x2 = 1 then (some (r_1, text_top, text_worked, judge_known)) else (if x2 = 2 then (if (0 : Int32) ≤ r_1 then (zb4 (f_Judge_numberAt crowd_people crowd_heights text_length text_top text_steps text_worked judge_known queue_length queue_who r_1) fun r_8 text_top_9 text_worked_10 judge_known_11 => (some (r_8, text_top_9, text_worked_10, judge_known_11))) else (some ((-2), text_top, text_worked, judge_known))) else (if x2 = 3 then (zb1 (f_Deeds_changesOf deeds_changes x1) fun r_14 => (some (r_14, text_top, text_worked, judge_known))) else (zb1 (f_Deeds_greatestOf deeds_greatest x1) fun r_16 => (some (r_16, text_top, text_worked, judge_known))))))))
set_option maxRecDepth 100000 in
set_option maxHeartbeats 4000000 in
theorem c_T_tellOfPerson (l : Launch) (G : zG) (a_this : Nat) (a_crowd : Nat) (a_queue : Nat) (a_text : Nat) (a_judge : Nat) (a_deeds : Nat) (a_mendings : Nat) (a_picture : Nat) (a_shelves : Nat) (a_books : Nat) (a_thoughts : Nat) (a_heads : Nat) (a_crowd_heights : Nat) (a_queue_who : Nat) (a_text_tape : Nat) (a_text_reader : Nat) (a_text_steps : Nat) (a_text_worked : Nat) (a_judge_known : Nat) (a_deeds_kept : Nat) (a_deeds_numbers : Nat) (a_deeds_changes : Nat) (a_deeds_greatest : Nat) (hasPicture : Int32) (crowd_people : Int32) (crowd_heights : Nat → Int32) (queue_length : Int32) (queue_who : Nat → Int32) (text_fed : Int32) (text_length : Int32) (text_top : Int32) (text_steps : Nat → Int32) (text_worked : Nat → Int32) (judge_known : Nat → Int32) (deeds_first : Int32) (deeds_size : Int32) (deeds_changes : Nat → Int32) (deeds_greatest : Nat → Int32) (x1 : Int32) (x2 : Int32) (r_ : Int32) (o_text_top : Int32) (o_text_worked : Nat → Int32) (o_judge_known : Nat → Int32) (hf : f_T_tellOfPerson crowd_people crowd_heights queue_length queue_who text_length text_top text_steps text_worked judge_known deeds_changes deeds_greatest x1 x2 = some (r_, o_text_top, o_text_worked, o_judge_known)) : zM l yX11_tellOfPerson cX11_tellOfPerson 4 (some .int) 4 104 G [.ref a_this, .int x1, .int x2] (w_T_tellOfPerson G a_this a_crowd a_queue a_text a_judge a_deeds a_mendings a_picture a_shelves a_books a_thoughts a_heads a_crowd_heights a_queue_who a_text_tape a_text_reader a_text_steps a_text_worked a_judge_known a_deeds_kept a_deeds_numbers a_deeds_changes a_deeds_greatest hasPicture crowd_people crowd_heights queue_length queue_who text_fed text_length text_top text_steps text_worked judge_known deeds_first deeds_size deeds_changes deeds_greatest) (some (.int r_)) (w_T_tellOfPerson G a_this a_crowd a_queue a_text a_judge a_deeds a_mendings a_picture a_shelves a_books a_thoughts a_heads a_crowd_heights a_queue_who a_text_tape a_text_reader a_text_steps a_text_worked a_judge_known a_deeds_kept a_deeds_numbers a_deeds_changes a_deeds_greatest hasPicture crowd_people crowd_heights queue_length queue_who text_fed text_length o_text_top text_steps o_text_worked o_judge_known deeds_first deeds_size deeds_changes deeds_greatest) := by
  refine zM.of [(0, .ref a_this), (1, .int x1), (2, .int x2)] (own := RX11) rfl (by decide +kernel) (Nat.le_of_ble_eq_true rfl) rfl rfl fun X hX F => ?_
  subst hX
  replace hf := (f_T_tellOfPerson.eq_1 ..).symm.trans hf
  refine z_aload_n F 0 dX11_tellOfPerson_0 rfl rfl ?_
  refine z_get F 0 11 1 inlX11 rfl rfl (by decide) fl_X11_19 rfl dX11_tellOfPerson_1 ?_
  refine z_iload_n F 1 dX11_tellOfPerson_4 rfl rfl ?_
  obtain ⟨r_1, hg, hf⟩ := zb1_some hf
  refine z_callVm (rest := []) F 7 (c_Line_placeOf (xL X) G a_queue a_queue_who queue_length queue_who x1 r_1 hg) hy_X7_placeOf ml_X11_175 hd_X7_placeOf ⟨by omega, by omega⟩ rfl [3, 4] rfl rfl 3 rfl rfl (w_T_tellOfPerson G a_this a_crowd a_queue a_text a_judge a_deeds a_mendings a_picture a_shelves a_books a_thoughts a_heads a_crowd_heights a_queue_who a_text_tape a_text_reader a_text_steps a_text_worked a_judge_known a_deeds_kept a_deeds_numbers a_deeds_changes a_deeds_greatest hasPicture crowd_people crowd_heights queue_length queue_who text_fed text_length text_top text_steps text_worked judge_known deeds_first deeds_size deeds_changes deeds_greatest) [none, none, none, some 0, some 1, none, none, none, none, none, none, none, none] rfl (by decide +kernel) rfl rfl (Nat.le_of_ble_eq_true rfl) dX11_tellOfPerson_5 (fun hz_2 => ?_)
  refine z_istore_n F [(3, .int r_1), (0, .ref a_this), (1, .int x1), (2, .int x2)] dX11_tellOfPerson_8 rfl (by decide) rfl ?_
  refine z_iload_n F 3 dX11_tellOfPerson_9 rfl rfl ?_
  by_cases hc_3 : x2 = 0
  · replace hf := zif_t hf hc_3
    refine z_tabIn (off := 30) F 40 dX11_tellOfPerson_10 (by rw [hc_3]; decide +kernel) (by rw [hc_3]; decide +kernel) (by rw [hc_3]; decide +kernel) (by decide) ?_
    refine z_aload_n F 1 dX11_tellOfPerson_40 rfl rfl ?_
    refine z_get F 0 11 0 inlX11 rfl rfl (by decide) fl_X11_10 rfl dX11_tellOfPerson_41 ?_
    refine z_iload_n F 2 dX11_tellOfPerson_44 rfl rfl ?_
    obtain ⟨r_4, hg, hf⟩ := zb1_some hf
    refine z_callVm (rest := []) F 1 (c_Crowd_heightOf (xL X) G a_crowd a_crowd_heights crowd_people crowd_heights x1 r_4 hg) hy_X1_heightOf ml_X11_126 hd_X1_heightOf ⟨by omega, by omega⟩ rfl [1, 2] rfl rfl 1 rfl rfl (w_T_tellOfPerson G a_this a_crowd a_queue a_text a_judge a_deeds a_mendings a_picture a_shelves a_books a_thoughts a_heads a_crowd_heights a_queue_who a_text_tape a_text_reader a_text_steps a_text_worked a_judge_known a_deeds_kept a_deeds_numbers a_deeds_changes a_deeds_greatest hasPicture crowd_people crowd_heights queue_length queue_who text_fed text_length text_top text_steps text_worked judge_known deeds_first deeds_size deeds_changes deeds_greatest) [none, some 0, some 1, none, none, none, none, none, none, none, none, none, none] rfl (by decide +kernel) rfl rfl (Nat.le_of_ble_eq_true rfl) dX11_tellOfPerson_45 (fun hz_5 => ?_)
    have eq1 := Option.some.inj hf
    obtain ⟨ee1, eq2⟩ := Prod.mk.inj eq1
    obtain ⟨ee2, eq3⟩ := Prod.mk.inj eq2
    obtain ⟨ee3, ee4⟩ := Prod.mk.inj eq3
    subst ee1
    subst ee2
    subst ee3
    subst ee4
    exact z_iret F rfl rfl rfl rfl dX11_tellOfPerson_48
  · replace hf := zif_f hf hc_3
    by_cases hc_6 : x2 = 1
    · replace hf := zif_t hf hc_6
      refine z_tabIn (off := 39) F 49 dX11_tellOfPerson_10 (by rw [hc_6]; decide +kernel) (by rw [hc_6]; decide +kernel) (by rw [hc_6]; decide +kernel) (by decide) ?_
      refine z_iload_n F 0 dX11_tellOfPerson_49 rfl rfl ?_
      have eq1 := Option.some.inj hf
      obtain ⟨ee1, eq2⟩ := Prod.mk.inj eq1
      obtain ⟨ee2, eq3⟩ := Prod.mk.inj eq2
      obtain ⟨ee3, ee4⟩ := Prod.mk.inj eq3
      subst ee1
      subst ee2
      subst ee3
      subst ee4
      exact z_iret F rfl rfl rfl rfl dX11_tellOfPerson_50
    · replace hf := zif_f hf hc_6
      by_cases hc_7 : x2 = 2
      · replace hf := zif_t hf hc_7
        refine z_tabIn (off := 41) F 51 dX11_tellOfPerson_10 (by rw [hc_7]; decide +kernel) (by rw [hc_7]; decide +kernel) (by rw [hc_7]; decide +kernel) (by decide) ?_
        refine z_iload_n F 0 dX11_tellOfPerson_51 rfl rfl ?_
        refine z_if_ge F 60 dX11_tellOfPerson_52 (by decide) hf (fun hf _ => ?_) (fun hf _ => ?_)
        · refine z_aload_n F 1 dX11_tellOfPerson_60 rfl rfl ?_
          refine z_get F 0 11 3 inlX11 rfl rfl (by decide) fl_X11_35 rfl dX11_tellOfPerson_61 ?_
          refine z_aload_n F 1 dX11_tellOfPerson_64 rfl rfl ?_
          refine z_get F 0 11 1 inlX11 rfl rfl (by decide) fl_X11_19 rfl dX11_tellOfPerson_65 ?_
          refine z_iload_n F 0 dX11_tellOfPerson_68 rfl rfl ?_
          obtain ⟨r_8, text_top_9, text_worked_10, judge_known_11, hg, hf⟩ := zb4_some hf
          refine z_callVm (rest := []) F 4 (c_Judge_numberAt (xL X) G a_judge a_crowd a_text a_judge_known a_crowd_heights a_text_tape a_text_reader a_text_steps a_text_worked a_queue a_queue_who crowd_people crowd_heights text_fed text_length text_top text_steps text_worked judge_known queue_length queue_who r_1 r_8 text_top_9 text_worked_10 judge_known_11 hg) hy_X4_numberAt ml_X11_376 hd_X4_numberAt ⟨by omega, by omega⟩ rfl [8, 1, 2, 5, 6, 7, 9, 3, 4] rfl rfl 8 rfl rfl (w_T_tellOfPerson G a_this a_crowd a_queue a_text a_judge a_deeds a_mendings a_picture a_shelves a_books a_thoughts a_heads a_crowd_heights a_queue_who a_text_tape a_text_reader a_text_steps a_text_worked a_judge_known a_deeds_kept a_deeds_numbers a_deeds_changes a_deeds_greatest hasPicture crowd_people crowd_heights queue_length queue_who text_fed text_length text_top_9 text_steps text_worked_10 judge_known_11 deeds_first deeds_size deeds_changes deeds_greatest) [none, some 1, some 2, some 7, some 8, some 3, some 4, some 5, some 0, some 6, none, none, none] rfl (by decide +kernel) rfl rfl (Nat.le_of_ble_eq_true rfl) dX11_tellOfPerson_69 (fun hz_12 => ?_)
          have eq1 := Option.some.inj hf
          obtain ⟨ee1, eq2⟩ := Prod.mk.inj eq1
          obtain ⟨ee2, eq3⟩ := Prod.mk.inj eq2
          obtain ⟨ee3, ee4⟩ := Prod.mk.inj eq3
          subst ee1
          subst ee2
          subst ee3
          subst ee4
          exact z_iret F rfl rfl rfl rfl dX11_tellOfPerson_72
        · refine z_bipush F (-2) dX11_tellOfPerson_55 rfl ?_
          refine z_goto F 72 dX11_tellOfPerson_57 (by decide) ?_
          have eq1 := Option.some.inj hf
          obtain ⟨ee1, eq2⟩ := Prod.mk.inj eq1
          obtain ⟨ee2, eq3⟩ := Prod.mk.inj eq2
          obtain ⟨ee3, ee4⟩ := Prod.mk.inj eq3
          subst ee1
          subst ee2
          subst ee3
          subst ee4
          exact z_iret F rfl rfl rfl rfl dX11_tellOfPerson_72
      · replace hf := zif_f hf hc_7
        by_cases hc_13 : x2 = 3
        · replace hf := zif_t hf hc_13
          refine z_tabIn (off := 63) F 73 dX11_tellOfPerson_10 (by rw [hc_13]; decide +kernel) (by rw [hc_13]; decide +kernel) (by rw [hc_13]; decide +kernel) (by decide) ?_
          refine z_aload_n F 1 dX11_tellOfPerson_73 rfl rfl ?_
          refine z_get F 0 11 4 inlX11 rfl rfl (by decide) fl_X11_44 rfl dX11_tellOfPerson_74 ?_
          refine z_iload_n F 2 dX11_tellOfPerson_77 rfl rfl ?_
          obtain ⟨r_14, hg, hf⟩ := zb1_some hf
          refine z_callVm (rest := []) F 2 (c_Deeds_changesOf (xL X) G a_deeds a_judge a_deeds_kept a_deeds_numbers a_deeds_changes a_deeds_greatest deeds_first deeds_size deeds_changes x1 r_14 hg) hy_X2_changesOf ml_X11_379 hd_X2_changesOf ⟨by omega, by omega⟩ rfl [10, 11] rfl rfl 10 rfl rfl (w_T_tellOfPerson G a_this a_crowd a_queue a_text a_judge a_deeds a_mendings a_picture a_shelves a_books a_thoughts a_heads a_crowd_heights a_queue_who a_text_tape a_text_reader a_text_steps a_text_worked a_judge_known a_deeds_kept a_deeds_numbers a_deeds_changes a_deeds_greatest hasPicture crowd_people crowd_heights queue_length queue_who text_fed text_length text_top text_steps text_worked judge_known deeds_first deeds_size deeds_changes deeds_greatest) [none, none, none, none, none, none, none, none, none, none, some 0, some 1, none] rfl (by decide +kernel) rfl rfl (Nat.le_of_ble_eq_true rfl) dX11_tellOfPerson_78 (fun hz_15 => ?_)
          have eq1 := Option.some.inj hf
          obtain ⟨ee1, eq2⟩ := Prod.mk.inj eq1
          obtain ⟨ee2, eq3⟩ := Prod.mk.inj eq2
          obtain ⟨ee3, ee4⟩ := Prod.mk.inj eq3
          subst ee1
          subst ee2
          subst ee3
          subst ee4
          exact z_iret F rfl rfl rfl rfl dX11_tellOfPerson_81
        · replace hf := zif_f hf hc_13
          refine z_tabOut F 82 dX11_tellOfPerson_10 (by have := zne hc_3 (c := 0) (k := 0) rfl; have := zne hc_6 (c := 1) (k := 1) rfl; have := zne hc_7 (c := 2) (k := 2) rfl; have := zne hc_13 (c := 3) (k := 3) rfl; omega) (by decide) ?_
          refine z_aload_n F 1 dX11_tellOfPerson_82 rfl rfl ?_
          refine z_get F 0 11 4 inlX11 rfl rfl (by decide) fl_X11_44 rfl dX11_tellOfPerson_83 ?_
          refine z_iload_n F 2 dX11_tellOfPerson_86 rfl rfl ?_
          obtain ⟨r_16, hg, hf⟩ := zb1_some hf
          refine z_callVm (rest := []) F 2 (c_Deeds_greatestOf (xL X) G a_deeds a_judge a_deeds_kept a_deeds_numbers a_deeds_changes a_deeds_greatest deeds_first deeds_size deeds_greatest x1 r_16 hg) hy_X2_greatestOf ml_X11_382 hd_X2_greatestOf ⟨by omega, by omega⟩ rfl [10, 12] rfl rfl 10 rfl rfl (w_T_tellOfPerson G a_this a_crowd a_queue a_text a_judge a_deeds a_mendings a_picture a_shelves a_books a_thoughts a_heads a_crowd_heights a_queue_who a_text_tape a_text_reader a_text_steps a_text_worked a_judge_known a_deeds_kept a_deeds_numbers a_deeds_changes a_deeds_greatest hasPicture crowd_people crowd_heights queue_length queue_who text_fed text_length text_top text_steps text_worked judge_known deeds_first deeds_size deeds_changes deeds_greatest) [none, none, none, none, none, none, none, none, none, none, some 0, none, some 1] rfl (by decide +kernel) rfl rfl (Nat.le_of_ble_eq_true rfl) dX11_tellOfPerson_87 (fun hz_17 => ?_)
          have eq1 := Option.some.inj hf
          obtain ⟨ee1, eq2⟩ := Prod.mk.inj eq1
          obtain ⟨ee2, eq3⟩ := Prod.mk.inj eq2
          obtain ⟨ee3, ee4⟩ := Prod.mk.inj eq3
          subst ee1
          subst ee2
          subst ee3
          subst ee4
          exact z_iret F rfl rfl rfl rfl dX11_tellOfPerson_90

abbrev w_T_tellOfPlace (G : zG) (a_this : Nat) (a_crowd : Nat) (a_queue : Nat) (a_text : Nat) (a_judge : Nat) (a_deeds : Nat) (a_mendings : Nat) (a_picture : Nat) (a_shelves : Nat) (a_books : Nat) (a_thoughts : Nat) (a_heads : Nat) (a_crowd_heights : Nat) (a_queue_who : Nat) (a_text_tape : Nat) (a_text_reader : Nat) (a_text_steps : Nat) (a_text_worked : Nat) (a_judge_known : Nat) (hasPicture : Int32) (crowd_people : Int32) (crowd_heights : Nat → Int32) (queue_length : Int32) (queue_who : Nat → Int32) (text_fed : Int32) (text_length : Int32) (text_top : Int32) (text_steps : Nat → Int32) (text_worked : Nat → Int32) (judge_known : Nat → Int32) : va_W := [(a_this, cO 11 [.ref a_crowd, .ref a_queue, .ref a_text, .ref a_judge, .ref a_deeds, .ref a_mendings, .ref a_picture, .int hasPicture, .ref a_shelves, .ref a_books, .ref a_thoughts, .ref a_heads]), (a_crowd, cO 1 [.ref a_crowd_heights, .int crowd_people]), (a_crowd_heights, cI G 9 crowd_heights), (a_queue, cO 7 [.ref a_queue_who, .int queue_length]), (a_queue_who, cI G 9 queue_who), (a_text, cO 5 [.ref a_text_tape, .int text_fed, .ref a_text_reader, .ref a_text_steps, .int text_length, .ref a_text_worked, .int text_top]), (a_text_steps, cI G 121 text_steps), (a_text_worked, cI G 121 text_worked), (a_judge, cO 4 [.ref a_crowd, .ref a_text, .ref a_judge_known]), (a_judge_known, cB G 729 judge_known)]
def f_T_tellOfPlace (crowd_people : Int32) (crowd_heights : Nat → Int32) (queue_length : Int32) (queue_who : Nat → Int32) (text_length : Int32) (text_top : Int32) (text_steps : Nat → Int32) (text_worked : Nat → Int32) (judge_known : Nat → Int32) (x1 : Int32) (x2 : Int32) : Option (Int32 × Int32 × (Nat → Int32) × (Nat → Int32)) := (if x2 = 10 then (zb1 (f_Line_at queue_length queue_who x1) fun r_2 => (some (r_2, text_top, text_worked, judge_known))) else (if x2 = 11 then (zb4 (f_Judge_numberAt crowd_people crowd_heights text_length text_top text_steps text_worked judge_known queue_length queue_who x1) fun r_5 text_top_6 text_worked_7 judge_known_8 => (some (r_5, text_top_6, text_worked_7, judge_known_8))) else (zb1 (f_Judge_plainNumberAt crowd_people crowd_heights queue_length queue_who x1) fun r_10 => (some (r_10, text_top, text_worked, judge_known)))))
set_option maxRecDepth 100000 in
set_option maxHeartbeats 4000000 in
theorem c_T_tellOfPlace (l : Launch) (G : zG) (a_this : Nat) (a_crowd : Nat) (a_queue : Nat) (a_text : Nat) (a_judge : Nat) (a_deeds : Nat) (a_mendings : Nat) (a_picture : Nat) (a_shelves : Nat) (a_books : Nat) (a_thoughts : Nat) (a_heads : Nat) (a_crowd_heights : Nat) (a_queue_who : Nat) (a_text_tape : Nat) (a_text_reader : Nat) (a_text_steps : Nat) (a_text_worked : Nat) (a_judge_known : Nat) (hasPicture : Int32) (crowd_people : Int32) (crowd_heights : Nat → Int32) (queue_length : Int32) (queue_who : Nat → Int32) (text_fed : Int32) (text_length : Int32) (text_top : Int32) (text_steps : Nat → Int32) (text_worked : Nat → Int32) (judge_known : Nat → Int32) (x1 : Int32) (x2 : Int32) (r_ : Int32) (o_text_top : Int32) (o_text_worked : Nat → Int32) (o_judge_known : Nat → Int32) (hf : f_T_tellOfPlace crowd_people crowd_heights queue_length queue_who text_length text_top text_steps text_worked judge_known x1 x2 = some (r_, o_text_top, o_text_worked, o_judge_known)) : zM l yX11_tellOfPlace cX11_tellOfPlace 3 (some .int) 4 104 G [.ref a_this, .int x1, .int x2] (w_T_tellOfPlace G a_this a_crowd a_queue a_text a_judge a_deeds a_mendings a_picture a_shelves a_books a_thoughts a_heads a_crowd_heights a_queue_who a_text_tape a_text_reader a_text_steps a_text_worked a_judge_known hasPicture crowd_people crowd_heights queue_length queue_who text_fed text_length text_top text_steps text_worked judge_known) (some (.int r_)) (w_T_tellOfPlace G a_this a_crowd a_queue a_text a_judge a_deeds a_mendings a_picture a_shelves a_books a_thoughts a_heads a_crowd_heights a_queue_who a_text_tape a_text_reader a_text_steps a_text_worked a_judge_known hasPicture crowd_people crowd_heights queue_length queue_who text_fed text_length o_text_top text_steps o_text_worked o_judge_known) := by
  refine zM.of [(0, .ref a_this), (1, .int x1), (2, .int x2)] (own := RX11) rfl (by decide +kernel) (Nat.le_of_ble_eq_true rfl) rfl rfl fun X hX F => ?_
  subst hX
  replace hf := (f_T_tellOfPlace.eq_1 ..).symm.trans hf
  refine z_iload_n F 2 dX11_tellOfPlace_0 rfl rfl ?_
  by_cases hc_1 : x2 = 10
  · replace hf := zif_t hf hc_1
    refine z_lookup (off := 27) F 28 dX11_tellOfPlace_1 (by decide +kernel) (by rw [hc_1]; decide +kernel) (by decide) ?_
    refine z_aload_n F 0 dX11_tellOfPlace_28 rfl rfl ?_
    refine z_get F 0 11 1 inlX11 rfl rfl (by decide) fl_X11_19 rfl dX11_tellOfPlace_29 ?_
    refine z_iload_n F 1 dX11_tellOfPlace_32 rfl rfl ?_
    obtain ⟨r_2, hg, hf⟩ := zb1_some hf
    refine z_callVm (rest := []) F 7 (c_Line_at (xL X) G a_queue a_queue_who queue_length queue_who x1 r_2 hg) hy_X7_at ml_X11_202 hd_X7_at ⟨by omega, by omega⟩ rfl [3, 4] rfl rfl 3 rfl rfl (w_T_tellOfPlace G a_this a_crowd a_queue a_text a_judge a_deeds a_mendings a_picture a_shelves a_books a_thoughts a_heads a_crowd_heights a_queue_who a_text_tape a_text_reader a_text_steps a_text_worked a_judge_known hasPicture crowd_people crowd_heights queue_length queue_who text_fed text_length text_top text_steps text_worked judge_known) [none, none, none, some 0, some 1, none, none, none, none, none] rfl (by decide +kernel) rfl rfl (Nat.le_of_ble_eq_true rfl) dX11_tellOfPlace_33 (fun hz_3 => ?_)
    have eq1 := Option.some.inj hf
    obtain ⟨ee1, eq2⟩ := Prod.mk.inj eq1
    obtain ⟨ee2, eq3⟩ := Prod.mk.inj eq2
    obtain ⟨ee3, ee4⟩ := Prod.mk.inj eq3
    subst ee1
    subst ee2
    subst ee3
    subst ee4
    exact z_iret F rfl rfl rfl rfl dX11_tellOfPlace_36
  · replace hf := zif_f hf hc_1
    by_cases hc_4 : x2 = 11
    · replace hf := zif_t hf hc_4
      refine z_lookup (off := 36) F 37 dX11_tellOfPlace_1 (by decide +kernel) (by rw [hc_4]; decide +kernel) (by decide) ?_
      refine z_aload_n F 0 dX11_tellOfPlace_37 rfl rfl ?_
      refine z_get F 0 11 3 inlX11 rfl rfl (by decide) fl_X11_35 rfl dX11_tellOfPlace_38 ?_
      refine z_aload_n F 0 dX11_tellOfPlace_41 rfl rfl ?_
      refine z_get F 0 11 1 inlX11 rfl rfl (by decide) fl_X11_19 rfl dX11_tellOfPlace_42 ?_
      refine z_iload_n F 1 dX11_tellOfPlace_45 rfl rfl ?_
      obtain ⟨r_5, text_top_6, text_worked_7, judge_known_8, hg, hf⟩ := zb4_some hf
      refine z_callVm (rest := []) F 4 (c_Judge_numberAt (xL X) G a_judge a_crowd a_text a_judge_known a_crowd_heights a_text_tape a_text_reader a_text_steps a_text_worked a_queue a_queue_who crowd_people crowd_heights text_fed text_length text_top text_steps text_worked judge_known queue_length queue_who x1 r_5 text_top_6 text_worked_7 judge_known_8 hg) hy_X4_numberAt ml_X11_376 hd_X4_numberAt ⟨by omega, by omega⟩ rfl [8, 1, 2, 5, 6, 7, 9, 3, 4] rfl rfl 8 rfl rfl (w_T_tellOfPlace G a_this a_crowd a_queue a_text a_judge a_deeds a_mendings a_picture a_shelves a_books a_thoughts a_heads a_crowd_heights a_queue_who a_text_tape a_text_reader a_text_steps a_text_worked a_judge_known hasPicture crowd_people crowd_heights queue_length queue_who text_fed text_length text_top_6 text_steps text_worked_7 judge_known_8) [none, some 1, some 2, some 7, some 8, some 3, some 4, some 5, some 0, some 6] rfl (by decide +kernel) rfl rfl (Nat.le_of_ble_eq_true rfl) dX11_tellOfPlace_46 (fun hz_9 => ?_)
      have eq1 := Option.some.inj hf
      obtain ⟨ee1, eq2⟩ := Prod.mk.inj eq1
      obtain ⟨ee2, eq3⟩ := Prod.mk.inj eq2
      obtain ⟨ee3, ee4⟩ := Prod.mk.inj eq3
      subst ee1
      subst ee2
      subst ee3
      subst ee4
      exact z_iret F rfl rfl rfl rfl dX11_tellOfPlace_49
    · replace hf := zif_f hf hc_4
      refine z_lookup (off := 49) F 50 dX11_tellOfPlace_1 (by decide +kernel) (zlk x2 [(10, 27), (11, 36)] (49) (List.forall_mem_cons.mpr ⟨zne hc_1 (c := 10) (k := 10) rfl, List.forall_mem_cons.mpr ⟨zne hc_4 (c := 11) (k := 11) rfl, fun _ h => absurd h List.not_mem_nil⟩⟩)) (by decide) ?_
      refine z_aload_n F 0 dX11_tellOfPlace_50 rfl rfl ?_
      refine z_get F 0 11 3 inlX11 rfl rfl (by decide) fl_X11_35 rfl dX11_tellOfPlace_51 ?_
      refine z_aload_n F 0 dX11_tellOfPlace_54 rfl rfl ?_
      refine z_get F 0 11 1 inlX11 rfl rfl (by decide) fl_X11_19 rfl dX11_tellOfPlace_55 ?_
      refine z_iload_n F 1 dX11_tellOfPlace_58 rfl rfl ?_
      obtain ⟨r_10, hg, hf⟩ := zb1_some hf
      refine z_callVm (rest := []) F 4 (c_Judge_plainNumberAt (xL X) G a_judge a_crowd a_text a_judge_known a_crowd_heights a_queue a_queue_who crowd_people crowd_heights queue_length queue_who x1 r_10 hg) hy_X4_plainNumberAt ml_X11_385 hd_X4_plainNumberAt ⟨by omega, by omega⟩ rfl [8, 1, 2, 3, 4] rfl rfl 8 rfl rfl (w_T_tellOfPlace G a_this a_crowd a_queue a_text a_judge a_deeds a_mendings a_picture a_shelves a_books a_thoughts a_heads a_crowd_heights a_queue_who a_text_tape a_text_reader a_text_steps a_text_worked a_judge_known hasPicture crowd_people crowd_heights queue_length queue_who text_fed text_length text_top text_steps text_worked judge_known) [none, some 1, some 2, some 3, some 4, none, none, none, some 0, none] rfl (by decide +kernel) rfl rfl (Nat.le_of_ble_eq_true rfl) dX11_tellOfPlace_59 (fun hz_11 => ?_)
      have eq1 := Option.some.inj hf
      obtain ⟨ee1, eq2⟩ := Prod.mk.inj eq1
      obtain ⟨ee2, eq3⟩ := Prod.mk.inj eq2
      obtain ⟨ee3, ee4⟩ := Prod.mk.inj eq3
      subst ee1
      subst ee2
      subst ee3
      subst ee4
      exact z_iret F rfl rfl rfl rfl dX11_tellOfPlace_62

abbrev w_T_of (G : zG) (a_this : Nat) (a_crowd : Nat) (a_queue : Nat) (a_text : Nat) (a_judge : Nat) (a_deeds : Nat) (a_mendings : Nat) (a_picture : Nat) (a_shelves : Nat) (a_books : Nat) (a_thoughts : Nat) (a_heads : Nat) (a_crowd_heights : Nat) (a_queue_who : Nat) (a_text_tape : Nat) (a_text_reader : Nat) (a_text_steps : Nat) (a_text_worked : Nat) (a_judge_known : Nat) (a_deeds_kept : Nat) (a_deeds_numbers : Nat) (a_deeds_changes : Nat) (a_deeds_greatest : Nat) (hasPicture : Int32) (crowd_people : Int32) (crowd_heights : Nat → Int32) (queue_length : Int32) (queue_who : Nat → Int32) (text_fed : Int32) (text_length : Int32) (text_top : Int32) (text_steps : Nat → Int32) (text_worked : Nat → Int32) (judge_known : Nat → Int32) (deeds_first : Int32) (deeds_size : Int32) (deeds_changes : Nat → Int32) (deeds_greatest : Nat → Int32) : va_W := [(a_this, cO 11 [.ref a_crowd, .ref a_queue, .ref a_text, .ref a_judge, .ref a_deeds, .ref a_mendings, .ref a_picture, .int hasPicture, .ref a_shelves, .ref a_books, .ref a_thoughts, .ref a_heads]), (a_crowd, cO 1 [.ref a_crowd_heights, .int crowd_people]), (a_crowd_heights, cI G 9 crowd_heights), (a_queue, cO 7 [.ref a_queue_who, .int queue_length]), (a_queue_who, cI G 9 queue_who), (a_text, cO 5 [.ref a_text_tape, .int text_fed, .ref a_text_reader, .ref a_text_steps, .int text_length, .ref a_text_worked, .int text_top]), (a_text_steps, cI G 121 text_steps), (a_text_worked, cI G 121 text_worked), (a_judge, cO 4 [.ref a_crowd, .ref a_text, .ref a_judge_known]), (a_judge_known, cB G 729 judge_known), (a_deeds, cO 2 [.ref a_judge, .ref a_deeds_kept, .int deeds_first, .int deeds_size, .ref a_deeds_numbers, .ref a_deeds_changes, .ref a_deeds_greatest]), (a_deeds_changes, cI G 9 deeds_changes), (a_deeds_greatest, cI G 9 deeds_greatest)]
def f_T_of (crowd_people : Int32) (crowd_heights : Nat → Int32) (queue_length : Int32) (queue_who : Nat → Int32) (text_length : Int32) (text_top : Int32) (text_steps : Nat → Int32) (text_worked : Nat → Int32) (judge_known : Nat → Int32) (deeds_changes : Nat → Int32) (deeds_greatest : Nat → Int32) (x1 : Int32) (x2 : Int32) : Option (Int32 × Int32 × (Nat → Int32) × (Nat → Int32)) := (if x2 < 0 then (if x2 < 10 then (some ((-1), text_top, text_worked, judge_known)) else (if (12 : Int32) < x2 then (some ((-1), text_top, text_worked, judge_known)) else (if (f_Line_isPlace queue_length x1) = 0 then (some ((-1), text_top, text_worked, judge_known)) else (zb4 (f_T_tellOfPlace crowd_people crowd_heights queue_length queue_who text_length text_top text_steps text_worked judge_known x1 x2) fun r_2 text_top_3 text_worked_4 judge_known_5 => (some (r_2, text_top_3, text_worked_4, judge_known_5)))))) else (if (4 : Int32) < x2 then (if x2 < 10 then (some ((-1), text_top, text_worked, judge_known)) else (if (12 : Int32) < x2 then (some ((-1), text_top, text_worked, judge_known)) else (if (f_Line_isPlace queue_length x1) = 0 then (some ((-1), text_top, text_worked, judge_known)) else (zb4 (f_T_tellOfPlace crowd_people crowd_heights queue_length queue_who text_length text_top text_steps text_worked judge_known x1 x2) fun r_8 text_top_9 text_worked_10 judge_known_11 => (some (r_8, text_top_9, text_worked_10, judge_known_11)))))) else (if (f_Crowd_isPerson crowd_people x1) = 0 then (some ((-1), text_top, text_worked, judge_known)) else (zb4 (f_T_tellOfPerson crowd_people crowd_heights queue_length queue_who text_length text_top text_steps text_worked judge_known deeds_changes deeds_greatest x1 x2) fun r_14 text_top_15 text_worked_16 judge_known_17 => (some (r_14, text_top_15, text_worked_16, judge_known_17))))))
set_option maxRecDepth 100000 in
set_option maxHeartbeats 4000000 in
theorem c_T_of (l : Launch) (G : zG) (a_this : Nat) (a_crowd : Nat) (a_queue : Nat) (a_text : Nat) (a_judge : Nat) (a_deeds : Nat) (a_mendings : Nat) (a_picture : Nat) (a_shelves : Nat) (a_books : Nat) (a_thoughts : Nat) (a_heads : Nat) (a_crowd_heights : Nat) (a_queue_who : Nat) (a_text_tape : Nat) (a_text_reader : Nat) (a_text_steps : Nat) (a_text_worked : Nat) (a_judge_known : Nat) (a_deeds_kept : Nat) (a_deeds_numbers : Nat) (a_deeds_changes : Nat) (a_deeds_greatest : Nat) (hasPicture : Int32) (crowd_people : Int32) (crowd_heights : Nat → Int32) (queue_length : Int32) (queue_who : Nat → Int32) (text_fed : Int32) (text_length : Int32) (text_top : Int32) (text_steps : Nat → Int32) (text_worked : Nat → Int32) (judge_known : Nat → Int32) (deeds_first : Int32) (deeds_size : Int32) (deeds_changes : Nat → Int32) (deeds_greatest : Nat → Int32) (x1 : Int32) (x2 : Int32) (r_ : Int32) (o_text_top : Int32) (o_text_worked : Nat → Int32) (o_judge_known : Nat → Int32) (hf : f_T_of crowd_people crowd_heights queue_length queue_who text_length text_top text_steps text_worked judge_known deeds_changes deeds_greatest x1 x2 = some (r_, o_text_top, o_text_worked, o_judge_known)) : zM l yX11_of cX11_of 3 (some .int) 5 127 G [.ref a_this, .int x1, .int x2] (w_T_of G a_this a_crowd a_queue a_text a_judge a_deeds a_mendings a_picture a_shelves a_books a_thoughts a_heads a_crowd_heights a_queue_who a_text_tape a_text_reader a_text_steps a_text_worked a_judge_known a_deeds_kept a_deeds_numbers a_deeds_changes a_deeds_greatest hasPicture crowd_people crowd_heights queue_length queue_who text_fed text_length text_top text_steps text_worked judge_known deeds_first deeds_size deeds_changes deeds_greatest) (some (.int r_)) (w_T_of G a_this a_crowd a_queue a_text a_judge a_deeds a_mendings a_picture a_shelves a_books a_thoughts a_heads a_crowd_heights a_queue_who a_text_tape a_text_reader a_text_steps a_text_worked a_judge_known a_deeds_kept a_deeds_numbers a_deeds_changes a_deeds_greatest hasPicture crowd_people crowd_heights queue_length queue_who text_fed text_length o_text_top text_steps o_text_worked o_judge_known deeds_first deeds_size deeds_changes deeds_greatest) := by
  refine zM.of [(0, .ref a_this), (1, .int x1), (2, .int x2)] (own := RX11) rfl (by decide +kernel) (Nat.le_of_ble_eq_true rfl) rfl rfl fun X hX F => ?_
  subst hX
  replace hf := (f_T_of.eq_1 ..).symm.trans hf
  refine z_iload_n F 2 dX11_of_0 rfl rfl ?_
  refine z_if_lt F 31 dX11_of_1 (by decide) hf (fun hf _ => ?_) (fun hf _ => ?_)
  · refine z_iload_n F 2 dX11_of_31 rfl rfl ?_
    refine z_bipush F (10) dX11_of_32 rfl ?_
    refine z_icmp_lt F 65 dX11_of_34 (by decide) hf (fun hf _ => ?_) (fun hf _ => ?_)
    · refine z_iconst F (-1) dX11_of_65 rfl ?_
      have eq1 := Option.some.inj hf
      obtain ⟨ee1, eq2⟩ := Prod.mk.inj eq1
      obtain ⟨ee2, eq3⟩ := Prod.mk.inj eq2
      obtain ⟨ee3, ee4⟩ := Prod.mk.inj eq3
      subst ee1
      subst ee2
      subst ee3
      subst ee4
      exact z_iret F rfl rfl rfl rfl dX11_of_66
    · refine z_iload_n F 2 dX11_of_37 rfl rfl ?_
      refine z_bipush F (12) dX11_of_38 rfl ?_
      refine z_icmp_gt F 65 dX11_of_40 (by decide) hf (fun hf _ => ?_) (fun hf _ => ?_)
      · refine z_iconst F (-1) dX11_of_65 rfl ?_
        have eq1 := Option.some.inj hf
        obtain ⟨ee1, eq2⟩ := Prod.mk.inj eq1
        obtain ⟨ee2, eq3⟩ := Prod.mk.inj eq2
        obtain ⟨ee3, ee4⟩ := Prod.mk.inj eq3
        subst ee1
        subst ee2
        subst ee3
        subst ee4
        exact z_iret F rfl rfl rfl rfl dX11_of_66
      · refine z_aload_n F 0 dX11_of_43 rfl rfl ?_
        refine z_get F 0 11 1 inlX11 rfl rfl (by decide) fl_X11_19 rfl dX11_of_44 ?_
        refine z_iload_n F 1 dX11_of_47 rfl rfl ?_
        refine z_callVm (rest := []) F 7 (c_Line_isPlace (xL X) G a_queue a_queue_who queue_length x1 _ rfl) hy_X7_isPlace ml_X11_140 hd_X7_isPlace ⟨by omega, by omega⟩ rfl [3] rfl rfl 3 rfl rfl (w_T_of G a_this a_crowd a_queue a_text a_judge a_deeds a_mendings a_picture a_shelves a_books a_thoughts a_heads a_crowd_heights a_queue_who a_text_tape a_text_reader a_text_steps a_text_worked a_judge_known a_deeds_kept a_deeds_numbers a_deeds_changes a_deeds_greatest hasPicture crowd_people crowd_heights queue_length queue_who text_fed text_length text_top text_steps text_worked judge_known deeds_first deeds_size deeds_changes deeds_greatest) [none, none, none, some 0, none, none, none, none, none, none, none, none, none] rfl (by decide +kernel) rfl rfl (Nat.le_of_ble_eq_true rfl) dX11_of_48 (fun hz_1 => ?_)
        refine z_if_eq F 63 dX11_of_51 (by decide) hf (fun hf _ => ?_) (fun hf _ => ?_)
        · refine z_iconst F (-1) dX11_of_63 rfl ?_
          have eq1 := Option.some.inj hf
          obtain ⟨ee1, eq2⟩ := Prod.mk.inj eq1
          obtain ⟨ee2, eq3⟩ := Prod.mk.inj eq2
          obtain ⟨ee3, ee4⟩ := Prod.mk.inj eq3
          subst ee1
          subst ee2
          subst ee3
          subst ee4
          exact z_iret F rfl rfl rfl rfl dX11_of_64
        · refine z_aload_n F 0 dX11_of_54 rfl rfl ?_
          refine z_iload_n F 1 dX11_of_55 rfl rfl ?_
          refine z_iload_n F 2 dX11_of_56 rfl rfl ?_
          obtain ⟨r_2, text_top_3, text_worked_4, judge_known_5, hg, hf⟩ := zb4_some hf
          refine z_callVm (rest := []) F 11 (c_T_tellOfPlace (xL X) G a_this a_crowd a_queue a_text a_judge a_deeds a_mendings a_picture a_shelves a_books a_thoughts a_heads a_crowd_heights a_queue_who a_text_tape a_text_reader a_text_steps a_text_worked a_judge_known hasPicture crowd_people crowd_heights queue_length queue_who text_fed text_length text_top text_steps text_worked judge_known x1 x2 r_2 text_top_3 text_worked_4 judge_known_5 hg) hy_X11_tellOfPlace ml_X11_143 hd_X11_tellOfPlace ⟨by omega, by omega⟩ rfl [0, 1, 2, 3, 4, 5, 6, 7, 8, 9] rfl rfl 0 rfl rfl (w_T_of G a_this a_crowd a_queue a_text a_judge a_deeds a_mendings a_picture a_shelves a_books a_thoughts a_heads a_crowd_heights a_queue_who a_text_tape a_text_reader a_text_steps a_text_worked a_judge_known a_deeds_kept a_deeds_numbers a_deeds_changes a_deeds_greatest hasPicture crowd_people crowd_heights queue_length queue_who text_fed text_length text_top_3 text_steps text_worked_4 judge_known_5 deeds_first deeds_size deeds_changes deeds_greatest) [some 0, some 1, some 2, some 3, some 4, some 5, some 6, some 7, some 8, some 9, none, none, none] rfl (by decide +kernel) rfl rfl (Nat.le_of_ble_eq_true rfl) dX11_of_57 (fun hz_6 => ?_)
          refine z_goto F 64 dX11_of_60 (by decide) ?_
          have eq1 := Option.some.inj hf
          obtain ⟨ee1, eq2⟩ := Prod.mk.inj eq1
          obtain ⟨ee2, eq3⟩ := Prod.mk.inj eq2
          obtain ⟨ee3, ee4⟩ := Prod.mk.inj eq3
          subst ee1
          subst ee2
          subst ee3
          subst ee4
          exact z_iret F rfl rfl rfl rfl dX11_of_64
  · refine z_iload_n F 2 dX11_of_4 rfl rfl ?_
    refine z_iconst F (4) dX11_of_5 rfl ?_
    refine z_icmp_gt F 31 dX11_of_6 (by decide) hf (fun hf _ => ?_) (fun hf _ => ?_)
    · refine z_iload_n F 2 dX11_of_31 rfl rfl ?_
      refine z_bipush F (10) dX11_of_32 rfl ?_
      refine z_icmp_lt F 65 dX11_of_34 (by decide) hf (fun hf _ => ?_) (fun hf _ => ?_)
      · refine z_iconst F (-1) dX11_of_65 rfl ?_
        have eq1 := Option.some.inj hf
        obtain ⟨ee1, eq2⟩ := Prod.mk.inj eq1
        obtain ⟨ee2, eq3⟩ := Prod.mk.inj eq2
        obtain ⟨ee3, ee4⟩ := Prod.mk.inj eq3
        subst ee1
        subst ee2
        subst ee3
        subst ee4
        exact z_iret F rfl rfl rfl rfl dX11_of_66
      · refine z_iload_n F 2 dX11_of_37 rfl rfl ?_
        refine z_bipush F (12) dX11_of_38 rfl ?_
        refine z_icmp_gt F 65 dX11_of_40 (by decide) hf (fun hf _ => ?_) (fun hf _ => ?_)
        · refine z_iconst F (-1) dX11_of_65 rfl ?_
          have eq1 := Option.some.inj hf
          obtain ⟨ee1, eq2⟩ := Prod.mk.inj eq1
          obtain ⟨ee2, eq3⟩ := Prod.mk.inj eq2
          obtain ⟨ee3, ee4⟩ := Prod.mk.inj eq3
          subst ee1
          subst ee2
          subst ee3
          subst ee4
          exact z_iret F rfl rfl rfl rfl dX11_of_66
        · refine z_aload_n F 0 dX11_of_43 rfl rfl ?_
          refine z_get F 0 11 1 inlX11 rfl rfl (by decide) fl_X11_19 rfl dX11_of_44 ?_
          refine z_iload_n F 1 dX11_of_47 rfl rfl ?_
          refine z_callVm (rest := []) F 7 (c_Line_isPlace (xL X) G a_queue a_queue_who queue_length x1 _ rfl) hy_X7_isPlace ml_X11_140 hd_X7_isPlace ⟨by omega, by omega⟩ rfl [3] rfl rfl 3 rfl rfl (w_T_of G a_this a_crowd a_queue a_text a_judge a_deeds a_mendings a_picture a_shelves a_books a_thoughts a_heads a_crowd_heights a_queue_who a_text_tape a_text_reader a_text_steps a_text_worked a_judge_known a_deeds_kept a_deeds_numbers a_deeds_changes a_deeds_greatest hasPicture crowd_people crowd_heights queue_length queue_who text_fed text_length text_top text_steps text_worked judge_known deeds_first deeds_size deeds_changes deeds_greatest) [none, none, none, some 0, none, none, none, none, none, none, none, none, none] rfl (by decide +kernel) rfl rfl (Nat.le_of_ble_eq_true rfl) dX11_of_48 (fun hz_7 => ?_)
          refine z_if_eq F 63 dX11_of_51 (by decide) hf (fun hf _ => ?_) (fun hf _ => ?_)
          · refine z_iconst F (-1) dX11_of_63 rfl ?_
            have eq1 := Option.some.inj hf
            obtain ⟨ee1, eq2⟩ := Prod.mk.inj eq1
            obtain ⟨ee2, eq3⟩ := Prod.mk.inj eq2
            obtain ⟨ee3, ee4⟩ := Prod.mk.inj eq3
            subst ee1
            subst ee2
            subst ee3
            subst ee4
            exact z_iret F rfl rfl rfl rfl dX11_of_64
          · refine z_aload_n F 0 dX11_of_54 rfl rfl ?_
            refine z_iload_n F 1 dX11_of_55 rfl rfl ?_
            refine z_iload_n F 2 dX11_of_56 rfl rfl ?_
            obtain ⟨r_8, text_top_9, text_worked_10, judge_known_11, hg, hf⟩ := zb4_some hf
            refine z_callVm (rest := []) F 11 (c_T_tellOfPlace (xL X) G a_this a_crowd a_queue a_text a_judge a_deeds a_mendings a_picture a_shelves a_books a_thoughts a_heads a_crowd_heights a_queue_who a_text_tape a_text_reader a_text_steps a_text_worked a_judge_known hasPicture crowd_people crowd_heights queue_length queue_who text_fed text_length text_top text_steps text_worked judge_known x1 x2 r_8 text_top_9 text_worked_10 judge_known_11 hg) hy_X11_tellOfPlace ml_X11_143 hd_X11_tellOfPlace ⟨by omega, by omega⟩ rfl [0, 1, 2, 3, 4, 5, 6, 7, 8, 9] rfl rfl 0 rfl rfl (w_T_of G a_this a_crowd a_queue a_text a_judge a_deeds a_mendings a_picture a_shelves a_books a_thoughts a_heads a_crowd_heights a_queue_who a_text_tape a_text_reader a_text_steps a_text_worked a_judge_known a_deeds_kept a_deeds_numbers a_deeds_changes a_deeds_greatest hasPicture crowd_people crowd_heights queue_length queue_who text_fed text_length text_top_9 text_steps text_worked_10 judge_known_11 deeds_first deeds_size deeds_changes deeds_greatest) [some 0, some 1, some 2, some 3, some 4, some 5, some 6, some 7, some 8, some 9, none, none, none] rfl (by decide +kernel) rfl rfl (Nat.le_of_ble_eq_true rfl) dX11_of_57 (fun hz_12 => ?_)
            refine z_goto F 64 dX11_of_60 (by decide) ?_
            have eq1 := Option.some.inj hf
            obtain ⟨ee1, eq2⟩ := Prod.mk.inj eq1
            obtain ⟨ee2, eq3⟩ := Prod.mk.inj eq2
            obtain ⟨ee3, ee4⟩ := Prod.mk.inj eq3
            subst ee1
            subst ee2
            subst ee3
            subst ee4
            exact z_iret F rfl rfl rfl rfl dX11_of_64
    · refine z_aload_n F 0 dX11_of_9 rfl rfl ?_
      refine z_get F 0 11 0 inlX11 rfl rfl (by decide) fl_X11_10 rfl dX11_of_10 ?_
      refine z_iload_n F 1 dX11_of_13 rfl rfl ?_
      refine z_callVm (rest := []) F 1 (c_Crowd_isPerson (xL X) G a_crowd a_crowd_heights crowd_people x1 _ rfl) hy_X1_isPerson ml_X11_119 hd_X1_isPerson ⟨by omega, by omega⟩ rfl [1] rfl rfl 1 rfl rfl (w_T_of G a_this a_crowd a_queue a_text a_judge a_deeds a_mendings a_picture a_shelves a_books a_thoughts a_heads a_crowd_heights a_queue_who a_text_tape a_text_reader a_text_steps a_text_worked a_judge_known a_deeds_kept a_deeds_numbers a_deeds_changes a_deeds_greatest hasPicture crowd_people crowd_heights queue_length queue_who text_fed text_length text_top text_steps text_worked judge_known deeds_first deeds_size deeds_changes deeds_greatest) [none, some 0, none, none, none, none, none, none, none, none, none, none, none] rfl (by decide +kernel) rfl rfl (Nat.le_of_ble_eq_true rfl) dX11_of_14 (fun hz_13 => ?_)
      refine z_if_eq F 29 dX11_of_17 (by decide) hf (fun hf _ => ?_) (fun hf _ => ?_)
      · refine z_iconst F (-1) dX11_of_29 rfl ?_
        have eq1 := Option.some.inj hf
        obtain ⟨ee1, eq2⟩ := Prod.mk.inj eq1
        obtain ⟨ee2, eq3⟩ := Prod.mk.inj eq2
        obtain ⟨ee3, ee4⟩ := Prod.mk.inj eq3
        subst ee1
        subst ee2
        subst ee3
        subst ee4
        exact z_iret F rfl rfl rfl rfl dX11_of_30
      · refine z_aload_n F 0 dX11_of_20 rfl rfl ?_
        refine z_iload_n F 1 dX11_of_21 rfl rfl ?_
        refine z_iload_n F 2 dX11_of_22 rfl rfl ?_
        obtain ⟨r_14, text_top_15, text_worked_16, judge_known_17, hg, hf⟩ := zb4_some hf
        refine z_callVm (rest := []) F 11 (c_T_tellOfPerson (xL X) G a_this a_crowd a_queue a_text a_judge a_deeds a_mendings a_picture a_shelves a_books a_thoughts a_heads a_crowd_heights a_queue_who a_text_tape a_text_reader a_text_steps a_text_worked a_judge_known a_deeds_kept a_deeds_numbers a_deeds_changes a_deeds_greatest hasPicture crowd_people crowd_heights queue_length queue_who text_fed text_length text_top text_steps text_worked judge_known deeds_first deeds_size deeds_changes deeds_greatest x1 x2 r_14 text_top_15 text_worked_16 judge_known_17 hg) hy_X11_tellOfPerson ml_X11_136 hd_X11_tellOfPerson ⟨by omega, by omega⟩ rfl [0, 1, 2, 3, 4, 5, 6, 7, 8, 9, 10, 11, 12] rfl rfl 0 rfl rfl (w_T_of G a_this a_crowd a_queue a_text a_judge a_deeds a_mendings a_picture a_shelves a_books a_thoughts a_heads a_crowd_heights a_queue_who a_text_tape a_text_reader a_text_steps a_text_worked a_judge_known a_deeds_kept a_deeds_numbers a_deeds_changes a_deeds_greatest hasPicture crowd_people crowd_heights queue_length queue_who text_fed text_length text_top_15 text_steps text_worked_16 judge_known_17 deeds_first deeds_size deeds_changes deeds_greatest) [some 0, some 1, some 2, some 3, some 4, some 5, some 6, some 7, some 8, some 9, some 10, some 11, some 12] rfl (by decide +kernel) rfl rfl (Nat.le_of_ble_eq_true rfl) dX11_of_23 (fun hz_18 => ?_)
        refine z_goto F 30 dX11_of_26 (by decide) ?_
        have eq1 := Option.some.inj hf
        obtain ⟨ee1, eq2⟩ := Prod.mk.inj eq1
        obtain ⟨ee2, eq3⟩ := Prod.mk.inj eq2
        obtain ⟨ee3, ee4⟩ := Prod.mk.inj eq3
        subst ee1
        subst ee2
        subst ee3
        subst ee4
        exact z_iret F rfl rfl rfl rfl dX11_of_30

