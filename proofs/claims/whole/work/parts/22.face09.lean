/-! by program (wip/whole/gen.py): pure functions and contracts -/
theorem dX11_back_0 : decode cX11_back 0 = .ok (.aload_n 0, 1) := by decide +kernel
theorem dX11_back_1 : decode cX11_back 1 = .ok (.getfield 282, 3) := by decide +kernel
theorem dX11_back_4 : decode cX11_back 4 = .ok (.ifCond .ne 6, 3) := by decide +kernel
theorem dX11_back_7 : decode cX11_back 7 = .ok (.bipush (-5), 2) := by decide +kernel
theorem dX11_back_9 : decode cX11_back 9 = .ok (.ireturn, 1) := by decide +kernel
theorem dX11_back_10 : decode cX11_back 10 = .ok (.aload_n 0, 1) := by decide +kernel
theorem dX11_back_11 : decode cX11_back 11 = .ok (.getfield 19, 3) := by decide +kernel
theorem dX11_back_14 : decode cX11_back 14 = .ok (.aload_n 0, 1) := by decide +kernel
theorem dX11_back_15 : decode cX11_back 15 = .ok (.getfield 55, 3) := by decide +kernel
theorem dX11_back_18 : decode cX11_back 18 = .ok (.invokevirtual 192, 3) := by decide +kernel
theorem dX11_back_21 : decode cX11_back 21 = .ok (.aload_n 0, 1) := by decide +kernel
theorem dX11_back_22 : decode cX11_back 22 = .ok (.getfield 19, 3) := by decide +kernel
theorem dX11_back_25 : decode cX11_back 25 = .ok (.invokevirtual 94, 3) := by decide +kernel
theorem dX11_back_28 : decode cX11_back 28 = .ok (.ireturn, 1) := by decide +kernel
theorem dX11_undo_0 : decode cX11_undo 0 = .ok (.aload_n 0, 1) := by decide +kernel
theorem dX11_undo_1 : decode cX11_undo 1 = .ok (.getfield 51, 3) := by decide +kernel
theorem dX11_undo_4 : decode cX11_undo 4 = .ok (.invokevirtual 286, 3) := by decide +kernel
theorem dX11_undo_7 : decode cX11_undo 7 = .ok (.ifCond .ne 6, 3) := by decide +kernel
theorem dX11_undo_10 : decode cX11_undo 10 = .ok (.bipush (-5), 2) := by decide +kernel
theorem dX11_undo_12 : decode cX11_undo 12 = .ok (.ireturn, 1) := by decide +kernel
theorem dX11_undo_13 : decode cX11_undo 13 = .ok (.aload_n 0, 1) := by decide +kernel
theorem dX11_undo_14 : decode cX11_undo 14 = .ok (.getfield 51, 3) := by decide +kernel
theorem dX11_undo_17 : decode cX11_undo 17 = .ok (.invokevirtual 289, 3) := by decide +kernel
theorem dX11_undo_20 : decode cX11_undo 20 = .ok (.istore_n 1, 1) := by decide +kernel
theorem dX11_undo_21 : decode cX11_undo 21 = .ok (.aload_n 0, 1) := by decide +kernel
theorem dX11_undo_22 : decode cX11_undo 22 = .ok (.getfield 51, 3) := by decide +kernel
theorem dX11_undo_25 : decode cX11_undo 25 = .ok (.invokevirtual 292, 3) := by decide +kernel
theorem dX11_undo_28 : decode cX11_undo 28 = .ok (.istore_n 2, 1) := by decide +kernel
theorem dX11_undo_29 : decode cX11_undo 29 = .ok (.aload_n 0, 1) := by decide +kernel
theorem dX11_undo_30 : decode cX11_undo 30 = .ok (.getfield 10, 3) := by decide +kernel
theorem dX11_undo_33 : decode cX11_undo 33 = .ok (.iload_n 2, 1) := by decide +kernel
theorem dX11_undo_34 : decode cX11_undo 34 = .ok (.iload_n 1, 1) := by decide +kernel
theorem dX11_undo_35 : decode cX11_undo 35 = .ok (.invokevirtual 122, 3) := by decide +kernel
theorem dX11_undo_38 : decode cX11_undo 38 = .ok (.ifCond .ne 6, 3) := by decide +kernel
theorem dX11_undo_41 : decode cX11_undo 41 = .ok (.bipush (-5), 2) := by decide +kernel
theorem dX11_undo_43 : decode cX11_undo 43 = .ok (.ireturn, 1) := by decide +kernel
theorem dX11_undo_44 : decode cX11_undo 44 = .ok (.aload_n 0, 1) := by decide +kernel
theorem dX11_undo_45 : decode cX11_undo 45 = .ok (.iload_n 1, 1) := by decide +kernel
theorem dX11_undo_46 : decode cX11_undo 46 = .ok (.iload_n 2, 1) := by decide +kernel
theorem dX11_undo_47 : decode cX11_undo 47 = .ok (.invokevirtual 133, 3) := by decide +kernel
theorem dX11_undo_50 : decode cX11_undo 50 = .ok (.aload_n 0, 1) := by decide +kernel
theorem dX11_undo_51 : decode cX11_undo 51 = .ok (.getfield 51, 3) := by decide +kernel
theorem dX11_undo_54 : decode cX11_undo 54 = .ok (.invokevirtual 295, 3) := by decide +kernel
theorem dX11_undo_57 : decode cX11_undo 57 = .ok (.aload_n 0, 1) := by decide +kernel
theorem dX11_undo_58 : decode cX11_undo 58 = .ok (.getfield 51, 3) := by decide +kernel
theorem dX11_undo_61 : decode cX11_undo 61 = .ok (.invokevirtual 286, 3) := by decide +kernel
theorem dX11_undo_64 : decode cX11_undo 64 = .ok (.ireturn, 1) := by decide +kernel
theorem dX11_redo_0 : decode cX11_redo 0 = .ok (.aload_n 0, 1) := by decide +kernel
theorem dX11_redo_1 : decode cX11_redo 1 = .ok (.getfield 51, 3) := by decide +kernel
theorem dX11_redo_4 : decode cX11_redo 4 = .ok (.invokevirtual 298, 3) := by decide +kernel
theorem dX11_redo_7 : decode cX11_redo 7 = .ok (.ifCond .ne 6, 3) := by decide +kernel
theorem dX11_redo_10 : decode cX11_redo 10 = .ok (.bipush (-5), 2) := by decide +kernel
theorem dX11_redo_12 : decode cX11_redo 12 = .ok (.ireturn, 1) := by decide +kernel
theorem dX11_redo_13 : decode cX11_redo 13 = .ok (.aload_n 0, 1) := by decide +kernel
theorem dX11_redo_14 : decode cX11_redo 14 = .ok (.getfield 51, 3) := by decide +kernel
theorem dX11_redo_17 : decode cX11_redo 17 = .ok (.invokevirtual 301, 3) := by decide +kernel
theorem dX11_redo_20 : decode cX11_redo 20 = .ok (.istore_n 1, 1) := by decide +kernel
theorem dX11_redo_21 : decode cX11_redo 21 = .ok (.aload_n 0, 1) := by decide +kernel
theorem dX11_redo_22 : decode cX11_redo 22 = .ok (.getfield 51, 3) := by decide +kernel
theorem dX11_redo_25 : decode cX11_redo 25 = .ok (.invokevirtual 304, 3) := by decide +kernel
theorem dX11_redo_28 : decode cX11_redo 28 = .ok (.istore_n 2, 1) := by decide +kernel
theorem dX11_redo_29 : decode cX11_redo 29 = .ok (.aload_n 0, 1) := by decide +kernel
theorem dX11_redo_30 : decode cX11_redo 30 = .ok (.getfield 10, 3) := by decide +kernel
theorem dX11_redo_33 : decode cX11_redo 33 = .ok (.iload_n 2, 1) := by decide +kernel
theorem dX11_redo_34 : decode cX11_redo 34 = .ok (.iload_n 1, 1) := by decide +kernel
theorem dX11_redo_35 : decode cX11_redo 35 = .ok (.invokevirtual 122, 3) := by decide +kernel
theorem dX11_redo_38 : decode cX11_redo 38 = .ok (.ifCond .ne 6, 3) := by decide +kernel
theorem dX11_redo_41 : decode cX11_redo 41 = .ok (.bipush (-5), 2) := by decide +kernel
theorem dX11_redo_43 : decode cX11_redo 43 = .ok (.ireturn, 1) := by decide +kernel
theorem dX11_redo_44 : decode cX11_redo 44 = .ok (.aload_n 0, 1) := by decide +kernel
theorem dX11_redo_45 : decode cX11_redo 45 = .ok (.iload_n 1, 1) := by decide +kernel
theorem dX11_redo_46 : decode cX11_redo 46 = .ok (.iload_n 2, 1) := by decide +kernel
theorem dX11_redo_47 : decode cX11_redo 47 = .ok (.invokevirtual 133, 3) := by decide +kernel
theorem dX11_redo_50 : decode cX11_redo 50 = .ok (.aload_n 0, 1) := by decide +kernel
theorem dX11_redo_51 : decode cX11_redo 51 = .ok (.getfield 51, 3) := by decide +kernel
theorem dX11_redo_54 : decode cX11_redo 54 = .ok (.invokevirtual 307, 3) := by decide +kernel
theorem dX11_redo_57 : decode cX11_redo 57 = .ok (.aload_n 0, 1) := by decide +kernel
theorem dX11_redo_58 : decode cX11_redo 58 = .ok (.getfield 51, 3) := by decide +kernel
theorem dX11_redo_61 : decode cX11_redo 61 = .ok (.invokevirtual 298, 3) := by decide +kernel
theorem dX11_redo_64 : decode cX11_redo 64 = .ok (.ireturn, 1) := by decide +kernel
theorem dX11_body_0 : decode cX11_body 0 = .ok (.aload_n 0, 1) := by decide +kernel
theorem dX11_body_1 : decode cX11_body 1 = .ok (.getfield 86, 3) := by decide +kernel
theorem dX11_body_4 : decode cX11_body 4 = .ok (.iload_n 1, 1) := by decide +kernel
theorem dX11_body_5 : decode cX11_body 5 = .ok (.invokevirtual 310, 3) := by decide +kernel
theorem dX11_body_8 : decode cX11_body 8 = .ok (.ireturn, 1) := by decide +kernel
theorem dX11_act_0 : decode cX11_act 0 = .ok (.aload_n 0, 1) := by decide +kernel
theorem dX11_act_1 : decode cX11_act 1 = .ok (.getfield 86, 3) := by decide +kernel
theorem dX11_act_4 : decode cX11_act 4 = .ok (.iload_n 1, 1) := by decide +kernel
theorem dX11_act_5 : decode cX11_act 5 = .ok (.iload_n 2, 1) := by decide +kernel
theorem dX11_act_6 : decode cX11_act 6 = .ok (.iload_n 3, 1) := by decide +kernel
theorem dX11_act_7 : decode cX11_act 7 = .ok (.invokevirtual 312, 3) := by decide +kernel
theorem dX11_act_10 : decode cX11_act 10 = .ok (.ireturn, 1) := by decide +kernel
theorem dX11_trace_0 : decode cX11_trace 0 = .ok (.aload_n 0, 1) := by decide +kernel
theorem dX11_trace_1 : decode cX11_trace 1 = .ok (.getfield 86, 3) := by decide +kernel
theorem dX11_trace_4 : decode cX11_trace 4 = .ok (.iload_n 1, 1) := by decide +kernel
theorem dX11_trace_5 : decode cX11_trace 5 = .ok (.invokevirtual 316, 3) := by decide +kernel
theorem dX11_trace_8 : decode cX11_trace 8 = .ok (.ireturn, 1) := by decide +kernel
theorem dX11_keep_0 : decode cX11_keep 0 = .ok (.aload_n 0, 1) := by decide +kernel
theorem dX11_keep_1 : decode cX11_keep 1 = .ok (.getfield 61, 3) := by decide +kernel
theorem dX11_keep_4 : decode cX11_keep 4 = .ok (.iload_n 1, 1) := by decide +kernel
theorem dX11_keep_5 : decode cX11_keep 5 = .ok (.invokevirtual 102, 3) := by decide +kernel
theorem dX11_keep_8 : decode cX11_keep 8 = .ok (.ifCond .eq 19, 3) := by decide +kernel
theorem dX11_keep_11 : decode cX11_keep 11 = .ok (.iload_n 2, 1) := by decide +kernel
theorem dX11_keep_12 : decode cX11_keep 12 = .ok (.iconst (-1), 1) := by decide +kernel
theorem dX11_keep_13 : decode cX11_keep 13 = .ok (.if_icmp .eq 16, 3) := by decide +kernel
theorem dX11_keep_16 : decode cX11_keep 16 = .ok (.aload_n 0, 1) := by decide +kernel
theorem dX11_keep_17 : decode cX11_keep 17 = .ok (.getfield 86, 3) := by decide +kernel
theorem dX11_keep_20 : decode cX11_keep 20 = .ok (.iload_n 2, 1) := by decide +kernel
theorem dX11_keep_21 : decode cX11_keep 21 = .ok (.invokevirtual 319, 3) := by decide +kernel
theorem dX11_keep_24 : decode cX11_keep 24 = .ok (.ifCond .ne 5, 3) := by decide +kernel
theorem dX11_keep_27 : decode cX11_keep 27 = .ok (.iconst (-1), 1) := by decide +kernel
theorem dX11_keep_28 : decode cX11_keep 28 = .ok (.ireturn, 1) := by decide +kernel
theorem dX11_keep_29 : decode cX11_keep 29 = .ok (.aload_n 0, 1) := by decide +kernel
theorem dX11_keep_30 : decode cX11_keep 30 = .ok (.getfield 61, 3) := by decide +kernel
theorem dX11_keep_33 : decode cX11_keep 33 = .ok (.iload_n 1, 1) := by decide +kernel
theorem dX11_keep_34 : decode cX11_keep 34 = .ok (.iload_n 2, 1) := by decide +kernel
theorem dX11_keep_35 : decode cX11_keep 35 = .ok (.invokevirtual 322, 3) := by decide +kernel
theorem dX11_keep_38 : decode cX11_keep 38 = .ok (.iconst 1, 1) := by decide +kernel
theorem dX11_keep_39 : decode cX11_keep 39 = .ok (.ireturn, 1) := by decide +kernel
theorem fl_X11_86 : Cond.fieldLink RX11 86 (TX11 11).1 (TX11 11).2.1 (TX11 11).2.2.1 ∈ wsL_law := (uw3 _ (List.mem_of_getElem? (i := 5) rfl))
theorem hy_X3_add : Cond.code yX3_add cX3_add 2 (some .int) ∈ wsL_law ∧ Cond.initialized yX3_add.cls ∈ wsL_law ∧ Cond.instanceMethod yX3_add ∈ wsL_law ∧ Cond.selects yX3_add.cls yX3_add yX3_add ∈ wsL_law := ⟨(uw50 _ (List.mem_of_getElem? (i := 9) rfl)), (uw3 _ (List.mem_of_getElem? (i := 4) rfl)), (uw50 _ (List.mem_of_getElem? (i := 7) rfl)), (uw50 _ (List.mem_of_getElem? (i := 8) rfl))⟩
theorem hd_X3_add : yX3_add.cls ≠ "java/lang/invoke/MethodHandle" ∧ yX3_add.cls ≠ "java/lang/invoke/VarHandle" ∧ (parseMethodDescriptor yX3_add.desc).map (fun d => d.parameters.length) = some 1 := ⟨by decide +kernel, by decide +kernel, by decide +kernel⟩
theorem hy_X3_perform : Cond.code yX3_perform cX3_perform 4 (some .int) ∈ wsL_law ∧ Cond.initialized yX3_perform.cls ∈ wsL_law ∧ Cond.instanceMethod yX3_perform ∈ wsL_law ∧ Cond.selects yX3_perform.cls yX3_perform yX3_perform ∈ wsL_law := ⟨(uw51 _ (List.mem_of_getElem? (i := 3) rfl)), (uw3 _ (List.mem_of_getElem? (i := 4) rfl)), (uw51 _ (List.mem_of_getElem? (i := 1) rfl)), (uw51 _ (List.mem_of_getElem? (i := 2) rfl))⟩
theorem hd_X3_perform : yX3_perform.cls ≠ "java/lang/invoke/MethodHandle" ∧ yX3_perform.cls ≠ "java/lang/invoke/VarHandle" ∧ (parseMethodDescriptor yX3_perform.desc).map (fun d => d.parameters.length) = some 3 := ⟨by decide +kernel, by decide +kernel, by decide +kernel⟩
theorem hy_X3_traced : Cond.code yX3_traced cX3_traced 2 (some .int) ∈ wsL_law ∧ Cond.initialized yX3_traced.cls ∈ wsL_law ∧ Cond.instanceMethod yX3_traced ∈ wsL_law ∧ Cond.selects yX3_traced.cls yX3_traced yX3_traced ∈ wsL_law := ⟨(uw53 _ (List.mem_of_getElem? (i := 23) rfl)), (uw3 _ (List.mem_of_getElem? (i := 4) rfl)), (uw53 _ (List.mem_of_getElem? (i := 21) rfl)), (uw53 _ (List.mem_of_getElem? (i := 22) rfl))⟩
theorem hd_X3_traced : yX3_traced.cls ≠ "java/lang/invoke/MethodHandle" ∧ yX3_traced.cls ≠ "java/lang/invoke/VarHandle" ∧ (parseMethodDescriptor yX3_traced.desc).map (fun d => d.parameters.length) = some 1 := ⟨by decide +kernel, by decide +kernel, by decide +kernel⟩
theorem hy_X8_heightToRedo : Cond.code yX8_heightToRedo cX8_heightToRedo 1 (some .int) ∈ wsL_law ∧ Cond.initialized yX8_heightToRedo.cls ∈ wsL_law ∧ Cond.instanceMethod yX8_heightToRedo ∈ wsL_law ∧ Cond.selects yX8_heightToRedo.cls yX8_heightToRedo yX8_heightToRedo ∈ wsL_law := ⟨(uw49 _ (List.mem_of_getElem? (i := 17) rfl)), (uw2 _ (List.mem_of_getElem? (i := 11) rfl)), (uw49 _ (List.mem_of_getElem? (i := 15) rfl)), (uw49 _ (List.mem_of_getElem? (i := 16) rfl))⟩
theorem hd_X8_heightToRedo : yX8_heightToRedo.cls ≠ "java/lang/invoke/MethodHandle" ∧ yX8_heightToRedo.cls ≠ "java/lang/invoke/VarHandle" ∧ (parseMethodDescriptor yX8_heightToRedo.desc).map (fun d => d.parameters.length) = some 0 := ⟨by decide +kernel, by decide +kernel, by decide +kernel⟩
theorem hy_X8_heightToUndo : Cond.code yX8_heightToUndo cX8_heightToUndo 1 (some .int) ∈ wsL_law ∧ Cond.initialized yX8_heightToUndo.cls ∈ wsL_law ∧ Cond.instanceMethod yX8_heightToUndo ∈ wsL_law ∧ Cond.selects yX8_heightToUndo.cls yX8_heightToUndo yX8_heightToUndo ∈ wsL_law := ⟨(uw48 _ (List.mem_of_getElem? (i := 17) rfl)), (uw2 _ (List.mem_of_getElem? (i := 11) rfl)), (uw48 _ (List.mem_of_getElem? (i := 15) rfl)), (uw48 _ (List.mem_of_getElem? (i := 16) rfl))⟩
theorem hd_X8_heightToUndo : yX8_heightToUndo.cls ≠ "java/lang/invoke/MethodHandle" ∧ yX8_heightToUndo.cls ≠ "java/lang/invoke/VarHandle" ∧ (parseMethodDescriptor yX8_heightToUndo.desc).map (fun d => d.parameters.length) = some 0 := ⟨by decide +kernel, by decide +kernel, by decide +kernel⟩
theorem hy_X8_personToRedo : Cond.code yX8_personToRedo cX8_personToRedo 1 (some .int) ∈ wsL_law ∧ Cond.initialized yX8_personToRedo.cls ∈ wsL_law ∧ Cond.instanceMethod yX8_personToRedo ∈ wsL_law ∧ Cond.selects yX8_personToRedo.cls yX8_personToRedo yX8_personToRedo ∈ wsL_law := ⟨(uw49 _ (List.mem_of_getElem? (i := 13) rfl)), (uw2 _ (List.mem_of_getElem? (i := 11) rfl)), (uw49 _ (List.mem_of_getElem? (i := 11) rfl)), (uw49 _ (List.mem_of_getElem? (i := 12) rfl))⟩
theorem hd_X8_personToRedo : yX8_personToRedo.cls ≠ "java/lang/invoke/MethodHandle" ∧ yX8_personToRedo.cls ≠ "java/lang/invoke/VarHandle" ∧ (parseMethodDescriptor yX8_personToRedo.desc).map (fun d => d.parameters.length) = some 0 := ⟨by decide +kernel, by decide +kernel, by decide +kernel⟩
theorem hy_X8_personToUndo : Cond.code yX8_personToUndo cX8_personToUndo 1 (some .int) ∈ wsL_law ∧ Cond.initialized yX8_personToUndo.cls ∈ wsL_law ∧ Cond.instanceMethod yX8_personToUndo ∈ wsL_law ∧ Cond.selects yX8_personToUndo.cls yX8_personToUndo yX8_personToUndo ∈ wsL_law := ⟨(uw48 _ (List.mem_of_getElem? (i := 13) rfl)), (uw2 _ (List.mem_of_getElem? (i := 11) rfl)), (uw48 _ (List.mem_of_getElem? (i := 11) rfl)), (uw48 _ (List.mem_of_getElem? (i := 12) rfl))⟩
theorem hd_X8_personToUndo : yX8_personToUndo.cls ≠ "java/lang/invoke/MethodHandle" ∧ yX8_personToUndo.cls ≠ "java/lang/invoke/VarHandle" ∧ (parseMethodDescriptor yX8_personToUndo.desc).map (fun d => d.parameters.length) = some 0 := ⟨by decide +kernel, by decide +kernel, by decide +kernel⟩
theorem hy_X8_redoable : Cond.code yX8_redoable cX8_redoable 1 (some .int) ∈ wsL_law ∧ Cond.initialized yX8_redoable.cls ∈ wsL_law ∧ Cond.instanceMethod yX8_redoable ∈ wsL_law ∧ Cond.selects yX8_redoable.cls yX8_redoable yX8_redoable ∈ wsL_law := ⟨(uw49 _ (List.mem_of_getElem? (i := 9) rfl)), (uw2 _ (List.mem_of_getElem? (i := 11) rfl)), (uw49 _ (List.mem_of_getElem? (i := 7) rfl)), (uw49 _ (List.mem_of_getElem? (i := 8) rfl))⟩
theorem hd_X8_redoable : yX8_redoable.cls ≠ "java/lang/invoke/MethodHandle" ∧ yX8_redoable.cls ≠ "java/lang/invoke/VarHandle" ∧ (parseMethodDescriptor yX8_redoable.desc).map (fun d => d.parameters.length) = some 0 := ⟨by decide +kernel, by decide +kernel, by decide +kernel⟩
theorem hy_X8_stepBack : Cond.code yX8_stepBack cX8_stepBack 1 none ∈ wsL_law ∧ Cond.initialized yX8_stepBack.cls ∈ wsL_law ∧ Cond.instanceMethod yX8_stepBack ∈ wsL_law ∧ Cond.selects yX8_stepBack.cls yX8_stepBack yX8_stepBack ∈ wsL_law := ⟨(uw48 _ (List.mem_of_getElem? (i := 21) rfl)), (uw2 _ (List.mem_of_getElem? (i := 11) rfl)), (uw48 _ (List.mem_of_getElem? (i := 19) rfl)), (uw48 _ (List.mem_of_getElem? (i := 20) rfl))⟩
theorem hd_X8_stepBack : yX8_stepBack.cls ≠ "java/lang/invoke/MethodHandle" ∧ yX8_stepBack.cls ≠ "java/lang/invoke/VarHandle" ∧ (parseMethodDescriptor yX8_stepBack.desc).map (fun d => d.parameters.length) = some 0 := ⟨by decide +kernel, by decide +kernel, by decide +kernel⟩
theorem hy_X8_stepOn : Cond.code yX8_stepOn cX8_stepOn 1 none ∈ wsL_law ∧ Cond.initialized yX8_stepOn.cls ∈ wsL_law ∧ Cond.instanceMethod yX8_stepOn ∈ wsL_law ∧ Cond.selects yX8_stepOn.cls yX8_stepOn yX8_stepOn ∈ wsL_law := ⟨(uw49 _ (List.mem_of_getElem? (i := 21) rfl)), (uw2 _ (List.mem_of_getElem? (i := 11) rfl)), (uw49 _ (List.mem_of_getElem? (i := 19) rfl)), (uw49 _ (List.mem_of_getElem? (i := 20) rfl))⟩
theorem hd_X8_stepOn : yX8_stepOn.cls ≠ "java/lang/invoke/MethodHandle" ∧ yX8_stepOn.cls ≠ "java/lang/invoke/VarHandle" ∧ (parseMethodDescriptor yX8_stepOn.desc).map (fun d => d.parameters.length) = some 0 := ⟨by decide +kernel, by decide +kernel, by decide +kernel⟩
theorem hy_X8_undoable : Cond.code yX8_undoable cX8_undoable 1 (some .int) ∈ wsL_law ∧ Cond.initialized yX8_undoable.cls ∈ wsL_law ∧ Cond.instanceMethod yX8_undoable ∈ wsL_law ∧ Cond.selects yX8_undoable.cls yX8_undoable yX8_undoable ∈ wsL_law := ⟨(uw48 _ (List.mem_of_getElem? (i := 9) rfl)), (uw2 _ (List.mem_of_getElem? (i := 11) rfl)), (uw48 _ (List.mem_of_getElem? (i := 7) rfl)), (uw48 _ (List.mem_of_getElem? (i := 8) rfl))⟩
theorem hd_X8_undoable : yX8_undoable.cls ≠ "java/lang/invoke/MethodHandle" ∧ yX8_undoable.cls ≠ "java/lang/invoke/VarHandle" ∧ (parseMethodDescriptor yX8_undoable.desc).map (fun d => d.parameters.length) = some 0 := ⟨by decide +kernel, by decide +kernel, by decide +kernel⟩
theorem hy_X9_hold : Cond.code yX9_hold cX9_hold 3 none ∈ wsL_law ∧ Cond.initialized yX9_hold.cls ∈ wsL_law ∧ Cond.instanceMethod yX9_hold ∈ wsL_law ∧ Cond.selects yX9_hold.cls yX9_hold yX9_hold ∈ wsL_law := ⟨(uw54 _ (List.mem_of_getElem? (i := 12) rfl)), (uw2 _ (List.mem_of_getElem? (i := 16) rfl)), (uw54 _ (List.mem_of_getElem? (i := 10) rfl)), (uw54 _ (List.mem_of_getElem? (i := 11) rfl))⟩
theorem hd_X9_hold : yX9_hold.cls ≠ "java/lang/invoke/MethodHandle" ∧ yX9_hold.cls ≠ "java/lang/invoke/VarHandle" ∧ (parseMethodDescriptor yX9_hold.desc).map (fun d => d.parameters.length) = some 2 := ⟨by decide +kernel, by decide +kernel, by decide +kernel⟩
theorem ml_X11_286 : Cond.methodLink RX11 286 yX8_undoable ∈ wsL_law := (uw48 _ (List.mem_of_getElem? (i := 6) rfl))
theorem ml_X11_289 : Cond.methodLink RX11 289 yX8_personToUndo ∈ wsL_law := (uw48 _ (List.mem_of_getElem? (i := 10) rfl))
theorem ml_X11_292 : Cond.methodLink RX11 292 yX8_heightToUndo ∈ wsL_law := (uw48 _ (List.mem_of_getElem? (i := 14) rfl))
theorem ml_X11_295 : Cond.methodLink RX11 295 yX8_stepBack ∈ wsL_law := (uw48 _ (List.mem_of_getElem? (i := 18) rfl))
theorem ml_X11_298 : Cond.methodLink RX11 298 yX8_redoable ∈ wsL_law := (uw49 _ (List.mem_of_getElem? (i := 6) rfl))
theorem ml_X11_301 : Cond.methodLink RX11 301 yX8_personToRedo ∈ wsL_law := (uw49 _ (List.mem_of_getElem? (i := 10) rfl))
theorem ml_X11_304 : Cond.methodLink RX11 304 yX8_heightToRedo ∈ wsL_law := (uw49 _ (List.mem_of_getElem? (i := 14) rfl))
theorem ml_X11_307 : Cond.methodLink RX11 307 yX8_stepOn ∈ wsL_law := (uw49 _ (List.mem_of_getElem? (i := 18) rfl))
theorem ml_X11_310 : Cond.methodLink RX11 310 yX3_add ∈ wsL_law := (uw50 _ (List.mem_of_getElem? (i := 6) rfl))
theorem ml_X11_312 : Cond.methodLink RX11 312 yX3_perform ∈ wsL_law := (uw51 _ (List.mem_of_getElem? (i := 0) rfl))
theorem ml_X11_316 : Cond.methodLink RX11 316 yX3_traced ∈ wsL_law := (uw53 _ (List.mem_of_getElem? (i := 20) rfl))
theorem ml_X11_319 : Cond.methodLink RX11 319 yX3_isHead ∈ wsL_law := (uw54 _ (List.mem_of_getElem? (i := 8) rfl))
theorem ml_X11_322 : Cond.methodLink RX11 322 yX9_hold ∈ wsL_law := (uw54 _ (List.mem_of_getElem? (i := 9) rfl))
abbrev w_T_back (G : zG) (a_this : Nat) (a_crowd : Nat) (a_queue : Nat) (a_text : Nat) (a_judge : Nat) (a_deeds : Nat) (a_mendings : Nat) (a_picture : Nat) (a_shelves : Nat) (a_books : Nat) (a_thoughts : Nat) (a_heads : Nat) (a_queue_who : Nat) (a_picture_who : Nat) (hasPicture : Int32) (queue_length : Int32) (queue_who : Nat → Int32) (picture_length : Int32) (picture_who : Nat → Int32) : va_W := [(a_this, cO 11 [.ref a_crowd, .ref a_queue, .ref a_text, .ref a_judge, .ref a_deeds, .ref a_mendings, .ref a_picture, .int hasPicture, .ref a_shelves, .ref a_books, .ref a_thoughts, .ref a_heads]), (a_queue, cO 7 [.ref a_queue_who, .int queue_length]), (a_queue_who, cI G 9 queue_who), (a_picture, cO 7 [.ref a_picture_who, .int picture_length]), (a_picture_who, cI G 9 picture_who)]
def f_T_back (hasPicture : Int32) (queue_length : Int32) (queue_who : Nat → Int32) (picture_length : Int32) (picture_who : Nat → Int32) : Option (Int32 × Int32 × (Nat → Int32)) := (if hasPicture = 0 then (some ((-5), queue_length, queue_who)) else (zb2 (f_Line_copyFrom queue_length queue_who picture_length picture_who) fun queue_length_1 queue_who_2 => (some ((f_Line_size queue_length_1), queue_length_1, queue_who_2))))
set_option maxRecDepth 100000 in
set_option maxHeartbeats 4000000 in
theorem c_T_back (l : Launch) (G : zG) (a_this : Nat) (a_crowd : Nat) (a_queue : Nat) (a_text : Nat) (a_judge : Nat) (a_deeds : Nat) (a_mendings : Nat) (a_picture : Nat) (a_shelves : Nat) (a_books : Nat) (a_thoughts : Nat) (a_heads : Nat) (a_queue_who : Nat) (a_picture_who : Nat) (hasPicture : Int32) (queue_length : Int32) (queue_who : Nat → Int32) (picture_length : Int32) (picture_who : Nat → Int32) (r_ : Int32) (o_queue_length : Int32) (o_queue_who : Nat → Int32) (hf : f_T_back hasPicture queue_length queue_who picture_length picture_who = some (r_, o_queue_length, o_queue_who)) : zM l yX11_back cX11_back 1 (some .int) 2 141 G [.ref a_this] (w_T_back G a_this a_crowd a_queue a_text a_judge a_deeds a_mendings a_picture a_shelves a_books a_thoughts a_heads a_queue_who a_picture_who hasPicture queue_length queue_who picture_length picture_who) (some (.int r_)) (w_T_back G a_this a_crowd a_queue a_text a_judge a_deeds a_mendings a_picture a_shelves a_books a_thoughts a_heads a_queue_who a_picture_who hasPicture o_queue_length o_queue_who picture_length picture_who) := by
  refine zM.of [(0, .ref a_this)] (own := RX11) rfl (by decide +kernel) (Nat.le_of_ble_eq_true rfl) rfl rfl fun X hX F => ?_
  subst hX
  replace hf := (f_T_back.eq_1 ..).symm.trans hf
  refine z_aload_n F 0 dX11_back_0 rfl rfl ?_
  refine z_get F 0 11 7 inlX11 rfl rfl (by decide) fl_X11_282 rfl dX11_back_1 ?_
  refine z_if_ne F 10 dX11_back_4 (by decide) hf (fun hf _ => ?_) (fun hf _ => ?_)
  · refine z_aload_n F 0 dX11_back_10 rfl rfl ?_
    refine z_get F 0 11 1 inlX11 rfl rfl (by decide) fl_X11_19 rfl dX11_back_11 ?_
    refine z_aload_n F 0 dX11_back_14 rfl rfl ?_
    refine z_get F 0 11 6 inlX11 rfl rfl (by decide) fl_X11_55 rfl dX11_back_15 ?_
    obtain ⟨queue_length_1, queue_who_2, hg, hf⟩ := zb2_some hf
    refine z_callVm (rest := []) F 7 (c_Line_copyFrom (xL X) G a_queue a_queue_who a_picture a_picture_who queue_length queue_who picture_length picture_who queue_length_1 queue_who_2 hg) hy_X7_copyFrom ml_X11_192 hd_X7_copyFrom ⟨by omega, by omega⟩ rfl [1, 2, 3, 4] rfl rfl 1 rfl rfl (w_T_back G a_this a_crowd a_queue a_text a_judge a_deeds a_mendings a_picture a_shelves a_books a_thoughts a_heads a_queue_who a_picture_who hasPicture queue_length_1 queue_who_2 picture_length picture_who) [none, some 0, some 1, some 2, some 3] rfl (by decide +kernel) rfl rfl (Nat.le_of_ble_eq_true rfl) dX11_back_18 (fun hz_3 => ?_)
    refine z_aload_n F 0 dX11_back_21 rfl rfl ?_
    refine z_get F 0 11 1 inlX11 rfl rfl (by decide) fl_X11_19 rfl dX11_back_22 ?_
    refine z_callVm (rest := []) F 7 (c_Line_size (xL X) G a_queue a_queue_who queue_length_1 _ rfl) hy_X7_size ml_X11_94 hd_X7_size ⟨by omega, by omega⟩ rfl [1] rfl rfl 1 rfl rfl (w_T_back G a_this a_crowd a_queue a_text a_judge a_deeds a_mendings a_picture a_shelves a_books a_thoughts a_heads a_queue_who a_picture_who hasPicture queue_length_1 queue_who_2 picture_length picture_who) [none, some 0, none, none, none] rfl (by decide +kernel) rfl rfl (Nat.le_of_ble_eq_true rfl) dX11_back_25 (fun hz_4 => ?_)
    have eq1 := Option.some.inj hf
    obtain ⟨ee1, eq2⟩ := Prod.mk.inj eq1
    obtain ⟨ee2, ee3⟩ := Prod.mk.inj eq2
    subst ee1
    subst ee2
    subst ee3
    exact z_iret F rfl rfl rfl rfl dX11_back_28
  · refine z_bipush F (-5) dX11_back_7 rfl ?_
    have eq1 := Option.some.inj hf
    obtain ⟨ee1, eq2⟩ := Prod.mk.inj eq1
    obtain ⟨ee2, ee3⟩ := Prod.mk.inj eq2
    subst ee1
    subst ee2
    subst ee3
    exact z_iret F rfl rfl rfl rfl dX11_back_9

abbrev w_T_undo (G : zG) (a_this : Nat) (a_crowd : Nat) (a_queue : Nat) (a_text : Nat) (a_judge : Nat) (a_deeds : Nat) (a_mendings : Nat) (a_picture : Nat) (a_shelves : Nat) (a_books : Nat) (a_thoughts : Nat) (a_heads : Nat) (a_crowd_heights : Nat) (a_judge_known : Nat) (a_mendings_whose : Nat) (a_mendings_before : Nat) (a_mendings_after : Nat) (hasPicture : Int32) (crowd_people : Int32) (crowd_heights : Nat → Int32) (judge_known : Nat → Int32) (mendings_done : Int32) (mendings_all : Int32) (mendings_whose : Nat → Int32) (mendings_before : Nat → Int32) : va_W := [(a_this, cO 11 [.ref a_crowd, .ref a_queue, .ref a_text, .ref a_judge, .ref a_deeds, .ref a_mendings, .ref a_picture, .int hasPicture, .ref a_shelves, .ref a_books, .ref a_thoughts, .ref a_heads]), (a_crowd, cO 1 [.ref a_crowd_heights, .int crowd_people]), (a_crowd_heights, cI G 9 crowd_heights), (a_judge, cO 4 [.ref a_crowd, .ref a_text, .ref a_judge_known]), (a_judge_known, cB G 729 judge_known), (a_mendings, cO 8 [.ref a_mendings_whose, .ref a_mendings_before, .ref a_mendings_after, .int mendings_done, .int mendings_all]), (a_mendings_whose, cI G 40 mendings_whose), (a_mendings_before, cI G 40 mendings_before)]
def f_T_undo (crowd_people : Int32) (crowd_heights : Nat → Int32) (judge_known : Nat → Int32) (mendings_done : Int32) (mendings_whose : Nat → Int32) (mendings_before : Nat → Int32) : Option (Int32 × (Nat → Int32) × (Nat → Int32) × Int32) := (if (f_Mendings_undoable mendings_done) = 0 then (some ((-5), crowd_heights, judge_known, mendings_done)) else (zb1 (f_Mendings_personToUndo mendings_done mendings_whose) fun r_2 => (zb1 (f_Mendings_heightToUndo mendings_done mendings_before) fun r_4 => (zb1 (f_Crowd_isFree crowd_people crowd_heights r_4 r_2) fun r_6 => (if r_6 = 0 then (some ((-5), crowd_heights, judge_known, mendings_done)) else (zb2 (f_T_changeHeight crowd_people crowd_heights judge_known r_2 r_4) fun crowd_heights_8 judge_known_9 => (zb1 (f_Mendings_stepBack mendings_done) fun mendings_done_11 => (some ((f_Mendings_undoable mendings_done_11), crowd_heights_8, judge_known_9, mendings_done_11)))))))))
set_option maxRecDepth 100000 in
set_option maxHeartbeats 4000000 in
theorem c_T_undo (l : Launch) (G : zG) (a_this : Nat) (a_crowd : Nat) (a_queue : Nat) (a_text : Nat) (a_judge : Nat) (a_deeds : Nat) (a_mendings : Nat) (a_picture : Nat) (a_shelves : Nat) (a_books : Nat) (a_thoughts : Nat) (a_heads : Nat) (a_crowd_heights : Nat) (a_judge_known : Nat) (a_mendings_whose : Nat) (a_mendings_before : Nat) (a_mendings_after : Nat) (hasPicture : Int32) (crowd_people : Int32) (crowd_heights : Nat → Int32) (judge_known : Nat → Int32) (mendings_done : Int32) (mendings_all : Int32) (mendings_whose : Nat → Int32) (mendings_before : Nat → Int32) (r_ : Int32) (o_crowd_heights : Nat → Int32) (o_judge_known : Nat → Int32) (o_mendings_done : Int32) (hf : f_T_undo crowd_people crowd_heights judge_known mendings_done mendings_whose mendings_before = some (r_, o_crowd_heights, o_judge_known, o_mendings_done)) : zM l yX11_undo cX11_undo 3 (some .int) 3 65 G [.ref a_this] (w_T_undo G a_this a_crowd a_queue a_text a_judge a_deeds a_mendings a_picture a_shelves a_books a_thoughts a_heads a_crowd_heights a_judge_known a_mendings_whose a_mendings_before a_mendings_after hasPicture crowd_people crowd_heights judge_known mendings_done mendings_all mendings_whose mendings_before) (some (.int r_)) (w_T_undo G a_this a_crowd a_queue a_text a_judge a_deeds a_mendings a_picture a_shelves a_books a_thoughts a_heads a_crowd_heights a_judge_known a_mendings_whose a_mendings_before a_mendings_after hasPicture crowd_people o_crowd_heights o_judge_known o_mendings_done mendings_all mendings_whose mendings_before) := by
  refine zM.of [(0, .ref a_this)] (own := RX11) rfl (by decide +kernel) (Nat.le_of_ble_eq_true rfl) rfl rfl fun X hX F => ?_
  subst hX
  replace hf := (f_T_undo.eq_1 ..).symm.trans hf
  refine z_aload_n F 0 dX11_undo_0 rfl rfl ?_
  refine z_get F 0 11 5 inlX11 rfl rfl (by decide) fl_X11_51 rfl dX11_undo_1 ?_
  refine z_callVm (rest := []) F 8 (c_Mendings_undoable (xL X) G a_mendings a_mendings_whose a_mendings_before a_mendings_after mendings_done mendings_all _ rfl) hy_X8_undoable ml_X11_286 hd_X8_undoable ⟨by omega, by omega⟩ rfl [5] rfl rfl 5 rfl rfl (w_T_undo G a_this a_crowd a_queue a_text a_judge a_deeds a_mendings a_picture a_shelves a_books a_thoughts a_heads a_crowd_heights a_judge_known a_mendings_whose a_mendings_before a_mendings_after hasPicture crowd_people crowd_heights judge_known mendings_done mendings_all mendings_whose mendings_before) [none, none, none, none, none, some 0, none, none] rfl (by decide +kernel) rfl rfl (Nat.le_of_ble_eq_true rfl) dX11_undo_4 (fun hz_1 => ?_)
  refine z_if_ne F 13 dX11_undo_7 (by decide) hf (fun hf _ => ?_) (fun hf _ => ?_)
  · refine z_aload_n F 0 dX11_undo_13 rfl rfl ?_
    refine z_get F 0 11 5 inlX11 rfl rfl (by decide) fl_X11_51 rfl dX11_undo_14 ?_
    obtain ⟨r_2, hg, hf⟩ := zb1_some hf
    refine z_callVm (rest := []) F 8 (c_Mendings_personToUndo (xL X) G a_mendings a_mendings_whose a_mendings_before a_mendings_after mendings_done mendings_all mendings_whose r_2 hg) hy_X8_personToUndo ml_X11_289 hd_X8_personToUndo ⟨by omega, by omega⟩ rfl [5, 6] rfl rfl 5 rfl rfl (w_T_undo G a_this a_crowd a_queue a_text a_judge a_deeds a_mendings a_picture a_shelves a_books a_thoughts a_heads a_crowd_heights a_judge_known a_mendings_whose a_mendings_before a_mendings_after hasPicture crowd_people crowd_heights judge_known mendings_done mendings_all mendings_whose mendings_before) [none, none, none, none, none, some 0, some 1, none] rfl (by decide +kernel) rfl rfl (Nat.le_of_ble_eq_true rfl) dX11_undo_17 (fun hz_3 => ?_)
    refine z_istore_n F [(1, .int r_2), (0, .ref a_this)] dX11_undo_20 rfl (by decide) rfl ?_
    refine z_aload_n F 1 dX11_undo_21 rfl rfl ?_
    refine z_get F 0 11 5 inlX11 rfl rfl (by decide) fl_X11_51 rfl dX11_undo_22 ?_
    obtain ⟨r_4, hg, hf⟩ := zb1_some hf
    refine z_callVm (rest := []) F 8 (c_Mendings_heightToUndo (xL X) G a_mendings a_mendings_whose a_mendings_before a_mendings_after mendings_done mendings_all mendings_before r_4 hg) hy_X8_heightToUndo ml_X11_292 hd_X8_heightToUndo ⟨by omega, by omega⟩ rfl [5, 7] rfl rfl 5 rfl rfl (w_T_undo G a_this a_crowd a_queue a_text a_judge a_deeds a_mendings a_picture a_shelves a_books a_thoughts a_heads a_crowd_heights a_judge_known a_mendings_whose a_mendings_before a_mendings_after hasPicture crowd_people crowd_heights judge_known mendings_done mendings_all mendings_whose mendings_before) [none, none, none, none, none, some 0, none, some 1] rfl (by decide +kernel) rfl rfl (Nat.le_of_ble_eq_true rfl) dX11_undo_25 (fun hz_5 => ?_)
    refine z_istore_n F [(2, .int r_4), (1, .int r_2), (0, .ref a_this)] dX11_undo_28 rfl (by decide) rfl ?_
    refine z_aload_n F 2 dX11_undo_29 rfl rfl ?_
    refine z_get F 0 11 0 inlX11 rfl rfl (by decide) fl_X11_10 rfl dX11_undo_30 ?_
    refine z_iload_n F 0 dX11_undo_33 rfl rfl ?_
    refine z_iload_n F 1 dX11_undo_34 rfl rfl ?_
    obtain ⟨r_6, hg, hf⟩ := zb1_some hf
    refine z_callVm (rest := []) F 1 (c_Crowd_isFree (xL X) G a_crowd a_crowd_heights crowd_people crowd_heights r_4 r_2 r_6 hg) hy_X1_isFree ml_X11_122 hd_X1_isFree ⟨by omega, by omega⟩ rfl [1, 2] rfl rfl 1 rfl rfl (w_T_undo G a_this a_crowd a_queue a_text a_judge a_deeds a_mendings a_picture a_shelves a_books a_thoughts a_heads a_crowd_heights a_judge_known a_mendings_whose a_mendings_before a_mendings_after hasPicture crowd_people crowd_heights judge_known mendings_done mendings_all mendings_whose mendings_before) [none, some 0, some 1, none, none, none, none, none] rfl (by decide +kernel) rfl rfl (Nat.le_of_ble_eq_true rfl) dX11_undo_35 (fun hz_7 => ?_)
    refine z_if_ne F 44 dX11_undo_38 (by decide) hf (fun hf _ => ?_) (fun hf _ => ?_)
    · refine z_aload_n F 2 dX11_undo_44 rfl rfl ?_
      refine z_iload_n F 1 dX11_undo_45 rfl rfl ?_
      refine z_iload_n F 0 dX11_undo_46 rfl rfl ?_
      obtain ⟨crowd_heights_8, judge_known_9, hg, hf⟩ := zb2_some hf
      refine z_callVm (rest := []) F 11 (c_T_changeHeight (xL X) G a_this a_crowd a_queue a_text a_judge a_deeds a_mendings a_picture a_shelves a_books a_thoughts a_heads a_crowd_heights a_judge_known hasPicture crowd_people crowd_heights judge_known r_2 r_4 crowd_heights_8 judge_known_9 hg) hy_X11_changeHeight ml_X11_133 hd_X11_changeHeight ⟨by omega, by omega⟩ rfl [0, 1, 2, 3, 4] rfl rfl 0 rfl rfl (w_T_undo G a_this a_crowd a_queue a_text a_judge a_deeds a_mendings a_picture a_shelves a_books a_thoughts a_heads a_crowd_heights a_judge_known a_mendings_whose a_mendings_before a_mendings_after hasPicture crowd_people crowd_heights_8 judge_known_9 mendings_done mendings_all mendings_whose mendings_before) [some 0, some 1, some 2, some 3, some 4, none, none, none] rfl (by decide +kernel) rfl rfl (Nat.le_of_ble_eq_true rfl) dX11_undo_47 (fun hz_10 => ?_)
      refine z_aload_n F 2 dX11_undo_50 rfl rfl ?_
      refine z_get F 0 11 5 inlX11 rfl rfl (by decide) fl_X11_51 rfl dX11_undo_51 ?_
      obtain ⟨mendings_done_11, hg, hf⟩ := zb1_some hf
      refine z_callVm (rest := []) F 8 (c_Mendings_stepBack (xL X) G a_mendings a_mendings_whose a_mendings_before a_mendings_after mendings_done mendings_all mendings_done_11 hg) hy_X8_stepBack ml_X11_295 hd_X8_stepBack ⟨by omega, by omega⟩ rfl [5] rfl rfl 5 rfl rfl (w_T_undo G a_this a_crowd a_queue a_text a_judge a_deeds a_mendings a_picture a_shelves a_books a_thoughts a_heads a_crowd_heights a_judge_known a_mendings_whose a_mendings_before a_mendings_after hasPicture crowd_people crowd_heights_8 judge_known_9 mendings_done_11 mendings_all mendings_whose mendings_before) [none, none, none, none, none, some 0, none, none] rfl (by decide +kernel) rfl rfl (Nat.le_of_ble_eq_true rfl) dX11_undo_54 (fun hz_12 => ?_)
      refine z_aload_n F 2 dX11_undo_57 rfl rfl ?_
      refine z_get F 0 11 5 inlX11 rfl rfl (by decide) fl_X11_51 rfl dX11_undo_58 ?_
      refine z_callVm (rest := []) F 8 (c_Mendings_undoable (xL X) G a_mendings a_mendings_whose a_mendings_before a_mendings_after mendings_done_11 mendings_all _ rfl) hy_X8_undoable ml_X11_286 hd_X8_undoable ⟨by omega, by omega⟩ rfl [5] rfl rfl 5 rfl rfl (w_T_undo G a_this a_crowd a_queue a_text a_judge a_deeds a_mendings a_picture a_shelves a_books a_thoughts a_heads a_crowd_heights a_judge_known a_mendings_whose a_mendings_before a_mendings_after hasPicture crowd_people crowd_heights_8 judge_known_9 mendings_done_11 mendings_all mendings_whose mendings_before) [none, none, none, none, none, some 0, none, none] rfl (by decide +kernel) rfl rfl (Nat.le_of_ble_eq_true rfl) dX11_undo_61 (fun hz_13 => ?_)
      have eq1 := Option.some.inj hf
      obtain ⟨ee1, eq2⟩ := Prod.mk.inj eq1
      obtain ⟨ee2, eq3⟩ := Prod.mk.inj eq2
      obtain ⟨ee3, ee4⟩ := Prod.mk.inj eq3
      subst ee1
      subst ee2
      subst ee3
      subst ee4
      exact z_iret F rfl rfl rfl rfl dX11_undo_64
    · refine z_bipush F (-5) dX11_undo_41 rfl ?_
      have eq1 := Option.some.inj hf
      obtain ⟨ee1, eq2⟩ := Prod.mk.inj eq1
      obtain ⟨ee2, eq3⟩ := Prod.mk.inj eq2
      obtain ⟨ee3, ee4⟩ := Prod.mk.inj eq3
      subst ee1
      subst ee2
      subst ee3
      subst ee4
      exact z_iret F rfl rfl rfl rfl dX11_undo_43
  · refine z_bipush F (-5) dX11_undo_10 rfl ?_
    have eq1 := Option.some.inj hf
    obtain ⟨ee1, eq2⟩ := Prod.mk.inj eq1
    obtain ⟨ee2, eq3⟩ := Prod.mk.inj eq2
    obtain ⟨ee3, ee4⟩ := Prod.mk.inj eq3
    subst ee1
    subst ee2
    subst ee3
    subst ee4
    exact z_iret F rfl rfl rfl rfl dX11_undo_12

abbrev w_T_redo (G : zG) (a_this : Nat) (a_crowd : Nat) (a_queue : Nat) (a_text : Nat) (a_judge : Nat) (a_deeds : Nat) (a_mendings : Nat) (a_picture : Nat) (a_shelves : Nat) (a_books : Nat) (a_thoughts : Nat) (a_heads : Nat) (a_crowd_heights : Nat) (a_judge_known : Nat) (a_mendings_whose : Nat) (a_mendings_before : Nat) (a_mendings_after : Nat) (hasPicture : Int32) (crowd_people : Int32) (crowd_heights : Nat → Int32) (judge_known : Nat → Int32) (mendings_done : Int32) (mendings_all : Int32) (mendings_whose : Nat → Int32) (mendings_after : Nat → Int32) : va_W := [(a_this, cO 11 [.ref a_crowd, .ref a_queue, .ref a_text, .ref a_judge, .ref a_deeds, .ref a_mendings, .ref a_picture, .int hasPicture, .ref a_shelves, .ref a_books, .ref a_thoughts, .ref a_heads]), (a_crowd, cO 1 [.ref a_crowd_heights, .int crowd_people]), (a_crowd_heights, cI G 9 crowd_heights), (a_judge, cO 4 [.ref a_crowd, .ref a_text, .ref a_judge_known]), (a_judge_known, cB G 729 judge_known), (a_mendings, cO 8 [.ref a_mendings_whose, .ref a_mendings_before, .ref a_mendings_after, .int mendings_done, .int mendings_all]), (a_mendings_whose, cI G 40 mendings_whose), (a_mendings_after, cI G 40 mendings_after)]
def f_T_redo (crowd_people : Int32) (crowd_heights : Nat → Int32) (judge_known : Nat → Int32) (mendings_done : Int32) (mendings_all : Int32) (mendings_whose : Nat → Int32) (mendings_after : Nat → Int32) : Option (Int32 × (Nat → Int32) × (Nat → Int32) × Int32) := (if (f_Mendings_redoable mendings_done mendings_all) = 0 then (some ((-5), crowd_heights, judge_known, mendings_done)) else (zb1 (f_Mendings_personToRedo mendings_done mendings_all mendings_whose) fun r_2 => (zb1 (f_Mendings_heightToRedo mendings_done mendings_all mendings_after) fun r_4 => (zb1 (f_Crowd_isFree crowd_people crowd_heights r_4 r_2) fun r_6 => (if r_6 = 0 then (some ((-5), crowd_heights, judge_known, mendings_done)) else (zb2 (f_T_changeHeight crowd_people crowd_heights judge_known r_2 r_4) fun crowd_heights_8 judge_known_9 => (zb1 (f_Mendings_stepOn mendings_done mendings_all) fun mendings_done_11 => (some ((f_Mendings_redoable mendings_done_11 mendings_all), crowd_heights_8, judge_known_9, mendings_done_11)))))))))
set_option maxRecDepth 100000 in
set_option maxHeartbeats 4000000 in
theorem c_T_redo (l : Launch) (G : zG) (a_this : Nat) (a_crowd : Nat) (a_queue : Nat) (a_text : Nat) (a_judge : Nat) (a_deeds : Nat) (a_mendings : Nat) (a_picture : Nat) (a_shelves : Nat) (a_books : Nat) (a_thoughts : Nat) (a_heads : Nat) (a_crowd_heights : Nat) (a_judge_known : Nat) (a_mendings_whose : Nat) (a_mendings_before : Nat) (a_mendings_after : Nat) (hasPicture : Int32) (crowd_people : Int32) (crowd_heights : Nat → Int32) (judge_known : Nat → Int32) (mendings_done : Int32) (mendings_all : Int32) (mendings_whose : Nat → Int32) (mendings_after : Nat → Int32) (r_ : Int32) (o_crowd_heights : Nat → Int32) (o_judge_known : Nat → Int32) (o_mendings_done : Int32) (hf : f_T_redo crowd_people crowd_heights judge_known mendings_done mendings_all mendings_whose mendings_after = some (r_, o_crowd_heights, o_judge_known, o_mendings_done)) : zM l yX11_redo cX11_redo 3 (some .int) 3 65 G [.ref a_this] (w_T_redo G a_this a_crowd a_queue a_text a_judge a_deeds a_mendings a_picture a_shelves a_books a_thoughts a_heads a_crowd_heights a_judge_known a_mendings_whose a_mendings_before a_mendings_after hasPicture crowd_people crowd_heights judge_known mendings_done mendings_all mendings_whose mendings_after) (some (.int r_)) (w_T_redo G a_this a_crowd a_queue a_text a_judge a_deeds a_mendings a_picture a_shelves a_books a_thoughts a_heads a_crowd_heights a_judge_known a_mendings_whose a_mendings_before a_mendings_after hasPicture crowd_people o_crowd_heights o_judge_known o_mendings_done mendings_all mendings_whose mendings_after) := by
  refine zM.of [(0, .ref a_this)] (own := RX11) rfl (by decide +kernel) (Nat.le_of_ble_eq_true rfl) rfl rfl fun X hX F => ?_
  subst hX
  replace hf := (f_T_redo.eq_1 ..).symm.trans hf
  refine z_aload_n F 0 dX11_redo_0 rfl rfl ?_
  refine z_get F 0 11 5 inlX11 rfl rfl (by decide) fl_X11_51 rfl dX11_redo_1 ?_
  refine z_callVm (rest := []) F 8 (c_Mendings_redoable (xL X) G a_mendings a_mendings_whose a_mendings_before a_mendings_after mendings_done mendings_all _ rfl) hy_X8_redoable ml_X11_298 hd_X8_redoable ⟨by omega, by omega⟩ rfl [5] rfl rfl 5 rfl rfl (w_T_redo G a_this a_crowd a_queue a_text a_judge a_deeds a_mendings a_picture a_shelves a_books a_thoughts a_heads a_crowd_heights a_judge_known a_mendings_whose a_mendings_before a_mendings_after hasPicture crowd_people crowd_heights judge_known mendings_done mendings_all mendings_whose mendings_after) [none, none, none, none, none, some 0, none, none] rfl (by decide +kernel) rfl rfl (Nat.le_of_ble_eq_true rfl) dX11_redo_4 (fun hz_1 => ?_)
  refine z_if_ne F 13 dX11_redo_7 (by decide) hf (fun hf _ => ?_) (fun hf _ => ?_)
  · refine z_aload_n F 0 dX11_redo_13 rfl rfl ?_
    refine z_get F 0 11 5 inlX11 rfl rfl (by decide) fl_X11_51 rfl dX11_redo_14 ?_
    obtain ⟨r_2, hg, hf⟩ := zb1_some hf
    refine z_callVm (rest := []) F 8 (c_Mendings_personToRedo (xL X) G a_mendings a_mendings_whose a_mendings_before a_mendings_after mendings_done mendings_all mendings_whose r_2 hg) hy_X8_personToRedo ml_X11_301 hd_X8_personToRedo ⟨by omega, by omega⟩ rfl [5, 6] rfl rfl 5 rfl rfl (w_T_redo G a_this a_crowd a_queue a_text a_judge a_deeds a_mendings a_picture a_shelves a_books a_thoughts a_heads a_crowd_heights a_judge_known a_mendings_whose a_mendings_before a_mendings_after hasPicture crowd_people crowd_heights judge_known mendings_done mendings_all mendings_whose mendings_after) [none, none, none, none, none, some 0, some 1, none] rfl (by decide +kernel) rfl rfl (Nat.le_of_ble_eq_true rfl) dX11_redo_17 (fun hz_3 => ?_)
    refine z_istore_n F [(1, .int r_2), (0, .ref a_this)] dX11_redo_20 rfl (by decide) rfl ?_
    refine z_aload_n F 1 dX11_redo_21 rfl rfl ?_
    refine z_get F 0 11 5 inlX11 rfl rfl (by decide) fl_X11_51 rfl dX11_redo_22 ?_
    obtain ⟨r_4, hg, hf⟩ := zb1_some hf
    refine z_callVm (rest := []) F 8 (c_Mendings_heightToRedo (xL X) G a_mendings a_mendings_whose a_mendings_before a_mendings_after mendings_done mendings_all mendings_after r_4 hg) hy_X8_heightToRedo ml_X11_304 hd_X8_heightToRedo ⟨by omega, by omega⟩ rfl [5, 7] rfl rfl 5 rfl rfl (w_T_redo G a_this a_crowd a_queue a_text a_judge a_deeds a_mendings a_picture a_shelves a_books a_thoughts a_heads a_crowd_heights a_judge_known a_mendings_whose a_mendings_before a_mendings_after hasPicture crowd_people crowd_heights judge_known mendings_done mendings_all mendings_whose mendings_after) [none, none, none, none, none, some 0, none, some 1] rfl (by decide +kernel) rfl rfl (Nat.le_of_ble_eq_true rfl) dX11_redo_25 (fun hz_5 => ?_)
    refine z_istore_n F [(2, .int r_4), (1, .int r_2), (0, .ref a_this)] dX11_redo_28 rfl (by decide) rfl ?_
    refine z_aload_n F 2 dX11_redo_29 rfl rfl ?_
    refine z_get F 0 11 0 inlX11 rfl rfl (by decide) fl_X11_10 rfl dX11_redo_30 ?_
    refine z_iload_n F 0 dX11_redo_33 rfl rfl ?_
    refine z_iload_n F 1 dX11_redo_34 rfl rfl ?_
    obtain ⟨r_6, hg, hf⟩ := zb1_some hf
    refine z_callVm (rest := []) F 1 (c_Crowd_isFree (xL X) G a_crowd a_crowd_heights crowd_people crowd_heights r_4 r_2 r_6 hg) hy_X1_isFree ml_X11_122 hd_X1_isFree ⟨by omega, by omega⟩ rfl [1, 2] rfl rfl 1 rfl rfl (w_T_redo G a_this a_crowd a_queue a_text a_judge a_deeds a_mendings a_picture a_shelves a_books a_thoughts a_heads a_crowd_heights a_judge_known a_mendings_whose a_mendings_before a_mendings_after hasPicture crowd_people crowd_heights judge_known mendings_done mendings_all mendings_whose mendings_after) [none, some 0, some 1, none, none, none, none, none] rfl (by decide +kernel) rfl rfl (Nat.le_of_ble_eq_true rfl) dX11_redo_35 (fun hz_7 => ?_)
    refine z_if_ne F 44 dX11_redo_38 (by decide) hf (fun hf _ => ?_) (fun hf _ => ?_)
    · refine z_aload_n F 2 dX11_redo_44 rfl rfl ?_
      refine z_iload_n F 1 dX11_redo_45 rfl rfl ?_
      refine z_iload_n F 0 dX11_redo_46 rfl rfl ?_
      obtain ⟨crowd_heights_8, judge_known_9, hg, hf⟩ := zb2_some hf
      refine z_callVm (rest := []) F 11 (c_T_changeHeight (xL X) G a_this a_crowd a_queue a_text a_judge a_deeds a_mendings a_picture a_shelves a_books a_thoughts a_heads a_crowd_heights a_judge_known hasPicture crowd_people crowd_heights judge_known r_2 r_4 crowd_heights_8 judge_known_9 hg) hy_X11_changeHeight ml_X11_133 hd_X11_changeHeight ⟨by omega, by omega⟩ rfl [0, 1, 2, 3, 4] rfl rfl 0 rfl rfl (w_T_redo G a_this a_crowd a_queue a_text a_judge a_deeds a_mendings a_picture a_shelves a_books a_thoughts a_heads a_crowd_heights a_judge_known a_mendings_whose a_mendings_before a_mendings_after hasPicture crowd_people crowd_heights_8 judge_known_9 mendings_done mendings_all mendings_whose mendings_after) [some 0, some 1, some 2, some 3, some 4, none, none, none] rfl (by decide +kernel) rfl rfl (Nat.le_of_ble_eq_true rfl) dX11_redo_47 (fun hz_10 => ?_)
      refine z_aload_n F 2 dX11_redo_50 rfl rfl ?_
      refine z_get F 0 11 5 inlX11 rfl rfl (by decide) fl_X11_51 rfl dX11_redo_51 ?_
      obtain ⟨mendings_done_11, hg, hf⟩ := zb1_some hf
      refine z_callVm (rest := []) F 8 (c_Mendings_stepOn (xL X) G a_mendings a_mendings_whose a_mendings_before a_mendings_after mendings_done mendings_all mendings_done_11 hg) hy_X8_stepOn ml_X11_307 hd_X8_stepOn ⟨by omega, by omega⟩ rfl [5] rfl rfl 5 rfl rfl (w_T_redo G a_this a_crowd a_queue a_text a_judge a_deeds a_mendings a_picture a_shelves a_books a_thoughts a_heads a_crowd_heights a_judge_known a_mendings_whose a_mendings_before a_mendings_after hasPicture crowd_people crowd_heights_8 judge_known_9 mendings_done_11 mendings_all mendings_whose mendings_after) [none, none, none, none, none, some 0, none, none] rfl (by decide +kernel) rfl rfl (Nat.le_of_ble_eq_true rfl) dX11_redo_54 (fun hz_12 => ?_)
      refine z_aload_n F 2 dX11_redo_57 rfl rfl ?_
      refine z_get F 0 11 5 inlX11 rfl rfl (by decide) fl_X11_51 rfl dX11_redo_58 ?_
      refine z_callVm (rest := []) F 8 (c_Mendings_redoable (xL X) G a_mendings a_mendings_whose a_mendings_before a_mendings_after mendings_done_11 mendings_all _ rfl) hy_X8_redoable ml_X11_298 hd_X8_redoable ⟨by omega, by omega⟩ rfl [5] rfl rfl 5 rfl rfl (w_T_redo G a_this a_crowd a_queue a_text a_judge a_deeds a_mendings a_picture a_shelves a_books a_thoughts a_heads a_crowd_heights a_judge_known a_mendings_whose a_mendings_before a_mendings_after hasPicture crowd_people crowd_heights_8 judge_known_9 mendings_done_11 mendings_all mendings_whose mendings_after) [none, none, none, none, none, some 0, none, none] rfl (by decide +kernel) rfl rfl (Nat.le_of_ble_eq_true rfl) dX11_redo_61 (fun hz_13 => ?_)
      have eq1 := Option.some.inj hf
      obtain ⟨ee1, eq2⟩ := Prod.mk.inj eq1
      obtain ⟨ee2, eq3⟩ := Prod.mk.inj eq2
      obtain ⟨ee3, ee4⟩ := Prod.mk.inj eq3
      subst ee1
      subst ee2
      subst ee3
      subst ee4
      exact z_iret F rfl rfl rfl rfl dX11_redo_64
    · refine z_bipush F (-5) dX11_redo_41 rfl ?_
      have eq1 := Option.some.inj hf
      obtain ⟨ee1, eq2⟩ := Prod.mk.inj eq1
      obtain ⟨ee2, eq3⟩ := Prod.mk.inj eq2
      obtain ⟨ee3, ee4⟩ := Prod.mk.inj eq3
      subst ee1
      subst ee2
      subst ee3
      subst ee4
      exact z_iret F rfl rfl rfl rfl dX11_redo_43
  · refine z_bipush F (-5) dX11_redo_10 rfl ?_
    have eq1 := Option.some.inj hf
    obtain ⟨ee1, eq2⟩ := Prod.mk.inj eq1
    obtain ⟨ee2, eq3⟩ := Prod.mk.inj eq2
    obtain ⟨ee3, ee4⟩ := Prod.mk.inj eq3
    subst ee1
    subst ee2
    subst ee3
    subst ee4
    exact z_iret F rfl rfl rfl rfl dX11_redo_12

abbrev w_T_body (G : zG) (a_this : Nat) (a_crowd : Nat) (a_queue : Nat) (a_text : Nat) (a_judge : Nat) (a_deeds : Nat) (a_mendings : Nat) (a_picture : Nat) (a_shelves : Nat) (a_books : Nat) (a_thoughts : Nat) (a_heads : Nat) (a_heads_kinds : Nat) (a_heads_trace : Nat) (hasPicture : Int32) (heads_size : Int32) (heads_ran : Int32) (heads_number : Int32) (heads_ownKind : Int32) (heads_kinds : Nat → Int32) : va_W := [(a_this, cO 11 [.ref a_crowd, .ref a_queue, .ref a_text, .ref a_judge, .ref a_deeds, .ref a_mendings, .ref a_picture, .int hasPicture, .ref a_shelves, .ref a_books, .ref a_thoughts, .ref a_heads]), (a_heads, cO 3 [.ref a_heads_kinds, .int heads_size, .ref a_heads_trace, .int heads_ran, .int heads_number, .int heads_ownKind]), (a_heads_kinds, cI G 50 heads_kinds)]
def f_T_body (heads_size : Int32) (heads_kinds : Nat → Int32) (x1 : Int32) : Option (Int32 × Int32 × (Nat → Int32)) := (zb3 (f_Heads_add heads_size heads_kinds x1) fun r_1 heads_size_2 heads_kinds_3 => (some (r_1, heads_size_2, heads_kinds_3)))
set_option maxRecDepth 100000 in
set_option maxHeartbeats 4000000 in
theorem c_T_body (l : Launch) (G : zG) (a_this : Nat) (a_crowd : Nat) (a_queue : Nat) (a_text : Nat) (a_judge : Nat) (a_deeds : Nat) (a_mendings : Nat) (a_picture : Nat) (a_shelves : Nat) (a_books : Nat) (a_thoughts : Nat) (a_heads : Nat) (a_heads_kinds : Nat) (a_heads_trace : Nat) (hasPicture : Int32) (heads_size : Int32) (heads_ran : Int32) (heads_number : Int32) (heads_ownKind : Int32) (heads_kinds : Nat → Int32) (x1 : Int32) (r_ : Int32) (o_heads_size : Int32) (o_heads_kinds : Nat → Int32) (hf : f_T_body heads_size heads_kinds x1 = some (r_, o_heads_size, o_heads_kinds)) : zM l yX11_body cX11_body 2 (some .int) 2 41 G [.ref a_this, .int x1] (w_T_body G a_this a_crowd a_queue a_text a_judge a_deeds a_mendings a_picture a_shelves a_books a_thoughts a_heads a_heads_kinds a_heads_trace hasPicture heads_size heads_ran heads_number heads_ownKind heads_kinds) (some (.int r_)) (w_T_body G a_this a_crowd a_queue a_text a_judge a_deeds a_mendings a_picture a_shelves a_books a_thoughts a_heads a_heads_kinds a_heads_trace hasPicture o_heads_size heads_ran heads_number heads_ownKind o_heads_kinds) := by
  refine zM.of [(0, .ref a_this), (1, .int x1)] (own := RX11) rfl (by decide +kernel) (Nat.le_of_ble_eq_true rfl) rfl rfl fun X hX F => ?_
  subst hX
  replace hf := (f_T_body.eq_1 ..).symm.trans hf
  refine z_aload_n F 0 dX11_body_0 rfl rfl ?_
  refine z_get F 0 11 11 inlX11 rfl rfl (by decide) fl_X11_86 rfl dX11_body_1 ?_
  refine z_iload_n F 1 dX11_body_4 rfl rfl ?_
  obtain ⟨r_1, heads_size_2, heads_kinds_3, hg, hf⟩ := zb3_some hf
  refine z_callVm (rest := []) F 3 (c_Heads_add (xL X) G a_heads a_heads_kinds a_heads_trace heads_size heads_ran heads_number heads_ownKind heads_kinds x1 r_1 heads_size_2 heads_kinds_3 hg) hy_X3_add ml_X11_310 hd_X3_add ⟨by omega, by omega⟩ rfl [1, 2] rfl rfl 1 rfl rfl (w_T_body G a_this a_crowd a_queue a_text a_judge a_deeds a_mendings a_picture a_shelves a_books a_thoughts a_heads a_heads_kinds a_heads_trace hasPicture heads_size_2 heads_ran heads_number heads_ownKind heads_kinds_3) [none, some 0, some 1] rfl (by decide +kernel) rfl rfl (Nat.le_of_ble_eq_true rfl) dX11_body_5 (fun hz_4 => ?_)
  have eq1 := Option.some.inj hf
  obtain ⟨ee1, eq2⟩ := Prod.mk.inj eq1
  obtain ⟨ee2, ee3⟩ := Prod.mk.inj eq2
  subst ee1
  subst ee2
  subst ee3
  exact z_iret F rfl rfl rfl rfl dX11_body_8

abbrev w_T_act (G : zG) (a_this : Nat) (a_crowd : Nat) (a_queue : Nat) (a_text : Nat) (a_judge : Nat) (a_deeds : Nat) (a_mendings : Nat) (a_picture : Nat) (a_shelves : Nat) (a_books : Nat) (a_thoughts : Nat) (a_heads : Nat) (a_heads_kinds : Nat) (a_heads_trace : Nat) (hasPicture : Int32) (heads_size : Int32) (heads_ran : Int32) (heads_number : Int32) (heads_ownKind : Int32) (heads_kinds : Nat → Int32) (heads_trace : Nat → Int32) : va_W := [(a_this, cO 11 [.ref a_crowd, .ref a_queue, .ref a_text, .ref a_judge, .ref a_deeds, .ref a_mendings, .ref a_picture, .int hasPicture, .ref a_shelves, .ref a_books, .ref a_thoughts, .ref a_heads]), (a_heads, cO 3 [.ref a_heads_kinds, .int heads_size, .ref a_heads_trace, .int heads_ran, .int heads_number, .int heads_ownKind]), (a_heads_kinds, cI G 50 heads_kinds), (a_heads_trace, cI G 24 heads_trace)]
def f_T_act (heads_size : Int32) (heads_ran : Int32) (heads_number : Int32) (heads_ownKind : Int32) (heads_kinds : Nat → Int32) (heads_trace : Nat → Int32) (x1 : Int32) (x2 : Int32) (x3 : Int32) : Option (Int32 × Int32 × Int32 × Int32 × (Nat → Int32)) := (zb5 (f_Heads_perform heads_size heads_ran heads_number heads_ownKind heads_kinds heads_trace x1 x2 x3) fun r_1 heads_ran_2 heads_number_3 heads_ownKind_4 heads_trace_5 => (some (r_1, heads_ran_2, heads_number_3, heads_ownKind_4, heads_trace_5)))
set_option maxRecDepth 100000 in
set_option maxHeartbeats 4000000 in
theorem c_T_act (l : Launch) (G : zG) (a_this : Nat) (a_crowd : Nat) (a_queue : Nat) (a_text : Nat) (a_judge : Nat) (a_deeds : Nat) (a_mendings : Nat) (a_picture : Nat) (a_shelves : Nat) (a_books : Nat) (a_thoughts : Nat) (a_heads : Nat) (a_heads_kinds : Nat) (a_heads_trace : Nat) (hasPicture : Int32) (heads_size : Int32) (heads_ran : Int32) (heads_number : Int32) (heads_ownKind : Int32) (heads_kinds : Nat → Int32) (heads_trace : Nat → Int32) (x1 : Int32) (x2 : Int32) (x3 : Int32) (r_ : Int32) (o_heads_ran : Int32) (o_heads_number : Int32) (o_heads_ownKind : Int32) (o_heads_trace : Nat → Int32) (hf : f_T_act heads_size heads_ran heads_number heads_ownKind heads_kinds heads_trace x1 x2 x3 = some (r_, o_heads_ran, o_heads_number, o_heads_ownKind, o_heads_trace)) : zM l yX11_act cX11_act 4 (some .int) 165 4233 G [.ref a_this, .int x1, .int x2, .int x3] (w_T_act G a_this a_crowd a_queue a_text a_judge a_deeds a_mendings a_picture a_shelves a_books a_thoughts a_heads a_heads_kinds a_heads_trace hasPicture heads_size heads_ran heads_number heads_ownKind heads_kinds heads_trace) (some (.int r_)) (w_T_act G a_this a_crowd a_queue a_text a_judge a_deeds a_mendings a_picture a_shelves a_books a_thoughts a_heads a_heads_kinds a_heads_trace hasPicture heads_size o_heads_ran o_heads_number o_heads_ownKind heads_kinds o_heads_trace) := by
  refine zM.of [(0, .ref a_this), (1, .int x1), (2, .int x2), (3, .int x3)] (own := RX11) rfl (by decide +kernel) (Nat.le_of_ble_eq_true rfl) rfl rfl fun X hX F => ?_
  subst hX
  replace hf := (f_T_act.eq_1 ..).symm.trans hf
  refine z_aload_n F 0 dX11_act_0 rfl rfl ?_
  refine z_get F 0 11 11 inlX11 rfl rfl (by decide) fl_X11_86 rfl dX11_act_1 ?_
  refine z_iload_n F 1 dX11_act_4 rfl rfl ?_
  refine z_iload_n F 2 dX11_act_5 rfl rfl ?_
  refine z_iload_n F 3 dX11_act_6 rfl rfl ?_
  obtain ⟨r_1, heads_ran_2, heads_number_3, heads_ownKind_4, heads_trace_5, hg, hf⟩ := zb5_some hf
  refine z_callVm (rest := []) F 3 (c_Heads_perform (xL X) G a_heads a_heads_kinds a_heads_trace heads_size heads_ran heads_number heads_ownKind heads_kinds heads_trace x1 x2 x3 r_1 heads_ran_2 heads_number_3 heads_ownKind_4 heads_trace_5 hg) hy_X3_perform ml_X11_312 hd_X3_perform ⟨by omega, by omega⟩ rfl [1, 2, 3] rfl rfl 1 rfl rfl (w_T_act G a_this a_crowd a_queue a_text a_judge a_deeds a_mendings a_picture a_shelves a_books a_thoughts a_heads a_heads_kinds a_heads_trace hasPicture heads_size heads_ran_2 heads_number_3 heads_ownKind_4 heads_kinds heads_trace_5) [none, some 0, some 1, some 2] rfl (by decide +kernel) rfl rfl (Nat.le_of_ble_eq_true rfl) dX11_act_7 (fun hz_6 => ?_)
  have eq1 := Option.some.inj hf
  obtain ⟨ee1, eq2⟩ := Prod.mk.inj eq1
  obtain ⟨ee2, eq3⟩ := Prod.mk.inj eq2
  obtain ⟨ee3, eq4⟩ := Prod.mk.inj eq3
  obtain ⟨ee4, ee5⟩ := Prod.mk.inj eq4
  subst ee1
  subst ee2
  subst ee3
  subst ee4
  subst ee5
  exact z_iret F rfl rfl rfl rfl dX11_act_10

abbrev w_T_trace (G : zG) (a_this : Nat) (a_crowd : Nat) (a_queue : Nat) (a_text : Nat) (a_judge : Nat) (a_deeds : Nat) (a_mendings : Nat) (a_picture : Nat) (a_shelves : Nat) (a_books : Nat) (a_thoughts : Nat) (a_heads : Nat) (a_heads_kinds : Nat) (a_heads_trace : Nat) (hasPicture : Int32) (heads_size : Int32) (heads_ran : Int32) (heads_number : Int32) (heads_ownKind : Int32) (heads_trace : Nat → Int32) : va_W := [(a_this, cO 11 [.ref a_crowd, .ref a_queue, .ref a_text, .ref a_judge, .ref a_deeds, .ref a_mendings, .ref a_picture, .int hasPicture, .ref a_shelves, .ref a_books, .ref a_thoughts, .ref a_heads]), (a_heads, cO 3 [.ref a_heads_kinds, .int heads_size, .ref a_heads_trace, .int heads_ran, .int heads_number, .int heads_ownKind]), (a_heads_trace, cI G 24 heads_trace)]
def f_T_trace (heads_ran : Int32) (heads_trace : Nat → Int32) (x1 : Int32) : Option Int32 := (zb1 (f_Heads_traced heads_ran heads_trace x1) fun r_1 => (some r_1))
set_option maxRecDepth 100000 in
set_option maxHeartbeats 4000000 in
theorem c_T_trace (l : Launch) (G : zG) (a_this : Nat) (a_crowd : Nat) (a_queue : Nat) (a_text : Nat) (a_judge : Nat) (a_deeds : Nat) (a_mendings : Nat) (a_picture : Nat) (a_shelves : Nat) (a_books : Nat) (a_thoughts : Nat) (a_heads : Nat) (a_heads_kinds : Nat) (a_heads_trace : Nat) (hasPicture : Int32) (heads_size : Int32) (heads_ran : Int32) (heads_number : Int32) (heads_ownKind : Int32) (heads_trace : Nat → Int32) (x1 : Int32) (r_ : Int32) (hf : f_T_trace heads_ran heads_trace x1 = some r_) : zM l yX11_trace cX11_trace 2 (some .int) 1 21 G [.ref a_this, .int x1] (w_T_trace G a_this a_crowd a_queue a_text a_judge a_deeds a_mendings a_picture a_shelves a_books a_thoughts a_heads a_heads_kinds a_heads_trace hasPicture heads_size heads_ran heads_number heads_ownKind heads_trace) (some (.int r_)) (w_T_trace G a_this a_crowd a_queue a_text a_judge a_deeds a_mendings a_picture a_shelves a_books a_thoughts a_heads a_heads_kinds a_heads_trace hasPicture heads_size heads_ran heads_number heads_ownKind heads_trace) := by
  refine zM.of [(0, .ref a_this), (1, .int x1)] (own := RX11) rfl (by decide +kernel) (Nat.le_of_ble_eq_true rfl) rfl rfl fun X hX F => ?_
  subst hX
  replace hf := (f_T_trace.eq_1 ..).symm.trans hf
  refine z_aload_n F 0 dX11_trace_0 rfl rfl ?_
  refine z_get F 0 11 11 inlX11 rfl rfl (by decide) fl_X11_86 rfl dX11_trace_1 ?_
  refine z_iload_n F 1 dX11_trace_4 rfl rfl ?_
  obtain ⟨r_1, hg, hf⟩ := zb1_some hf
  refine z_callVm (rest := []) F 3 (c_Heads_traced (xL X) G a_heads a_heads_kinds a_heads_trace heads_size heads_ran heads_number heads_ownKind heads_trace x1 r_1 hg) hy_X3_traced ml_X11_316 hd_X3_traced ⟨by omega, by omega⟩ rfl [1, 2] rfl rfl 1 rfl rfl (w_T_trace G a_this a_crowd a_queue a_text a_judge a_deeds a_mendings a_picture a_shelves a_books a_thoughts a_heads a_heads_kinds a_heads_trace hasPicture heads_size heads_ran heads_number heads_ownKind heads_trace) [none, some 0, some 1] rfl (by decide +kernel) rfl rfl (Nat.le_of_ble_eq_true rfl) dX11_trace_5 (fun hz_2 => ?_)
  have ee1 := Option.some.inj hf
  subst ee1
  exact z_iret F rfl rfl rfl rfl dX11_trace_8

abbrev w_T_keep (G : zG) (a_this : Nat) (a_crowd : Nat) (a_queue : Nat) (a_text : Nat) (a_judge : Nat) (a_deeds : Nat) (a_mendings : Nat) (a_picture : Nat) (a_shelves : Nat) (a_books : Nat) (a_thoughts : Nat) (a_heads : Nat) (a_shelves_sorts : Nat) (a_shelves_sizes : Nat) (a_shelves_held : Nat) (a_shelves_elements : Nat) (a_heads_kinds : Nat) (a_heads_trace : Nat) (hasPicture : Int32) (shelves_sorts : Nat → Int32) (shelves_sizes : Nat → Int32) (shelves_held : Nat → Int32) (heads_size : Int32) (heads_ran : Int32) (heads_number : Int32) (heads_ownKind : Int32) : va_W := [(a_this, cO 11 [.ref a_crowd, .ref a_queue, .ref a_text, .ref a_judge, .ref a_deeds, .ref a_mendings, .ref a_picture, .int hasPicture, .ref a_shelves, .ref a_books, .ref a_thoughts, .ref a_heads]), (a_shelves, cO 9 [.ref a_shelves_sorts, .ref a_shelves_sizes, .ref a_shelves_held, .ref a_shelves_elements]), (a_shelves_sorts, cI G 6 shelves_sorts), (a_shelves_sizes, cI G 6 shelves_sizes), (a_shelves_held, cI G 6 shelves_held), (a_heads, cO 3 [.ref a_heads_kinds, .int heads_size, .ref a_heads_trace, .int heads_ran, .int heads_number, .int heads_ownKind])]
def f_T_keep (shelves_sorts : Nat → Int32) (shelves_sizes : Nat → Int32) (shelves_held : Nat → Int32) (heads_size : Int32) (x1 : Int32) (x2 : Int32) : Option (Int32 × (Nat → Int32) × (Nat → Int32) × (Nat → Int32)) := (if (f_Shelves_isShelf x1) = 0 then (some ((-1), shelves_sorts, shelves_sizes, shelves_held)) else (if x2 = (-1) then (zb3 (f_Shelves_hold shelves_sorts shelves_sizes shelves_held x1 x2) fun shelves_sorts_2 shelves_sizes_3 shelves_held_4 => (some (1, shelves_sorts_2, shelves_sizes_3, shelves_held_4))) else (if (f_Heads_isHead heads_size x2) = 0 then (some ((-1), shelves_sorts, shelves_sizes, shelves_held)) else (zb3 (f_Shelves_hold shelves_sorts shelves_sizes shelves_held x1 x2) fun shelves_sorts_7 shelves_sizes_8 shelves_held_9 => (some (1, shelves_sorts_7, shelves_sizes_8, shelves_held_9))))))
set_option maxRecDepth 100000 in
set_option maxHeartbeats 4000000 in
theorem c_T_keep (l : Launch) (G : zG) (a_this : Nat) (a_crowd : Nat) (a_queue : Nat) (a_text : Nat) (a_judge : Nat) (a_deeds : Nat) (a_mendings : Nat) (a_picture : Nat) (a_shelves : Nat) (a_books : Nat) (a_thoughts : Nat) (a_heads : Nat) (a_shelves_sorts : Nat) (a_shelves_sizes : Nat) (a_shelves_held : Nat) (a_shelves_elements : Nat) (a_heads_kinds : Nat) (a_heads_trace : Nat) (hasPicture : Int32) (shelves_sorts : Nat → Int32) (shelves_sizes : Nat → Int32) (shelves_held : Nat → Int32) (heads_size : Int32) (heads_ran : Int32) (heads_number : Int32) (heads_ownKind : Int32) (x1 : Int32) (x2 : Int32) (r_ : Int32) (o_shelves_sorts : Nat → Int32) (o_shelves_sizes : Nat → Int32) (o_shelves_held : Nat → Int32) (hf : f_T_keep shelves_sorts shelves_sizes shelves_held heads_size x1 x2 = some (r_, o_shelves_sorts, o_shelves_sizes, o_shelves_held)) : zM l yX11_keep cX11_keep 3 (some .int) 2 43 G [.ref a_this, .int x1, .int x2] (w_T_keep G a_this a_crowd a_queue a_text a_judge a_deeds a_mendings a_picture a_shelves a_books a_thoughts a_heads a_shelves_sorts a_shelves_sizes a_shelves_held a_shelves_elements a_heads_kinds a_heads_trace hasPicture shelves_sorts shelves_sizes shelves_held heads_size heads_ran heads_number heads_ownKind) (some (.int r_)) (w_T_keep G a_this a_crowd a_queue a_text a_judge a_deeds a_mendings a_picture a_shelves a_books a_thoughts a_heads a_shelves_sorts a_shelves_sizes a_shelves_held a_shelves_elements a_heads_kinds a_heads_trace hasPicture o_shelves_sorts o_shelves_sizes o_shelves_held heads_size heads_ran heads_number heads_ownKind) := by
  refine zM.of [(0, .ref a_this), (1, .int x1), (2, .int x2)] (own := RX11) rfl (by decide +kernel) (Nat.le_of_ble_eq_true rfl) rfl rfl fun X hX F => ?_
  subst hX
  replace hf := (f_T_keep.eq_1 ..).symm.trans hf
  refine z_aload_n F 0 dX11_keep_0 rfl rfl ?_
  refine z_get F 0 11 8 inlX11 rfl rfl (by decide) fl_X11_61 rfl dX11_keep_1 ?_
  refine z_iload_n F 1 dX11_keep_4 rfl rfl ?_
  refine z_callVm (rest := []) F 9 (c_Shelves_isShelf (xL X) G a_shelves a_shelves_sorts a_shelves_sizes a_shelves_held a_shelves_elements x1 _ rfl) hy_X9_isShelf ml_X11_102 hd_X9_isShelf ⟨by omega, by omega⟩ rfl [1] rfl rfl 1 rfl rfl (w_T_keep G a_this a_crowd a_queue a_text a_judge a_deeds a_mendings a_picture a_shelves a_books a_thoughts a_heads a_shelves_sorts a_shelves_sizes a_shelves_held a_shelves_elements a_heads_kinds a_heads_trace hasPicture shelves_sorts shelves_sizes shelves_held heads_size heads_ran heads_number heads_ownKind) [none, some 0, none, none, none, none] rfl (by decide +kernel) rfl rfl (Nat.le_of_ble_eq_true rfl) dX11_keep_5 (fun hz_1 => ?_)
  refine z_if_eq F 27 dX11_keep_8 (by decide) hf (fun hf _ => ?_) (fun hf _ => ?_)
  · refine z_iconst F (-1) dX11_keep_27 rfl ?_
    have eq1 := Option.some.inj hf
    obtain ⟨ee1, eq2⟩ := Prod.mk.inj eq1
    obtain ⟨ee2, eq3⟩ := Prod.mk.inj eq2
    obtain ⟨ee3, ee4⟩ := Prod.mk.inj eq3
    subst ee1
    subst ee2
    subst ee3
    subst ee4
    exact z_iret F rfl rfl rfl rfl dX11_keep_28
  · refine z_iload_n F 2 dX11_keep_11 rfl rfl ?_
    refine z_iconst F (-1) dX11_keep_12 rfl ?_
    refine z_icmp_eq F 29 dX11_keep_13 (by decide) hf (fun hf _ => ?_) (fun hf _ => ?_)
    · refine z_aload_n F 0 dX11_keep_29 rfl rfl ?_
      refine z_get F 0 11 8 inlX11 rfl rfl (by decide) fl_X11_61 rfl dX11_keep_30 ?_
      refine z_iload_n F 1 dX11_keep_33 rfl rfl ?_
      refine z_iload_n F 2 dX11_keep_34 rfl rfl ?_
      obtain ⟨shelves_sorts_2, shelves_sizes_3, shelves_held_4, hg, hf⟩ := zb3_some hf
      refine z_callVm (rest := []) F 9 (c_Shelves_hold (xL X) G a_shelves a_shelves_sorts a_shelves_sizes a_shelves_held a_shelves_elements shelves_sorts shelves_sizes shelves_held x1 x2 shelves_sorts_2 shelves_sizes_3 shelves_held_4 hg) hy_X9_hold ml_X11_322 hd_X9_hold ⟨by omega, by omega⟩ rfl [1, 2, 3, 4] rfl rfl 1 rfl rfl (w_T_keep G a_this a_crowd a_queue a_text a_judge a_deeds a_mendings a_picture a_shelves a_books a_thoughts a_heads a_shelves_sorts a_shelves_sizes a_shelves_held a_shelves_elements a_heads_kinds a_heads_trace hasPicture shelves_sorts_2 shelves_sizes_3 shelves_held_4 heads_size heads_ran heads_number heads_ownKind) [none, some 0, some 1, some 2, some 3, none] rfl (by decide +kernel) rfl rfl (Nat.le_of_ble_eq_true rfl) dX11_keep_35 (fun hz_5 => ?_)
      refine z_iconst F (1) dX11_keep_38 rfl ?_
      have eq1 := Option.some.inj hf
      obtain ⟨ee1, eq2⟩ := Prod.mk.inj eq1
      obtain ⟨ee2, eq3⟩ := Prod.mk.inj eq2
      obtain ⟨ee3, ee4⟩ := Prod.mk.inj eq3
      subst ee1
      subst ee2
      subst ee3
      subst ee4
      exact z_iret F rfl rfl rfl rfl dX11_keep_39
    · refine z_aload_n F 0 dX11_keep_16 rfl rfl ?_
      refine z_get F 0 11 11 inlX11 rfl rfl (by decide) fl_X11_86 rfl dX11_keep_17 ?_
      refine z_iload_n F 2 dX11_keep_20 rfl rfl ?_
      refine z_callVm (rest := []) F 3 (c_Heads_isHead (xL X) G a_heads a_heads_kinds a_heads_trace heads_size heads_ran heads_number heads_ownKind x2 _ rfl) hy_X3_isHead ml_X11_319 hd_X3_isHead ⟨by omega, by omega⟩ rfl [5] rfl rfl 5 rfl rfl (w_T_keep G a_this a_crowd a_queue a_text a_judge a_deeds a_mendings a_picture a_shelves a_books a_thoughts a_heads a_shelves_sorts a_shelves_sizes a_shelves_held a_shelves_elements a_heads_kinds a_heads_trace hasPicture shelves_sorts shelves_sizes shelves_held heads_size heads_ran heads_number heads_ownKind) [none, none, none, none, none, some 0] rfl (by decide +kernel) rfl rfl (Nat.le_of_ble_eq_true rfl) dX11_keep_21 (fun hz_6 => ?_)
      refine z_if_ne F 29 dX11_keep_24 (by decide) hf (fun hf _ => ?_) (fun hf _ => ?_)
      · refine z_aload_n F 0 dX11_keep_29 rfl rfl ?_
        refine z_get F 0 11 8 inlX11 rfl rfl (by decide) fl_X11_61 rfl dX11_keep_30 ?_
        refine z_iload_n F 1 dX11_keep_33 rfl rfl ?_
        refine z_iload_n F 2 dX11_keep_34 rfl rfl ?_
        obtain ⟨shelves_sorts_7, shelves_sizes_8, shelves_held_9, hg, hf⟩ := zb3_some hf
        refine z_callVm (rest := []) F 9 (c_Shelves_hold (xL X) G a_shelves a_shelves_sorts a_shelves_sizes a_shelves_held a_shelves_elements shelves_sorts shelves_sizes shelves_held x1 x2 shelves_sorts_7 shelves_sizes_8 shelves_held_9 hg) hy_X9_hold ml_X11_322 hd_X9_hold ⟨by omega, by omega⟩ rfl [1, 2, 3, 4] rfl rfl 1 rfl rfl (w_T_keep G a_this a_crowd a_queue a_text a_judge a_deeds a_mendings a_picture a_shelves a_books a_thoughts a_heads a_shelves_sorts a_shelves_sizes a_shelves_held a_shelves_elements a_heads_kinds a_heads_trace hasPicture shelves_sorts_7 shelves_sizes_8 shelves_held_9 heads_size heads_ran heads_number heads_ownKind) [none, some 0, some 1, some 2, some 3, none] rfl (by decide +kernel) rfl rfl (Nat.le_of_ble_eq_true rfl) dX11_keep_35 (fun hz_10 => ?_)
        refine z_iconst F (1) dX11_keep_38 rfl ?_
        have eq1 := Option.some.inj hf
        obtain ⟨ee1, eq2⟩ := Prod.mk.inj eq1
        obtain ⟨ee2, eq3⟩ := Prod.mk.inj eq2
        obtain ⟨ee3, ee4⟩ := Prod.mk.inj eq3
        subst ee1
        subst ee2
        subst ee3
        subst ee4
        exact z_iret F rfl rfl rfl rfl dX11_keep_39
      · refine z_iconst F (-1) dX11_keep_27 rfl ?_
        have eq1 := Option.some.inj hf
        obtain ⟨ee1, eq2⟩ := Prod.mk.inj eq1
        obtain ⟨ee2, eq3⟩ := Prod.mk.inj eq2
        obtain ⟨ee3, ee4⟩ := Prod.mk.inj eq3
        subst ee1
        subst ee2
        subst ee3
        subst ee4
        exact z_iret F rfl rfl rfl rfl dX11_keep_28

