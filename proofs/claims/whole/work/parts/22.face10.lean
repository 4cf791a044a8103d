/-! by program (wip/whole/gen.py): pure functions and contracts -/
theorem dX11_row_0 : decode cX11_row 0 = .ok (.aload_n 0, 1) := by decide +kernel
theorem dX11_row_1 : decode cX11_row 1 = .ok (.getfield 61, 3) := by decide +kernel
theorem dX11_row_4 : decode cX11_row 4 = .ok (.iload_n 1, 1) := by decide +kernel
theorem dX11_row_5 : decode cX11_row 5 = .ok (.invokevirtual 102, 3) := by decide +kernel
theorem dX11_row_8 : decode cX11_row 8 = .ok (.ifCond .eq 18, 3) := by decide +kernel
theorem dX11_row_11 : decode cX11_row 11 = .ok (.iload_n 2, 1) := by decide +kernel
theorem dX11_row_12 : decode cX11_row 12 = .ok (.ifCond .lt 14, 3) := by decide +kernel
theorem dX11_row_15 : decode cX11_row 15 = .ok (.iload_n 2, 1) := by decide +kernel
theorem dX11_row_16 : decode cX11_row 16 = .ok (.iconst 4, 1) := by decide +kernel
theorem dX11_row_17 : decode cX11_row 17 = .ok (.if_icmp .gt 9, 3) := by decide +kernel
theorem dX11_row_20 : decode cX11_row 20 = .ok (.iload_n 3, 1) := by decide +kernel
theorem dX11_row_21 : decode cX11_row 21 = .ok (.bipush 60, 2) := by decide +kernel
theorem dX11_row_23 : decode cX11_row 23 = .ok (.if_icmp .le 5, 3) := by decide +kernel
theorem dX11_row_26 : decode cX11_row 26 = .ok (.iconst (-1), 1) := by decide +kernel
theorem dX11_row_27 : decode cX11_row 27 = .ok (.ireturn, 1) := by decide +kernel
theorem dX11_row_28 : decode cX11_row 28 = .ok (.iload_n 3, 1) := by decide +kernel
theorem dX11_row_29 : decode cX11_row 29 = .ok (.ifCond .ge 6, 3) := by decide +kernel
theorem dX11_row_32 : decode cX11_row 32 = .ok (.bipush (-14), 2) := by decide +kernel
theorem dX11_row_34 : decode cX11_row 34 = .ok (.ireturn, 1) := by decide +kernel
theorem dX11_row_35 : decode cX11_row 35 = .ok (.aload_n 0, 1) := by decide +kernel
theorem dX11_row_36 : decode cX11_row 36 = .ok (.getfield 61, 3) := by decide +kernel
theorem dX11_row_39 : decode cX11_row 39 = .ok (.iload_n 1, 1) := by decide +kernel
theorem dX11_row_40 : decode cX11_row 40 = .ok (.iload_n 2, 1) := by decide +kernel
theorem dX11_row_41 : decode cX11_row 41 = .ok (.iload_n 3, 1) := by decide +kernel
theorem dX11_row_42 : decode cX11_row 42 = .ok (.invokevirtual 325, 3) := by decide +kernel
theorem dX11_row_45 : decode cX11_row 45 = .ok (.iconst 1, 1) := by decide +kernel
theorem dX11_row_46 : decode cX11_row 46 = .ok (.ireturn, 1) := by decide +kernel
theorem dX11_refusalOfElement_0 : decode cX11_refusalOfElement 0 = .ok (.aload_n 0, 1) := by decide +kernel
theorem dX11_refusalOfElement_1 : decode cX11_refusalOfElement 1 = .ok (.getfield 61, 3) := by decide +kernel
theorem dX11_refusalOfElement_4 : decode cX11_refusalOfElement 4 = .ok (.iload_n 1, 1) := by decide +kernel
theorem dX11_refusalOfElement_5 : decode cX11_refusalOfElement 5 = .ok (.invokevirtual 102, 3) := by decide +kernel
theorem dX11_refusalOfElement_8 : decode cX11_refusalOfElement 8 = .ok (.ifCond .ne 5, 3) := by decide +kernel
theorem dX11_refusalOfElement_11 : decode cX11_refusalOfElement 11 = .ok (.iconst (-1), 1) := by decide +kernel
theorem dX11_refusalOfElement_12 : decode cX11_refusalOfElement 12 = .ok (.ireturn, 1) := by decide +kernel
theorem dX11_refusalOfElement_13 : decode cX11_refusalOfElement 13 = .ok (.aload_n 0, 1) := by decide +kernel
theorem dX11_refusalOfElement_14 : decode cX11_refusalOfElement 14 = .ok (.getfield 61, 3) := by decide +kernel
theorem dX11_refusalOfElement_17 : decode cX11_refusalOfElement 17 = .ok (.iload_n 1, 1) := by decide +kernel
theorem dX11_refusalOfElement_18 : decode cX11_refusalOfElement 18 = .ok (.invokevirtual 339, 3) := by decide +kernel
theorem dX11_refusalOfElement_21 : decode cX11_refusalOfElement 21 = .ok (.ifCond .eq 6, 3) := by decide +kernel
theorem dX11_refusalOfElement_24 : decode cX11_refusalOfElement 24 = .ok (.bipush (-11), 2) := by decide +kernel
theorem dX11_refusalOfElement_26 : decode cX11_refusalOfElement 26 = .ok (.ireturn, 1) := by decide +kernel
theorem dX11_refusalOfElement_27 : decode cX11_refusalOfElement 27 = .ok (.aload_n 0, 1) := by decide +kernel
theorem dX11_refusalOfElement_28 : decode cX11_refusalOfElement 28 = .ok (.getfield 61, 3) := by decide +kernel
theorem dX11_refusalOfElement_31 : decode cX11_refusalOfElement 31 = .ok (.iload_n 1, 1) := by decide +kernel
theorem dX11_refusalOfElement_32 : decode cX11_refusalOfElement 32 = .ok (.invokevirtual 342, 3) := by decide +kernel
theorem dX11_refusalOfElement_35 : decode cX11_refusalOfElement 35 = .ok (.ifCond .ne 6, 3) := by decide +kernel
theorem dX11_refusalOfElement_38 : decode cX11_refusalOfElement 38 = .ok (.bipush (-12), 2) := by decide +kernel
theorem dX11_refusalOfElement_40 : decode cX11_refusalOfElement 40 = .ok (.ireturn, 1) := by decide +kernel
theorem dX11_refusalOfElement_41 : decode cX11_refusalOfElement 41 = .ok (.iload_n 2, 1) := by decide +kernel
theorem dX11_refusalOfElement_42 : decode cX11_refusalOfElement 42 = .ok (.ifCond .lt 15, 3) := by decide +kernel
theorem dX11_refusalOfElement_45 : decode cX11_refusalOfElement 45 = .ok (.iload_n 2, 1) := by decide +kernel
theorem dX11_refusalOfElement_46 : decode cX11_refusalOfElement 46 = .ok (.aload_n 0, 1) := by decide +kernel
theorem dX11_refusalOfElement_47 : decode cX11_refusalOfElement 47 = .ok (.getfield 61, 3) := by decide +kernel
theorem dX11_refusalOfElement_50 : decode cX11_refusalOfElement 50 = .ok (.iload_n 1, 1) := by decide +kernel
theorem dX11_refusalOfElement_51 : decode cX11_refusalOfElement 51 = .ok (.invokevirtual 109, 3) := by decide +kernel
theorem dX11_refusalOfElement_54 : decode cX11_refusalOfElement 54 = .ok (.if_icmp .lt 8, 3) := by decide +kernel
theorem dX11_refusalOfElement_57 : decode cX11_refusalOfElement 57 = .ok (.bipush (-13), 2) := by decide +kernel
theorem dX11_refusalOfElement_59 : decode cX11_refusalOfElement 59 = .ok (.goto 4, 3) := by decide +kernel
theorem dX11_refusalOfElement_62 : decode cX11_refusalOfElement 62 = .ok (.iconst 0, 1) := by decide +kernel
theorem dX11_refusalOfElement_63 : decode cX11_refusalOfElement 63 = .ok (.ireturn, 1) := by decide +kernel
theorem dX11_put_0 : decode cX11_put 0 = .ok (.aload_n 0, 1) := by decide +kernel
theorem dX11_put_1 : decode cX11_put 1 = .ok (.iload_n 1, 1) := by decide +kernel
theorem dX11_put_2 : decode cX11_put 2 = .ok (.iload_n 2, 1) := by decide +kernel
theorem dX11_put_3 : decode cX11_put 3 = .ok (.invokevirtual 328, 3) := by decide +kernel
theorem dX11_put_6 : decode cX11_put 6 = .ok (.istore 5, 2) := by decide +kernel
theorem dX11_put_8 : decode cX11_put 8 = .ok (.iload 5, 2) := by decide +kernel
theorem dX11_put_10 : decode cX11_put 10 = .ok (.ifCond .eq 6, 3) := by decide +kernel
theorem dX11_put_13 : decode cX11_put 13 = .ok (.iload 5, 2) := by decide +kernel
theorem dX11_put_15 : decode cX11_put 15 = .ok (.ireturn, 1) := by decide +kernel
theorem dX11_put_16 : decode cX11_put 16 = .ok (.aload_n 0, 1) := by decide +kernel
theorem dX11_put_17 : decode cX11_put 17 = .ok (.getfield 61, 3) := by decide +kernel
theorem dX11_put_20 : decode cX11_put 20 = .ok (.iload_n 1, 1) := by decide +kernel
theorem dX11_put_21 : decode cX11_put 21 = .ok (.iload_n 2, 1) := by decide +kernel
theorem dX11_put_22 : decode cX11_put 22 = .ok (.lload_n 3, 1) := by decide +kernel
theorem dX11_put_23 : decode cX11_put 23 = .ok (.invokevirtual 331, 3) := by decide +kernel
theorem dX11_put_26 : decode cX11_put 26 = .ok (.iconst 1, 1) := by decide +kernel
theorem dX11_put_27 : decode cX11_put 27 = .ok (.ireturn, 1) := by decide +kernel
theorem dX11_element_0 : decode cX11_element 0 = .ok (.aload_n 0, 1) := by decide +kernel
theorem dX11_element_1 : decode cX11_element 1 = .ok (.iload_n 1, 1) := by decide +kernel
theorem dX11_element_2 : decode cX11_element 2 = .ok (.iload_n 2, 1) := by decide +kernel
theorem dX11_element_3 : decode cX11_element 3 = .ok (.invokevirtual 328, 3) := by decide +kernel
theorem dX11_element_6 : decode cX11_element 6 = .ok (.ifCond .eq 9, 3) := by decide +kernel
theorem dX11_element_9 : decode cX11_element 9 = .ok (.ldc2_w 337, 3) := by decide +kernel
theorem dX11_element_12 : decode cX11_element 12 = .ok (.goto 12, 3) := by decide +kernel
theorem dX11_element_15 : decode cX11_element 15 = .ok (.aload_n 0, 1) := by decide +kernel
theorem dX11_element_16 : decode cX11_element 16 = .ok (.getfield 61, 3) := by decide +kernel
theorem dX11_element_19 : decode cX11_element 19 = .ok (.iload_n 1, 1) := by decide +kernel
theorem dX11_element_20 : decode cX11_element 20 = .ok (.iload_n 2, 1) := by decide +kernel
theorem dX11_element_21 : decode cX11_element 21 = .ok (.invokevirtual 112, 3) := by decide +kernel
theorem dX11_element_24 : decode cX11_element 24 = .ok (.lreturn, 1) := by decide +kernel
theorem dX11_shift_0 : decode cX11_shift 0 = .ok (.aload_n 0, 1) := by decide +kernel
theorem dX11_shift_1 : decode cX11_shift 1 = .ok (.getfield 61, 3) := by decide +kernel
theorem dX11_shift_4 : decode cX11_shift 4 = .ok (.iload_n 1, 1) := by decide +kernel
theorem dX11_shift_5 : decode cX11_shift 5 = .ok (.invokevirtual 102, 3) := by decide +kernel
theorem dX11_shift_8 : decode cX11_shift 8 = .ok (.ifCond .eq 14, 3) := by decide +kernel
theorem dX11_shift_11 : decode cX11_shift 11 = .ok (.aload_n 0, 1) := by decide +kernel
theorem dX11_shift_12 : decode cX11_shift 12 = .ok (.getfield 61, 3) := by decide +kernel
theorem dX11_shift_15 : decode cX11_shift 15 = .ok (.iload_n 3, 1) := by decide +kernel
theorem dX11_shift_16 : decode cX11_shift 16 = .ok (.invokevirtual 102, 3) := by decide +kernel
theorem dX11_shift_19 : decode cX11_shift 19 = .ok (.ifCond .ne 5, 3) := by decide +kernel
theorem dX11_shift_22 : decode cX11_shift 22 = .ok (.iconst (-1), 1) := by decide +kernel
theorem dX11_shift_23 : decode cX11_shift 23 = .ok (.ireturn, 1) := by decide +kernel
theorem dX11_shift_24 : decode cX11_shift 24 = .ok (.aload_n 0, 1) := by decide +kernel
theorem dX11_shift_25 : decode cX11_shift 25 = .ok (.getfield 61, 3) := by decide +kernel
theorem dX11_shift_28 : decode cX11_shift 28 = .ok (.iload_n 1, 1) := by decide +kernel
theorem dX11_shift_29 : decode cX11_shift 29 = .ok (.invokevirtual 339, 3) := by decide +kernel
theorem dX11_shift_32 : decode cX11_shift 32 = .ok (.ifCond .ne 14, 3) := by decide +kernel
theorem dX11_shift_35 : decode cX11_shift 35 = .ok (.aload_n 0, 1) := by decide +kernel
theorem dX11_shift_36 : decode cX11_shift 36 = .ok (.getfield 61, 3) := by decide +kernel
theorem dX11_shift_39 : decode cX11_shift 39 = .ok (.iload_n 3, 1) := by decide +kernel
theorem dX11_shift_40 : decode cX11_shift 40 = .ok (.invokevirtual 339, 3) := by decide +kernel
theorem dX11_shift_43 : decode cX11_shift 43 = .ok (.ifCond .eq 6, 3) := by decide +kernel
theorem dX11_shift_46 : decode cX11_shift 46 = .ok (.bipush (-11), 2) := by decide +kernel
theorem dX11_shift_48 : decode cX11_shift 48 = .ok (.ireturn, 1) := by decide +kernel
theorem dX11_shift_49 : decode cX11_shift 49 = .ok (.aload_n 0, 1) := by decide +kernel
theorem dX11_shift_50 : decode cX11_shift 50 = .ok (.getfield 61, 3) := by decide +kernel
theorem dX11_shift_53 : decode cX11_shift 53 = .ok (.iload_n 1, 1) := by decide +kernel
theorem dX11_shift_54 : decode cX11_shift 54 = .ok (.invokevirtual 342, 3) := by decide +kernel
theorem dX11_shift_57 : decode cX11_shift 57 = .ok (.ifCond .eq 33, 3) := by decide +kernel
theorem dX11_shift_60 : decode cX11_shift 60 = .ok (.aload_n 0, 1) := by decide +kernel
theorem dX11_shift_61 : decode cX11_shift 61 = .ok (.getfield 61, 3) := by decide +kernel
theorem dX11_shift_64 : decode cX11_shift 64 = .ok (.iload_n 3, 1) := by decide +kernel
theorem dX11_shift_65 : decode cX11_shift 65 = .ok (.invokevirtual 342, 3) := by decide +kernel
theorem dX11_shift_68 : decode cX11_shift 68 = .ok (.ifCond .eq 22, 3) := by decide +kernel
theorem dX11_shift_71 : decode cX11_shift 71 = .ok (.aload_n 0, 1) := by decide +kernel
theorem dX11_shift_72 : decode cX11_shift 72 = .ok (.getfield 61, 3) := by decide +kernel
theorem dX11_shift_75 : decode cX11_shift 75 = .ok (.iload_n 1, 1) := by decide +kernel
theorem dX11_shift_76 : decode cX11_shift 76 = .ok (.invokevirtual 345, 3) := by decide +kernel
theorem dX11_shift_79 : decode cX11_shift 79 = .ok (.aload_n 0, 1) := by decide +kernel
theorem dX11_shift_80 : decode cX11_shift 80 = .ok (.getfield 61, 3) := by decide +kernel
theorem dX11_shift_83 : decode cX11_shift 83 = .ok (.iload_n 3, 1) := by decide +kernel
theorem dX11_shift_84 : decode cX11_shift 84 = .ok (.invokevirtual 345, 3) := by decide +kernel
theorem dX11_shift_87 : decode cX11_shift 87 = .ok (.if_icmp .eq 6, 3) := by decide +kernel
theorem dX11_shift_90 : decode cX11_shift 90 = .ok (.bipush (-12), 2) := by decide +kernel
theorem dX11_shift_92 : decode cX11_shift 92 = .ok (.ireturn, 1) := by decide +kernel
theorem dX11_shift_93 : decode cX11_shift 93 = .ok (.aload_n 0, 1) := by decide +kernel
theorem dX11_shift_94 : decode cX11_shift 94 = .ok (.getfield 61, 3) := by decide +kernel
theorem dX11_shift_97 : decode cX11_shift 97 = .ok (.iload_n 1, 1) := by decide +kernel
theorem dX11_shift_98 : decode cX11_shift 98 = .ok (.iload_n 2, 1) := by decide +kernel
theorem dX11_shift_99 : decode cX11_shift 99 = .ok (.iload 5, 2) := by decide +kernel
theorem dX11_shift_101 : decode cX11_shift 101 = .ok (.invokevirtual 348, 3) := by decide +kernel
theorem dX11_shift_104 : decode cX11_shift 104 = .ok (.ifCond .eq 18, 3) := by decide +kernel
theorem dX11_shift_107 : decode cX11_shift 107 = .ok (.aload_n 0, 1) := by decide +kernel
theorem dX11_shift_108 : decode cX11_shift 108 = .ok (.getfield 61, 3) := by decide +kernel
theorem dX11_shift_111 : decode cX11_shift 111 = .ok (.iload_n 3, 1) := by decide +kernel
theorem dX11_shift_112 : decode cX11_shift 112 = .ok (.iload 4, 2) := by decide +kernel
theorem dX11_shift_114 : decode cX11_shift 114 = .ok (.iload 5, 2) := by decide +kernel
theorem dX11_shift_116 : decode cX11_shift 116 = .ok (.invokevirtual 348, 3) := by decide +kernel
theorem dX11_shift_119 : decode cX11_shift 119 = .ok (.ifCond .ne 6, 3) := by decide +kernel
theorem dX11_shift_122 : decode cX11_shift 122 = .ok (.bipush (-13), 2) := by decide +kernel
theorem dX11_shift_124 : decode cX11_shift 124 = .ok (.ireturn, 1) := by decide +kernel
theorem dX11_shift_125 : decode cX11_shift 125 = .ok (.aload_n 0, 1) := by decide +kernel
theorem dX11_shift_126 : decode cX11_shift 126 = .ok (.getfield 61, 3) := by decide +kernel
theorem dX11_shift_129 : decode cX11_shift 129 = .ok (.iload_n 1, 1) := by decide +kernel
theorem dX11_shift_130 : decode cX11_shift 130 = .ok (.iload_n 2, 1) := by decide +kernel
theorem dX11_shift_131 : decode cX11_shift 131 = .ok (.iload_n 3, 1) := by decide +kernel
theorem dX11_shift_132 : decode cX11_shift 132 = .ok (.iload 4, 2) := by decide +kernel
theorem dX11_shift_134 : decode cX11_shift 134 = .ok (.iload 5, 2) := by decide +kernel
theorem dX11_shift_136 : decode cX11_shift 136 = .ok (.invokevirtual 352, 3) := by decide +kernel
theorem dX11_shift_139 : decode cX11_shift 139 = .ok (.iload 5, 2) := by decide +kernel
theorem dX11_shift_141 : decode cX11_shift 141 = .ok (.ireturn, 1) := by decide +kernel
theorem hy_X11_refusalOfElement : Cond.code yX11_refusalOfElement cX11_refusalOfElement 3 (some .int) ∈ wsL_law ∧ Cond.initialized yX11_refusalOfElement.cls ∈ wsL_law ∧ Cond.instanceMethod yX11_refusalOfElement ∈ wsL_law ∧ Cond.selects yX11_refusalOfElement.cls yX11_refusalOfElement yX11_refusalOfElement ∈ wsL_law := ⟨(uw55 _ (List.mem_of_getElem? (i := 15) rfl)), (uw1 _ (List.mem_of_getElem? (i := 2) rfl)), (uw55 _ (List.mem_of_getElem? (i := 13) rfl)), (uw55 _ (List.mem_of_getElem? (i := 14) rfl))⟩
theorem hd_X11_refusalOfElement : yX11_refusalOfElement.cls ≠ "java/lang/invoke/MethodHandle" ∧ yX11_refusalOfElement.cls ≠ "java/lang/invoke/VarHandle" ∧ (parseMethodDescriptor yX11_refusalOfElement.desc).map (fun d => d.parameters.length) = some 2 := ⟨by decide +kernel, by decide +kernel, by decide +kernel⟩
theorem hy_X9_change : Cond.code yX9_change cX9_change 5 none ∈ wsL_law ∧ Cond.initialized yX9_change.cls ∈ wsL_law ∧ Cond.instanceMethod yX9_change ∈ wsL_law ∧ Cond.selects yX9_change.cls yX9_change yX9_change ∈ wsL_law := ⟨(uw56 _ (List.mem_of_getElem? (i := 0) rfl)), (uw2 _ (List.mem_of_getElem? (i := 16) rfl)), (uw55 _ (List.mem_of_getElem? (i := 22) rfl)), (uw55 _ (List.mem_of_getElem? (i := 23) rfl))⟩
theorem hd_X9_change : yX9_change.cls ≠ "java/lang/invoke/MethodHandle" ∧ yX9_change.cls ≠ "java/lang/invoke/VarHandle" ∧ (parseMethodDescriptor yX9_change.desc).map (fun d => d.parameters.length) = some 3 := ⟨by decide +kernel, by decide +kernel, by decide +kernel⟩
theorem hy_X9_copy : Cond.code yX9_copy cX9_copy 6 none ∈ wsL_law ∧ Cond.initialized yX9_copy.cls ∈ wsL_law ∧ Cond.instanceMethod yX9_copy ∈ wsL_law ∧ Cond.selects yX9_copy.cls yX9_copy yX9_copy ∈ wsL_law := ⟨(uw57 _ (List.mem_of_getElem? (i := 13) rfl)), (uw2 _ (List.mem_of_getElem? (i := 16) rfl)), (uw57 _ (List.mem_of_getElem? (i := 11) rfl)), (uw57 _ (List.mem_of_getElem? (i := 12) rfl))⟩
theorem hd_X9_copy : yX9_copy.cls ≠ "java/lang/invoke/MethodHandle" ∧ yX9_copy.cls ≠ "java/lang/invoke/VarHandle" ∧ (parseMethodDescriptor yX9_copy.desc).map (fun d => d.parameters.length) = some 5 := ⟨by decide +kernel, by decide +kernel, by decide +kernel⟩
theorem hy_X9_holdRow : Cond.code yX9_holdRow cX9_holdRow 4 none ∈ wsL_law ∧ Cond.initialized yX9_holdRow.cls ∈ wsL_law ∧ Cond.instanceMethod yX9_holdRow ∈ wsL_law ∧ Cond.selects yX9_holdRow.cls yX9_holdRow yX9_holdRow ∈ wsL_law := ⟨(uw55 _ (List.mem_of_getElem? (i := 0) rfl)), (uw2 _ (List.mem_of_getElem? (i := 16) rfl)), (uw54 _ (List.mem_of_getElem? (i := 22) rfl)), (uw54 _ (List.mem_of_getElem? (i := 23) rfl))⟩
theorem hd_X9_holdRow : yX9_holdRow.cls ≠ "java/lang/invoke/MethodHandle" ∧ yX9_holdRow.cls ≠ "java/lang/invoke/VarHandle" ∧ (parseMethodDescriptor yX9_holdRow.desc).map (fun d => d.parameters.length) = some 3 := ⟨by decide +kernel, by decide +kernel, by decide +kernel⟩
theorem hy_X9_isRow : Cond.code yX9_isRow cX9_isRow 2 (some .boolean) ∈ wsL_law ∧ Cond.initialized yX9_isRow.cls ∈ wsL_law ∧ Cond.instanceMethod yX9_isRow ∈ wsL_law ∧ Cond.selects yX9_isRow.cls yX9_isRow yX9_isRow ∈ wsL_law := ⟨(uw55 _ (List.mem_of_getElem? (i := 20) rfl)), (uw2 _ (List.mem_of_getElem? (i := 16) rfl)), (uw55 _ (List.mem_of_getElem? (i := 18) rfl)), (uw55 _ (List.mem_of_getElem? (i := 19) rfl))⟩
theorem hd_X9_isRow : yX9_isRow.cls ≠ "java/lang/invoke/MethodHandle" ∧ yX9_isRow.cls ≠ "java/lang/invoke/VarHandle" ∧ (parseMethodDescriptor yX9_isRow.desc).map (fun d => d.parameters.length) = some 1 := ⟨by decide +kernel, by decide +kernel, by decide +kernel⟩
theorem ml_X11_325 : Cond.methodLink RX11 325 yX9_holdRow ∈ wsL_law := (uw54 _ (List.mem_of_getElem? (i := 21) rfl))
theorem ml_X11_328 : Cond.methodLink RX11 328 yX11_refusalOfElement ∈ wsL_law := (uw55 _ (List.mem_of_getElem? (i := 12) rfl))
theorem ml_X11_331 : Cond.methodLink RX11 331 yX9_change ∈ wsL_law := (uw55 _ (List.mem_of_getElem? (i := 21) rfl))
theorem ml_X11_339 : Cond.methodLink RX11 339 yX9_isBare ∈ wsL_law := (uw55 _ (List.mem_of_getElem? (i := 16) rfl))
theorem ml_X11_342 : Cond.methodLink RX11 342 yX9_isRow ∈ wsL_law := (uw55 _ (List.mem_of_getElem? (i := 17) rfl))
theorem ml_X11_345 : Cond.methodLink RX11 345 yX9_sortOf ∈ wsL_law := (uw57 _ (List.mem_of_getElem? (i := 5) rfl))
theorem ml_X11_348 : Cond.methodLink RX11 348 yX9_hasStretch ∈ wsL_law := (uw57 _ (List.mem_of_getElem? (i := 6) rfl))
theorem ml_X11_352 : Cond.methodLink RX11 352 yX9_copy ∈ wsL_law := (uw57 _ (List.mem_of_getElem? (i := 10) rfl))
abbrev w_T_row (G : zG) (a_this : Nat) (a_crowd : Nat) (a_queue : Nat) (a_text : Nat) (a_judge : Nat) (a_deeds : Nat) (a_mendings : Nat) (a_picture : Nat) (a_shelves : Nat) (a_books : Nat) (a_thoughts : Nat) (a_heads : Nat) (a_shelves_sorts : Nat) (a_shelves_sizes : Nat) (a_shelves_held : Nat) (a_shelves_elements : Nat) (a_shelves_elements_e : Nat → Nat) (hasPicture : Int32) (shelves_sorts : Nat → Int32) (shelves_sizes : Nat → Int32) (shelves_elements_e : Nat → (Nat → Int64)) : va_W := [(a_this, cO 11 [.ref a_crowd, .ref a_queue, .ref a_text, .ref a_judge, .ref a_deeds, .ref a_mendings, .ref a_picture, .int hasPicture, .ref a_shelves, .ref a_books, .ref a_thoughts, .ref a_heads]), (a_shelves, cO 9 [.ref a_shelves_sorts, .ref a_shelves_sizes, .ref a_shelves_held, .ref a_shelves_elements]), (a_shelves_sorts, cI G 6 shelves_sorts), (a_shelves_sizes, cI G 6 shelves_sizes), (a_shelves_elements, cJJ G 6 (fun j => some (a_shelves_elements_e j))), ((a_shelves_elements_e 0), cJ G 60 (shelves_elements_e 0)), ((a_shelves_elements_e 1), cJ G 60 (shelves_elements_e 1)), ((a_shelves_elements_e 2), cJ G 60 (shelves_elements_e 2)), ((a_shelves_elements_e 3), cJ G 60 (shelves_elements_e 3)), ((a_shelves_elements_e 4), cJ G 60 (shelves_elements_e 4)), ((a_shelves_elements_e 5), cJ G 60 (shelves_elements_e 5))]
def f_T_row (shelves_sorts : Nat → Int32) (shelves_sizes : Nat → Int32) (shelves_elements_e : Nat → (Nat → Int64)) (x1 : Int32) (x2 : Int32) (x3 : Int32) : Option (Int32 × (Nat → Int32) × (Nat → Int32) × (Nat → (Nat → Int64))) := (if (f_Shelves_isShelf x1) = 0 then (some ((-1), shelves_sorts, shelves_sizes, shelves_elements_e)) else (if x2 < 0 then (some ((-1), shelves_sorts, shelves_sizes, shelves_elements_e)) else (if (4 : Int32) < x2 then (some ((-1), shelves_sorts, shelves_sizes, shelves_elements_e)) else (if x3 ≤ 60 then (if (0 : Int32) ≤ x3 then (zb3 (f_Shelves_holdRow shelves_sorts shelves_sizes shelves_elements_e x1 x2 x3) fun shelves_sorts_2 shelves_sizes_3 shelves_elements_e_4 => (some (1, shelves_sorts_2, shelves_sizes_3, shelves_elements_e_4))) else (some ((-14), shelves_sorts, shelves_sizes, shelves_elements_e))) else (some ((-1), shelves_sorts, shelves_sizes, shelves_elements_e))))))
set_option maxRecDepth 100000 in
set_option maxHeartbeats 4000000 in
theorem c_T_row (l : Launch) (G : zG) (a_this : Nat) (a_crowd : Nat) (a_queue : Nat) (a_text : Nat) (a_judge : Nat) (a_deeds : Nat) (a_mendings : Nat) (a_picture : Nat) (a_shelves : Nat) (a_books : Nat) (a_thoughts : Nat) (a_heads : Nat) (a_shelves_sorts : Nat) (a_shelves_sizes : Nat) (a_shelves_held : Nat) (a_shelves_elements : Nat) (a_shelves_elements_e : Nat → Nat) (hasPicture : Int32) (shelves_sorts : Nat → Int32) (shelves_sizes : Nat → Int32) (shelves_elements_e : Nat → (Nat → Int64)) (x1 : Int32) (x2 : Int32) (x3 : Int32) (r_ : Int32) (o_shelves_sorts : Nat → Int32) (o_shelves_sizes : Nat → Int32) (o_shelves_elements_e : Nat → (Nat → Int64)) (hf : f_T_row shelves_sorts shelves_sizes shelves_elements_e x1 x2 x3 = some (r_, o_shelves_sorts, o_shelves_sizes, o_shelves_elements_e)) : zM l yX11_row cX11_row 4 (some .int) 2 47 G [.ref a_this, .int x1, .int x2, .int x3] (w_T_row G a_this a_crowd a_queue a_text a_judge a_deeds a_mendings a_picture a_shelves a_books a_thoughts a_heads a_shelves_sorts a_shelves_sizes a_shelves_held a_shelves_elements a_shelves_elements_e hasPicture shelves_sorts shelves_sizes shelves_elements_e) (some (.int r_)) (w_T_row G a_this a_crowd a_queue a_text a_judge a_deeds a_mendings a_picture a_shelves a_books a_thoughts a_heads a_shelves_sorts a_shelves_sizes a_shelves_held a_shelves_elements a_shelves_elements_e hasPicture o_shelves_sorts o_shelves_sizes o_shelves_elements_e) := by
  refine zM.of [(0, .ref a_this), (1, .int x1), (2, .int x2), (3, .int x3)] (own := RX11) rfl (by decide +kernel) (Nat.le_of_ble_eq_true rfl) rfl rfl fun X hX F => ?_
  subst hX
  replace hf := (f_T_row.eq_1 ..).symm.trans hf
  refine z_aload_n F 0 dX11_row_0 rfl rfl ?_
  refine z_get F 0 11 8 inlX11 rfl rfl (by decide) fl_X11_61 rfl dX11_row_1 ?_
  refine z_iload_n F 1 dX11_row_4 rfl rfl ?_
  refine z_callVm (rest := []) F 9 (c_Shelves_isShelf (xL X) G a_shelves a_shelves_sorts a_shelves_sizes a_shelves_held a_shelves_elements x1 _ rfl) hy_X9_isShelf ml_X11_102 hd_X9_isShelf ⟨by omega, by omega⟩ rfl [1] rfl rfl 1 rfl rfl (w_T_row G a_this a_crowd a_queue a_text a_judge a_deeds a_mendings a_picture a_shelves a_books a_thoughts a_heads a_shelves_sorts a_shelves_sizes a_shelves_held a_shelves_elements a_shelves_elements_e hasPicture shelves_sorts shelves_sizes shelves_elements_e) [none, some 0, none, none, none, none, none, none, none, none, none] rfl (by decide +kernel) rfl rfl (Nat.le_of_ble_eq_true rfl) dX11_row_5 (fun hz_1 => ?_)
  refine z_if_eq F 26 dX11_row_8 (by decide) hf (fun hf _ => ?_) (fun hf _ => ?_)
  · refine z_iconst F (-1) dX11_row_26 rfl ?_
    have eq1 := Option.some.inj hf
    obtain ⟨ee1, eq2⟩ := Prod.mk.inj eq1
    obtain ⟨ee2, eq3⟩ := Prod.mk.inj eq2
    obtain ⟨ee3, ee4⟩ := Prod.mk.inj eq3
    subst ee1
    subst ee2
    subst ee3
    subst ee4
    exact z_iret F rfl rfl rfl rfl dX11_row_27
  · refine z_iload_n F 2 dX11_row_11 rfl rfl ?_
    refine z_if_lt F 26 dX11_row_12 (by decide) hf (fun hf _ => ?_) (fun hf _ => ?_)
    · refine z_iconst F (-1) dX11_row_26 rfl ?_
      have eq1 := Option.some.inj hf
      obtain ⟨ee1, eq2⟩ := Prod.mk.inj eq1
      obtain ⟨ee2, eq3⟩ := Prod.mk.inj eq2
      obtain ⟨ee3, ee4⟩ := Prod.mk.inj eq3
      subst ee1
      subst ee2
      subst ee3
      subst ee4
      exact z_iret F rfl rfl rfl rfl dX11_row_27
    · refine z_iload_n F 2 dX11_row_15 rfl rfl ?_
      refine z_iconst F (4) dX11_row_16 rfl ?_
      refine z_icmp_gt F 26 dX11_row_17 (by decide) hf (fun hf _ => ?_) (fun hf _ => ?_)
      · refine z_iconst F (-1) dX11_row_26 rfl ?_
        have eq1 := Option.some.inj hf
        obtain ⟨ee1, eq2⟩ := Prod.mk.inj eq1
        obtain ⟨ee2, eq3⟩ := Prod.mk.inj eq2
        obtain ⟨ee3, ee4⟩ := Prod.mk.inj eq3
        subst ee1
        subst ee2
        subst ee3
        subst ee4
        exact z_iret F rfl rfl rfl rfl dX11_row_27
      · refine z_iload_n F 3 dX11_row_20 rfl rfl ?_
        refine z_bipush F (60) dX11_row_21 rfl ?_
        refine z_icmp_le F 28 dX11_row_23 (by decide) hf (fun hf _ => ?_) (fun hf _ => ?_)
        · refine z_iload_n F 3 dX11_row_28 rfl rfl ?_
          refine z_if_ge F 35 dX11_row_29 (by decide) hf (fun hf _ => ?_) (fun hf _ => ?_)
          · refine z_aload_n F 0 dX11_row_35 rfl rfl ?_
            refine z_get F 0 11 8 inlX11 rfl rfl (by decide) fl_X11_61 rfl dX11_row_36 ?_
            refine z_iload_n F 1 dX11_row_39 rfl rfl ?_
            refine z_iload_n F 2 dX11_row_40 rfl rfl ?_
            refine z_iload_n F 3 dX11_row_41 rfl rfl ?_
            obtain ⟨shelves_sorts_2, shelves_sizes_3, shelves_elements_e_4, hg, hf⟩ := zb3_some hf
            refine z_callVm (rest := []) F 9 (c_Shelves_holdRow (xL X) G a_shelves a_shelves_sorts a_shelves_sizes a_shelves_held a_shelves_elements a_shelves_elements_e shelves_sorts shelves_sizes shelves_elements_e x1 x2 x3 shelves_sorts_2 shelves_sizes_3 shelves_elements_e_4 hg) hy_X9_holdRow ml_X11_325 hd_X9_holdRow ⟨by omega, by omega⟩ rfl [1, 2, 3, 4, 5, 6, 7, 8, 9, 10] rfl rfl 1 rfl rfl (w_T_row G a_this a_crowd a_queue a_text a_judge a_deeds a_mendings a_picture a_shelves a_books a_thoughts a_heads a_shelves_sorts a_shelves_sizes a_shelves_held a_shelves_elements a_shelves_elements_e hasPicture shelves_sorts_2 shelves_sizes_3 shelves_elements_e_4) [none, some 0, some 1, some 2, some 3, some 4, some 5, some 6, some 7, some 8, some 9] rfl (by decide +kernel) rfl rfl (Nat.le_of_ble_eq_true rfl) dX11_row_42 (fun hz_5 => ?_)
            refine z_iconst F (1) dX11_row_45 rfl ?_
            have eq1 := Option.some.inj hf
            obtain ⟨ee1, eq2⟩ := Prod.mk.inj eq1
            obtain ⟨ee2, eq3⟩ := Prod.mk.inj eq2
            obtain ⟨ee3, ee4⟩ := Prod.mk.inj eq3
            subst ee1
            subst ee2
            subst ee3
            subst ee4
            exact z_iret F rfl rfl rfl rfl dX11_row_46
          · refine z_bipush F (-14) dX11_row_32 rfl ?_
            have eq1 := Option.some.inj hf
            obtain ⟨ee1, eq2⟩ := Prod.mk.inj eq1
            obtain ⟨ee2, eq3⟩ := Prod.mk.inj eq2
            obtain ⟨ee3, ee4⟩ := Prod.mk.inj eq3
            subst ee1
            subst ee2
            subst ee3
            subst ee4
            exact z_iret F rfl rfl rfl rfl dX11_row_34
        · refine z_iconst F (-1) dX11_row_26 rfl ?_
          have eq1 := Option.some.inj hf
          obtain ⟨ee1, eq2⟩ := Prod.mk.inj eq1
          obtain ⟨ee2, eq3⟩ := Prod.mk.inj eq2
          obtain ⟨ee3, ee4⟩ := Prod.mk.inj eq3
          subst ee1
          subst ee2
          subst ee3
          subst ee4
          exact z_iret F rfl rfl rfl rfl dX11_row_27

abbrev w_T_refusalOfElement (G : zG) (a_this : Nat) (a_crowd : Nat) (a_queue : Nat) (a_text : Nat) (a_judge : Nat) (a_deeds : Nat) (a_mendings : Nat) (a_picture : Nat) (a_shelves : Nat) (a_books : Nat) (a_thoughts : Nat) (a_heads : Nat) (a_shelves_sorts : Nat) (a_shelves_sizes : Nat) (a_shelves_held : Nat) (a_shelves_elements : Nat) (hasPicture : Int32) (shelves_sorts : Nat → Int32) (shelves_sizes : Nat → Int32) : va_W := [(a_this, cO 11 [.ref a_crowd, .ref a_queue, .ref a_text, .ref a_judge, .ref a_deeds, .ref a_mendings, .ref a_picture, .int hasPicture, .ref a_shelves, .ref a_books, .ref a_thoughts, .ref a_heads]), (a_shelves, cO 9 [.ref a_shelves_sorts, .ref a_shelves_sizes, .ref a_shelves_held, .ref a_shelves_elements]), (a_shelves_sorts, cI G 6 shelves_sorts), (a_shelves_sizes, cI G 6 shelves_sizes)]
def f_T_refusalOfElement (shelves_sorts : Nat → Int32) (shelves_sizes : Nat → Int32) (x1 : Int32) (x2 : Int32) : Option Int32 := (if (f_Shelves_isShelf x1) = 0 then (some (-1)) else (zb1 (f_Shelves_isBare shelves_sorts x1) fun r_2 => (if r_2 = 0 then (zb1 (f_Shelves_isRow shelves_sorts x1) fun r_4 => (if r_4 = 0 then (some (-12)) else (if x2 < 0 then (some (-13)) else (zb1 (f_Shelves_sizeOf shelves_sizes x1) fun r_6 => (if x2 < r_6 then (some 0) else (some (-13))))))) else (some (-11)))))
set_option maxRecDepth 100000 in
set_option maxHeartbeats 4000000 in
theorem c_T_refusalOfElement (l : Launch) (G : zG) (a_this : Nat) (a_crowd : Nat) (a_queue : Nat) (a_text : Nat) (a_judge : Nat) (a_deeds : Nat) (a_mendings : Nat) (a_picture : Nat) (a_shelves : Nat) (a_books : Nat) (a_thoughts : Nat) (a_heads : Nat) (a_shelves_sorts : Nat) (a_shelves_sizes : Nat) (a_shelves_held : Nat) (a_shelves_elements : Nat) (hasPicture : Int32) (shelves_sorts : Nat → Int32) (shelves_sizes : Nat → Int32) (x1 : Int32) (x2 : Int32) (r_ : Int32) (hf : f_T_refusalOfElement shelves_sorts shelves_sizes x1 x2 = some r_) : zM l yX11_refusalOfElement cX11_refusalOfElement 3 (some .int) 2 42 G [.ref a_this, .int x1, .int x2] (w_T_refusalOfElement G a_this a_crowd a_queue a_text a_judge a_deeds a_mendings a_picture a_shelves a_books a_thoughts a_heads a_shelves_sorts a_shelves_sizes a_shelves_held a_shelves_elements hasPicture shelves_sorts shelves_sizes) (some (.int r_)) (w_T_refusalOfElement G a_this a_crowd a_queue a_text a_judge a_deeds a_mendings a_picture a_shelves a_books a_thoughts a_heads a_shelves_sorts a_shelves_sizes a_shelves_held a_shelves_elements hasPicture shelves_sorts shelves_sizes) := by
  refine zM.of [(0, .ref a_this), (1, .int x1), (2, .int x2)] (own := RX11) rfl (by decide +kernel) (Nat.le_of_ble_eq_true rfl) rfl rfl fun X hX F => ?_
  subst hX
  replace hf := (f_T_refusalOfElement.eq_1 ..).symm.trans hf
  refine z_aload_n F 0 dX11_refusalOfElement_0 rfl rfl ?_
  refine z_get F 0 11 8 inlX11 rfl rfl (by decide) fl_X11_61 rfl dX11_refusalOfElement_1 ?_
  refine z_iload_n F 1 dX11_refusalOfElement_4 rfl rfl ?_
  refine z_callVm (rest := []) F 9 (c_Shelves_isShelf (xL X) G a_shelves a_shelves_sorts a_shelves_sizes a_shelves_held a_shelves_elements x1 _ rfl) hy_X9_isShelf ml_X11_102 hd_X9_isShelf ⟨by omega, by omega⟩ rfl [1] rfl rfl 1 rfl rfl (w_T_refusalOfElement G a_this a_crowd a_queue a_text a_judge a_deeds a_mendings a_picture a_shelves a_books a_thoughts a_heads a_shelves_sorts a_shelves_sizes a_shelves_held a_shelves_elements hasPicture shelves_sorts shelves_sizes) [none, some 0, none, none] rfl (by decide +kernel) rfl rfl (Nat.le_of_ble_eq_true rfl) dX11_refusalOfElement_5 (fun hz_1 => ?_)
  refine z_if_ne F 13 dX11_refusalOfElement_8 (by decide) hf (fun hf _ => ?_) (fun hf _ => ?_)
  · refine z_aload_n F 0 dX11_refusalOfElement_13 rfl rfl ?_
    refine z_get F 0 11 8 inlX11 rfl rfl (by decide) fl_X11_61 rfl dX11_refusalOfElement_14 ?_
    refine z_iload_n F 1 dX11_refusalOfElement_17 rfl rfl ?_
    obtain ⟨r_2, hg, hf⟩ := zb1_some hf
    refine z_callVm (rest := []) F 9 (c_Shelves_isBare (xL X) G a_shelves a_shelves_sorts a_shelves_sizes a_shelves_held a_shelves_elements shelves_sorts x1 r_2 hg) hy_X9_isBare ml_X11_339 hd_X9_isBare ⟨by omega, by omega⟩ rfl [1, 2] rfl rfl 1 rfl rfl (w_T_refusalOfElement G a_this a_crowd a_queue a_text a_judge a_deeds a_mendings a_picture a_shelves a_books a_thoughts a_heads a_shelves_sorts a_shelves_sizes a_shelves_held a_shelves_elements hasPicture shelves_sorts shelves_sizes) [none, some 0, some 1, none] rfl (by decide +kernel) rfl rfl (Nat.le_of_ble_eq_true rfl) dX11_refusalOfElement_18 (fun hz_3 => ?_)
    refine z_if_eq F 27 dX11_refusalOfElement_21 (by decide) hf (fun hf _ => ?_) (fun hf _ => ?_)
    · refine z_aload_n F 0 dX11_refusalOfElement_27 rfl rfl ?_
      refine z_get F 0 11 8 inlX11 rfl rfl (by decide) fl_X11_61 rfl dX11_refusalOfElement_28 ?_
      refine z_iload_n F 1 dX11_refusalOfElement_31 rfl rfl ?_
      obtain ⟨r_4, hg, hf⟩ := zb1_some hf
      refine z_callVm (rest := []) F 9 (c_Shelves_isRow (xL X) G a_shelves a_shelves_sorts a_shelves_sizes a_shelves_held a_shelves_elements shelves_sorts x1 r_4 hg) hy_X9_isRow ml_X11_342 hd_X9_isRow ⟨by omega, by omega⟩ rfl [1, 2] rfl rfl 1 rfl rfl (w_T_refusalOfElement G a_this a_crowd a_queue a_text a_judge a_deeds a_mendings a_picture a_shelves a_books a_thoughts a_heads a_shelves_sorts a_shelves_sizes a_shelves_held a_shelves_elements hasPicture shelves_sorts shelves_sizes) [none, some 0, some 1, none] rfl (by decide +kernel) rfl rfl (Nat.le_of_ble_eq_true rfl) dX11_refusalOfElement_32 (fun hz_5 => ?_)
      refine z_if_ne F 41 dX11_refusalOfElement_35 (by decide) hf (fun hf _ => ?_) (fun hf _ => ?_)
      · refine z_iload_n F 2 dX11_refusalOfElement_41 rfl rfl ?_
        refine z_if_lt F 57 dX11_refusalOfElement_42 (by decide) hf (fun hf _ => ?_) (fun hf _ => ?_)
        · refine z_bipush F (-13) dX11_refusalOfElement_57 rfl ?_
          refine z_goto F 63 dX11_refusalOfElement_59 (by decide) ?_
          have ee1 := Option.some.inj hf
          subst ee1
          exact z_iret F rfl rfl rfl rfl dX11_refusalOfElement_63
        · refine z_iload_n F 2 dX11_refusalOfElement_45 rfl rfl ?_
          refine z_aload_n F 0 dX11_refusalOfElement_46 rfl rfl ?_
          refine z_get F 0 11 8 inlX11 rfl rfl (by decide) fl_X11_61 rfl dX11_refusalOfElement_47 ?_
          refine z_iload_n F 1 dX11_refusalOfElement_50 rfl rfl ?_
          obtain ⟨r_6, hg, hf⟩ := zb1_some hf
          refine z_callVm (rest := [.int x2]) F 9 (c_Shelves_sizeOf (xL X) G a_shelves a_shelves_sorts a_shelves_sizes a_shelves_held a_shelves_elements shelves_sizes x1 r_6 hg) hy_X9_sizeOf ml_X11_109 hd_X9_sizeOf ⟨by omega, by omega⟩ rfl [1, 3] rfl rfl 1 rfl rfl (w_T_refusalOfElement G a_this a_crowd a_queue a_text a_judge a_deeds a_mendings a_picture a_shelves a_books a_thoughts a_heads a_shelves_sorts a_shelves_sizes a_shelves_held a_shelves_elements hasPicture shelves_sorts shelves_sizes) [none, some 0, none, some 1] rfl (by decide +kernel) rfl rfl (Nat.le_of_ble_eq_true rfl) dX11_refusalOfElement_51 (fun hz_7 => ?_)
          refine z_icmp_lt F 62 dX11_refusalOfElement_54 (by decide) hf (fun hf _ => ?_) (fun hf _ => ?_)
          · refine z_iconst F (0) dX11_refusalOfElement_62 rfl ?_
            have ee1 := Option.some.inj hf
            subst ee1
            exact z_iret F rfl rfl rfl rfl dX11_refusalOfElement_63
          · refine z_bipush F (-13) dX11_refusalOfElement_57 rfl ?_
            refine z_goto F 63 dX11_refusalOfElement_59 (by decide) ?_
            have ee1 := Option.some.inj hf
            subst ee1
            exact z_iret F rfl rfl rfl rfl dX11_refusalOfElement_63
      · refine z_bipush F (-12) dX11_refusalOfElement_38 rfl ?_
        have ee1 := Option.some.inj hf
        subst ee1
        exact z_iret F rfl rfl rfl rfl dX11_refusalOfElement_40
    · refine z_bipush F (-11) dX11_refusalOfElement_24 rfl ?_
      have ee1 := Option.some.inj hf
      subst ee1
      exact z_iret F rfl rfl rfl rfl dX11_refusalOfElement_26
  · refine z_iconst F (-1) dX11_refusalOfElement_11 rfl ?_
    have ee1 := Option.some.inj hf
    subst ee1
    exact z_iret F rfl rfl rfl rfl dX11_refusalOfElement_12

abbrev w_T_put (G : zG) (a_this : Nat) (a_crowd : Nat) (a_queue : Nat) (a_text : Nat) (a_judge : Nat) (a_deeds : Nat) (a_mendings : Nat) (a_picture : Nat) (a_shelves : Nat) (a_books : Nat) (a_thoughts : Nat) (a_heads : Nat) (a_shelves_sorts : Nat) (a_shelves_sizes : Nat) (a_shelves_held : Nat) (a_shelves_elements : Nat) (a_shelves_elements_e : Nat → Nat) (hasPicture : Int32) (shelves_sorts : Nat → Int32) (shelves_sizes : Nat → Int32) (shelves_elements_e : Nat → (Nat → Int64)) : va_W := [(a_this, cO 11 [.ref a_crowd, .ref a_queue, .ref a_text, .ref a_judge, .ref a_deeds, .ref a_mendings, .ref a_picture, .int hasPicture, .ref a_shelves, .ref a_books, .ref a_thoughts, .ref a_heads]), (a_shelves, cO 9 [.ref a_shelves_sorts, .ref a_shelves_sizes, .ref a_shelves_held, .ref a_shelves_elements]), (a_shelves_sorts, cI G 6 shelves_sorts), (a_shelves_sizes, cI G 6 shelves_sizes), (a_shelves_elements, cJJ G 6 (fun j => some (a_shelves_elements_e j))), ((a_shelves_elements_e 0), cJ G 60 (shelves_elements_e 0)), ((a_shelves_elements_e 1), cJ G 60 (shelves_elements_e 1)), ((a_shelves_elements_e 2), cJ G 60 (shelves_elements_e 2)), ((a_shelves_elements_e 3), cJ G 60 (shelves_elements_e 3)), ((a_shelves_elements_e 4), cJ G 60 (shelves_elements_e 4)), ((a_shelves_elements_e 5), cJ G 60 (shelves_elements_e 5))]
def f_T_put (shelves_sorts : Nat → Int32) (shelves_sizes : Nat → Int32) (shelves_elements_e : Nat → (Nat → Int64)) (x1 : Int32) (x2 : Int32) (x3 : Int64) : Option (Int32 × (Nat → (Nat → Int64))) := (zb1 (f_T_refusalOfElement shelves_sorts shelves_sizes x1 x2) fun r_1 => (if r_1 = 0 then (zb1 (f_Shelves_change shelves_sorts shelves_sizes shelves_elements_e x1 x2 x3) fun shelves_elements_e_3 => (some (1, shelves_elements_e_3))) else (some (r_1, shelves_elements_e))))
set_option maxRecDepth 100000 in
set_option maxHeartbeats 4000000 in
theorem c_T_put (l : Launch) (G : zG) (a_this : Nat) (a_crowd : Nat) (a_queue : Nat) (a_text : Nat) (a_judge : Nat) (a_deeds : Nat) (a_mendings : Nat) (a_picture : Nat) (a_shelves : Nat) (a_books : Nat) (a_thoughts : Nat) (a_heads : Nat) (a_shelves_sorts : Nat) (a_shelves_sizes : Nat) (a_shelves_held : Nat) (a_shelves_elements : Nat) (a_shelves_elements_e : Nat → Nat) (hasPicture : Int32) (shelves_sorts : Nat → Int32) (shelves_sizes : Nat → Int32) (shelves_elements_e : Nat → (Nat → Int64)) (x1 : Int32) (x2 : Int32) (x3 : Int64) (r_ : Int32) (o_shelves_elements_e : Nat → (Nat → Int64)) (hf : f_T_put shelves_sorts shelves_sizes shelves_elements_e x1 x2 x3 = some (r_, o_shelves_elements_e)) : zM l yX11_put cX11_put 6 (some .int) 3 66 G [.ref a_this, .int x1, .int x2, .long x3] (w_T_put G a_this a_crowd a_queue a_text a_judge a_deeds a_mendings a_picture a_shelves a_books a_thoughts a_heads a_shelves_sorts a_shelves_sizes a_shelves_held a_shelves_elements a_shelves_elements_e hasPicture shelves_sorts shelves_sizes shelves_elements_e) (some (.int r_)) (w_T_put G a_this a_crowd a_queue a_text a_judge a_deeds a_mendings a_picture a_shelves a_books a_thoughts a_heads a_shelves_sorts a_shelves_sizes a_shelves_held a_shelves_elements a_shelves_elements_e hasPicture shelves_sorts shelves_sizes o_shelves_elements_e) := by
  refine zM.of [(0, .ref a_this), (1, .int x1), (2, .int x2), (3, .long x3)] (own := RX11) rfl (by decide +kernel) (Nat.le_of_ble_eq_true rfl) rfl rfl fun X hX F => ?_
  subst hX
  replace hf := (f_T_put.eq_1 ..).symm.trans hf
  refine z_aload_n F 0 dX11_put_0 rfl rfl ?_
  refine z_iload_n F 1 dX11_put_1 rfl rfl ?_
  refine z_iload_n F 2 dX11_put_2 rfl rfl ?_
  obtain ⟨r_1, hg, hf⟩ := zb1_some hf
  refine z_callVm (rest := []) F 11 (c_T_refusalOfElement (xL X) G a_this a_crowd a_queue a_text a_judge a_deeds a_mendings a_picture a_shelves a_books a_thoughts a_heads a_shelves_sorts a_shelves_sizes a_shelves_held a_shelves_elements hasPicture shelves_sorts shelves_sizes x1 x2 r_1 hg) hy_X11_refusalOfElement ml_X11_328 hd_X11_refusalOfElement ⟨by omega, by omega⟩ rfl [0, 1, 2, 3] rfl rfl 0 rfl rfl (w_T_put G a_this a_crowd a_queue a_text a_judge a_deeds a_mendings a_picture a_shelves a_books a_thoughts a_heads a_shelves_sorts a_shelves_sizes a_shelves_held a_shelves_elements a_shelves_elements_e hasPicture shelves_sorts shelves_sizes shelves_elements_e) [some 0, some 1, some 2, some 3, none, none, none, none, none, none, none] rfl (by decide +kernel) rfl rfl (Nat.le_of_ble_eq_true rfl) dX11_put_3 (fun hz_2 => ?_)
  refine z_istore F [(5, .int r_1), (0, .ref a_this), (1, .int x1), (2, .int x2), (3, .long x3)] dX11_put_6 (by decide) rfl ?_
  refine z_iload F 0 dX11_put_8 rfl ?_
  refine z_if_eq F 16 dX11_put_10 (by decide) hf (fun hf _ => ?_) (fun hf _ => ?_)
  · refine z_aload_n F 1 dX11_put_16 rfl rfl ?_
    refine z_get F 0 11 8 inlX11 rfl rfl (by decide) fl_X11_61 rfl dX11_put_17 ?_
    refine z_iload_n F 2 dX11_put_20 rfl rfl ?_
    refine z_iload_n F 3 dX11_put_21 rfl rfl ?_
    refine z_lload_n F 4 dX11_put_22 rfl rfl ?_
    obtain ⟨shelves_elements_e_3, hg, hf⟩ := zb1_some hf
    refine z_callVm (rest := []) F 9 (c_Shelves_change (xL X) G a_shelves a_shelves_sorts a_shelves_sizes a_shelves_held a_shelves_elements a_shelves_elements_e shelves_sorts shelves_sizes shelves_elements_e x1 x2 x3 shelves_elements_e_3 hg) hy_X9_change ml_X11_331 hd_X9_change ⟨by omega, by omega⟩ rfl [1, 2, 3, 4, 5, 6, 7, 8, 9, 10] rfl rfl 1 rfl rfl (w_T_put G a_this a_crowd a_queue a_text a_judge a_deeds a_mendings a_picture a_shelves a_books a_thoughts a_heads a_shelves_sorts a_shelves_sizes a_shelves_held a_shelves_elements a_shelves_elements_e hasPicture shelves_sorts shelves_sizes shelves_elements_e_3) [none, some 0, some 1, some 2, some 3, some 4, some 5, some 6, some 7, some 8, some 9] rfl (by decide +kernel) rfl rfl (Nat.le_of_ble_eq_true rfl) dX11_put_23 (fun hz_4 => ?_)
    refine z_iconst F (1) dX11_put_26 rfl ?_
    have eq1 := Option.some.inj hf
    obtain ⟨ee1, ee2⟩ := Prod.mk.inj eq1
    subst ee1
    subst ee2
    exact z_iret F rfl rfl rfl rfl dX11_put_27
  · refine z_iload F 0 dX11_put_13 rfl ?_
    have eq1 := Option.some.inj hf
    obtain ⟨ee1, ee2⟩ := Prod.mk.inj eq1
    subst ee1
    subst ee2
    exact z_iret F rfl rfl rfl rfl dX11_put_15

abbrev w_T_element (G : zG) (a_this : Nat) (a_crowd : Nat) (a_queue : Nat) (a_text : Nat) (a_judge : Nat) (a_deeds : Nat) (a_mendings : Nat) (a_picture : Nat) (a_shelves : Nat) (a_books : Nat) (a_thoughts : Nat) (a_heads : Nat) (a_shelves_sorts : Nat) (a_shelves_sizes : Nat) (a_shelves_held : Nat) (a_shelves_elements : Nat) (a_shelves_elements_e : Nat → Nat) (hasPicture : Int32) (shelves_sorts : Nat → Int32) (shelves_sizes : Nat → Int32) (shelves_elements_e : Nat → (Nat → Int64)) : va_W := [(a_this, cO 11 [.ref a_crowd, .ref a_queue, .ref a_text, .ref a_judge, .ref a_deeds, .ref a_mendings, .ref a_picture, .int hasPicture, .ref a_shelves, .ref a_books, .ref a_thoughts, .ref a_heads]), (a_shelves, cO 9 [.ref a_shelves_sorts, .ref a_shelves_sizes, .ref a_shelves_held, .ref a_shelves_elements]), (a_shelves_sorts, cI G 6 shelves_sorts), (a_shelves_sizes, cI G 6 shelves_sizes), (a_shelves_elements, cJJ G 6 (fun j => some (a_shelves_elements_e j))), ((a_shelves_elements_e 0), cJ G 60 (shelves_elements_e 0)), ((a_shelves_elements_e 1), cJ G 60 (shelves_elements_e 1)), ((a_shelves_elements_e 2), cJ G 60 (shelves_elements_e 2)), ((a_shelves_elements_e 3), cJ G 60 (shelves_elements_e 3)), ((a_shelves_elements_e 4), cJ G 60 (shelves_elements_e 4)), ((a_shelves_elements_e 5), cJ G 60 (shelves_elements_e 5))]
def f_T_element (shelves_sorts : Nat → Int32) (shelves_sizes : Nat → Int32) (shelves_elements_e : Nat → (Nat → Int64)) (x1 : Int32) (x2 : Int32) : Option Int64 := (zb1 (f_T_refusalOfElement shelves_sorts shelves_sizes x1 x2) fun r_1 => (if r_1 = 0 then (zb1 (f_Shelves_valueAt shelves_sizes shelves_elements_e x1 x2) fun r_3 => (some r_3)) else (some (-9223372036854775808))))
set_option maxRecDepth 100000 in
set_option maxHeartbeats 4000000 in
theorem c_T_element (l : Launch) (G : zG) (a_this : Nat) (a_crowd : Nat) (a_queue : Nat) (a_text : Nat) (a_judge : Nat) (a_deeds : Nat) (a_mendings : Nat) (a_picture : Nat) (a_shelves : Nat) (a_books : Nat) (a_thoughts : Nat) (a_heads : Nat) (a_shelves_sorts : Nat) (a_shelves_sizes : Nat) (a_shelves_held : Nat) (a_shelves_elements : Nat) (a_shelves_elements_e : Nat → Nat) (hasPicture : Int32) (shelves_sorts : Nat → Int32) (shelves_sizes : Nat → Int32) (shelves_elements_e : Nat → (Nat → Int64)) (x1 : Int32) (x2 : Int32) (r_ : Int64) (hf : f_T_element shelves_sorts shelves_sizes shelves_elements_e x1 x2 = some r_) : zM l yX11_element cX11_element 3 (some .long) 3 64 G [.ref a_this, .int x1, .int x2] (w_T_element G a_this a_crowd a_queue a_text a_judge a_deeds a_mendings a_picture a_shelves a_books a_thoughts a_heads a_shelves_sorts a_shelves_sizes a_shelves_held a_shelves_elements a_shelves_elements_e hasPicture shelves_sorts shelves_sizes shelves_elements_e) (some (.long r_)) (w_T_element G a_this a_crowd a_queue a_text a_judge a_deeds a_mendings a_picture a_shelves a_books a_thoughts a_heads a_shelves_sorts a_shelves_sizes a_shelves_held a_shelves_elements a_shelves_elements_e hasPicture shelves_sorts shelves_sizes shelves_elements_e) := by
  refine zM.of [(0, .ref a_this), (1, .int x1), (2, .int x2)] (own := RX11) rfl (by decide +kernel) (Nat.le_of_ble_eq_true rfl) rfl rfl fun X hX F => ?_
  subst hX
  replace hf := (f_T_element.eq_1 ..).symm.trans hf
  refine z_aload_n F 0 dX11_element_0 rfl rfl ?_
  refine z_iload_n F 1 dX11_element_1 rfl rfl ?_
  refine z_iload_n F 2 dX11_element_2 rfl rfl ?_
  obtain ⟨r_1, hg, hf⟩ := zb1_some hf
  refine z_callVm (rest := []) F 11 (c_T_refusalOfElement (xL X) G a_this a_crowd a_queue a_text a_judge a_deeds a_mendings a_picture a_shelves a_books a_thoughts a_heads a_shelves_sorts a_shelves_sizes a_shelves_held a_shelves_elements hasPicture shelves_sorts shelves_sizes x1 x2 r_1 hg) hy_X11_refusalOfElement ml_X11_328 hd_X11_refusalOfElement ⟨by omega, by omega⟩ rfl [0, 1, 2, 3] rfl rfl 0 rfl rfl (w_T_element G a_this a_crowd a_queue a_text a_judge a_deeds a_mendings a_picture a_shelves a_books a_thoughts a_heads a_shelves_sorts a_shelves_sizes a_shelves_held a_shelves_elements a_shelves_elements_e hasPicture shelves_sorts shelves_sizes shelves_elements_e) [some 0, some 1, some 2, some 3, none, none, none, none, none, none, none] rfl (by decide +kernel) rfl rfl (Nat.le_of_ble_eq_true rfl) dX11_element_3 (fun hz_2 => ?_)
  refine z_if_eq F 15 dX11_element_6 (by decide) hf (fun hf _ => ?_) (fun hf _ => ?_)
  · refine z_aload_n F 0 dX11_element_15 rfl rfl ?_
    refine z_get F 0 11 8 inlX11 rfl rfl (by decide) fl_X11_61 rfl dX11_element_16 ?_
    refine z_iload_n F 1 dX11_element_19 rfl rfl ?_
    refine z_iload_n F 2 dX11_element_20 rfl rfl ?_
    obtain ⟨r_3, hg, hf⟩ := zb1_some hf
    refine z_callVm (rest := []) F 9 (c_Shelves_valueAt (xL X) G a_shelves a_shelves_sorts a_shelves_sizes a_shelves_held a_shelves_elements a_shelves_elements_e shelves_sizes shelves_elements_e x1 x2 r_3 hg) hy_X9_valueAt ml_X11_112 hd_X9_valueAt ⟨by omega, by omega⟩ rfl [1, 3, 4, 5, 6, 7, 8, 9, 10] rfl rfl 1 rfl rfl (w_T_element G a_this a_crowd a_queue a_text a_judge a_deeds a_mendings a_picture a_shelves a_books a_thoughts a_heads a_shelves_sorts a_shelves_sizes a_shelves_held a_shelves_elements a_shelves_elements_e hasPicture shelves_sorts shelves_sizes shelves_elements_e) [none, some 0, none, some 1, some 2, some 3, some 4, some 5, some 6, some 7, some 8] rfl (by decide +kernel) rfl rfl (Nat.le_of_ble_eq_true rfl) dX11_element_21 (fun hz_4 => ?_)
    have ee1 := Option.some.inj hf
    subst ee1
    exact z_lret F rfl rfl rfl dX11_element_24
  · refine z_ldc2 F (-9223372036854775808) (uw56 _ (List.mem_of_getElem? (i := 19) rfl)) dX11_element_9 ?_
    refine z_goto F 24 dX11_element_12 (by decide) ?_
    have ee1 := Option.some.inj hf
    subst ee1
    exact z_lret F rfl rfl rfl dX11_element_24

abbrev w_T_shift (G : zG) (a_this : Nat) (a_crowd : Nat) (a_queue : Nat) (a_text : Nat) (a_judge : Nat) (a_deeds : Nat) (a_mendings : Nat) (a_picture : Nat) (a_shelves : Nat) (a_books : Nat) (a_thoughts : Nat) (a_heads : Nat) (a_shelves_sorts : Nat) (a_shelves_sizes : Nat) (a_shelves_held : Nat) (a_shelves_elements : Nat) (a_shelves_elements_e : Nat → Nat) (hasPicture : Int32) (shelves_sorts : Nat → Int32) (shelves_sizes : Nat → Int32) (shelves_elements_e : Nat → (Nat → Int64)) : va_W := [(a_this, cO 11 [.ref a_crowd, .ref a_queue, .ref a_text, .ref a_judge, .ref a_deeds, .ref a_mendings, .ref a_picture, .int hasPicture, .ref a_shelves, .ref a_books, .ref a_thoughts, .ref a_heads]), (a_shelves, cO 9 [.ref a_shelves_sorts, .ref a_shelves_sizes, .ref a_shelves_held, .ref a_shelves_elements]), (a_shelves_sorts, cI G 6 shelves_sorts), (a_shelves_sizes, cI G 6 shelves_sizes), (a_shelves_elements, cJJ G 6 (fun j => some (a_shelves_elements_e j))), ((a_shelves_elements_e 0), cJ G 60 (shelves_elements_e 0)), ((a_shelves_elements_e 1), cJ G 60 (shelves_elements_e 1)), ((a_shelves_elements_e 2), cJ G 60 (shelves_elements_e 2)), ((a_shelves_elements_e 3), cJ G 60 (shelves_elements_e 3)), ((a_shelves_elements_e 4), cJ G 60 (shelves_elements_e 4)), ((a_shelves_elements_e 5), cJ G 60 (shelves_elements_e 5))]
def f_T_shift (shelves_sorts : Nat → Int32) (shelves_sizes : Nat → Int32) (shelves_elements_e : Nat → (Nat → Int64)) (x1 : Int32) (x2 : Int32) (x3 : Int32) (x4 : Int32) (x5 : Int32) : Option (Int32 × (Nat → (Nat → Int64))) := (if (f_Shelves_isShelf x1) = 0 then (some ((-1), shelves_elements_e)) else (if (f_Shelves_isShelf x3) = 0 then (some ((-1), shelves_elements_e)) else (zb1 (f_Shelves_isBare shelves_sorts x1) fun r_3 => (if r_3 = 0 then (zb1 (f_Shelves_isBare shelves_sorts x3) fun r_5 => (if r_5 = 0 then (zb1 (f_Shelves_isRow shelves_sorts x1) fun r_7 => (if r_7 = 0 then (some ((-12), shelves_elements_e)) else (zb1 (f_Shelves_isRow shelves_sorts x3) fun r_9 => (if r_9 = 0 then (some ((-12), shelves_elements_e)) else (zb1 (f_Shelves_sortOf shelves_sorts x1) fun r_11 => (zb1 (f_Shelves_sortOf shelves_sorts x3) fun r_13 => (if r_11 = r_13 then (zb1 (f_Shelves_hasStretch shelves_sizes x1 x2 x5) fun r_15 => (if r_15 = 0 then (some ((-13), shelves_elements_e)) else (zb1 (f_Shelves_hasStretch shelves_sizes x3 x4 x5) fun r_17 => (if r_17 = 0 then (some ((-13), shelves_elements_e)) else (zb1 (f_Shelves_copy shelves_sizes shelves_elements_e x1 x2 x3 x4 x5) fun shelves_elements_e_19 => (some (x5, shelves_elements_e_19))))))) else (some ((-12), shelves_elements_e))))))))) else (some ((-11), shelves_elements_e)))) else (some ((-11), shelves_elements_e))))))
set_option maxRecDepth 100000 in
set_option maxHeartbeats 4000000 in
theorem c_T_shift (l : Launch) (G : zG) (a_this : Nat) (a_crowd : Nat) (a_queue : Nat) (a_text : Nat) (a_judge : Nat) (a_deeds : Nat) (a_mendings : Nat) (a_picture : Nat) (a_shelves : Nat) (a_books : Nat) (a_thoughts : Nat) (a_heads : Nat) (a_shelves_sorts : Nat) (a_shelves_sizes : Nat) (a_shelves_held : Nat) (a_shelves_elements : Nat) (a_shelves_elements_e : Nat → Nat) (hasPicture : Int32) (shelves_sorts : Nat → Int32) (shelves_sizes : Nat → Int32) (shelves_elements_e : Nat → (Nat → Int64)) (x1 : Int32) (x2 : Int32) (x3 : Int32) (x4 : Int32) (x5 : Int32) (r_ : Int32) (o_shelves_elements_e : Nat → (Nat → Int64)) (hf : f_T_shift shelves_sorts shelves_sizes shelves_elements_e x1 x2 x3 x4 x5 = some (r_, o_shelves_elements_e)) : zM l yX11_shift cX11_shift 6 (some .int) 4 145 G [.ref a_this, .int x1, .int x2, .int x3, .int x4, .int x5] (w_T_shift G a_this a_crowd a_queue a_text a_judge a_deeds a_mendings a_picture a_shelves a_books a_thoughts a_heads a_shelves_sorts a_shelves_sizes a_shelves_held a_shelves_elements a_shelves_elements_e hasPicture shelves_sorts shelves_sizes shelves_elements_e) (some (.int r_)) (w_T_shift G a_this a_crowd a_queue a_text a_judge a_deeds a_mendings a_picture a_shelves a_books a_thoughts a_heads a_shelves_sorts a_shelves_sizes a_shelves_held a_shelves_elements a_shelves_elements_e hasPicture shelves_sorts shelves_sizes o_shelves_elements_e) := by
  refine zM.of [(0, .ref a_this), (1, .int x1), (2, .int x2), (3, .int x3), (4, .int x4), (5, .int x5)] (own := RX11) rfl (by decide +kernel) (Nat.le_of_ble_eq_true rfl) rfl rfl fun X hX F => ?_
  subst hX
  replace hf := (f_T_shift.eq_1 ..).symm.trans hf
  refine z_aload_n F 0 dX11_shift_0 rfl rfl ?_
  refine z_get F 0 11 8 inlX11 rfl rfl (by decide) fl_X11_61 rfl dX11_shift_1 ?_
  refine z_iload_n F 1 dX11_shift_4 rfl rfl ?_
  refine z_callVm (rest := []) F 9 (c_Shelves_isShelf (xL X) G a_shelves a_shelves_sorts a_shelves_sizes a_shelves_held a_shelves_elements x1 _ rfl) hy_X9_isShelf ml_X11_102 hd_X9_isShelf ⟨by omega, by omega⟩ rfl [1] rfl rfl 1 rfl rfl (w_T_shift G a_this a_crowd a_queue a_text a_judge a_deeds a_mendings a_picture a_shelves a_books a_thoughts a_heads a_shelves_sorts a_shelves_sizes a_shelves_held a_shelves_elements a_shelves_elements_e hasPicture shelves_sorts shelves_sizes shelves_elements_e) [none, some 0, none, none, none, none, none, none, none, none, none] rfl (by decide +kernel) rfl rfl (Nat.le_of_ble_eq_true rfl) dX11_shift_5 (fun hz_1 => ?_)
  refine z_if_eq F 22 dX11_shift_8 (by decide) hf (fun hf _ => ?_) (fun hf _ => ?_)
  · refine z_iconst F (-1) dX11_shift_22 rfl ?_
    have eq1 := Option.some.inj hf
    obtain ⟨ee1, ee2⟩ := Prod.mk.inj eq1
    subst ee1
    subst ee2
    exact z_iret F rfl rfl rfl rfl dX11_shift_23
  · refine z_aload_n F 0 dX11_shift_11 rfl rfl ?_
    refine z_get F 0 11 8 inlX11 rfl rfl (by decide) fl_X11_61 rfl dX11_shift_12 ?_
    refine z_iload_n F 3 dX11_shift_15 rfl rfl ?_
    refine z_callVm (rest := []) F 9 (c_Shelves_isShelf (xL X) G a_shelves a_shelves_sorts a_shelves_sizes a_shelves_held a_shelves_elements x3 _ rfl) hy_X9_isShelf ml_X11_102 hd_X9_isShelf ⟨by omega, by omega⟩ rfl [1] rfl rfl 1 rfl rfl (w_T_shift G a_this a_crowd a_queue a_text a_judge a_deeds a_mendings a_picture a_shelves a_books a_thoughts a_heads a_shelves_sorts a_shelves_sizes a_shelves_held a_shelves_elements a_shelves_elements_e hasPicture shelves_sorts shelves_sizes shelves_elements_e) [none, some 0, none, none, none, none, none, none, none, none, none] rfl (by decide +kernel) rfl rfl (Nat.le_of_ble_eq_true rfl) dX11_shift_16 (fun hz_2 => ?_)
    refine z_if_ne F 24 dX11_shift_19 (by decide) hf (fun hf _ => ?_) (fun hf _ => ?_)
    · refine z_aload_n F 0 dX11_shift_24 rfl rfl ?_
      refine z_get F 0 11 8 inlX11 rfl rfl (by decide) fl_X11_61 rfl dX11_shift_25 ?_
      refine z_iload_n F 1 dX11_shift_28 rfl rfl ?_
      obtain ⟨r_3, hg, hf⟩ := zb1_some hf
      refine z_callVm (rest := []) F 9 (c_Shelves_isBare (xL X) G a_shelves a_shelves_sorts a_shelves_sizes a_shelves_held a_shelves_elements shelves_sorts x1 r_3 hg) hy_X9_isBare ml_X11_339 hd_X9_isBare ⟨by omega, by omega⟩ rfl [1, 2] rfl rfl 1 rfl rfl (w_T_shift G a_this a_crowd a_queue a_text a_judge a_deeds a_mendings a_picture a_shelves a_books a_thoughts a_heads a_shelves_sorts a_shelves_sizes a_shelves_held a_shelves_elements a_shelves_elements_e hasPicture shelves_sorts shelves_sizes shelves_elements_e) [none, some 0, some 1, none, none, none, none, none, none, none, none] rfl (by decide +kernel) rfl rfl (Nat.le_of_ble_eq_true rfl) dX11_shift_29 (fun hz_4 => ?_)
      refine z_if_ne F 46 dX11_shift_32 (by decide) hf (fun hf _ => ?_) (fun hf _ => ?_)
      · refine z_bipush F (-11) dX11_shift_46 rfl ?_
        have eq1 := Option.some.inj hf
        obtain ⟨ee1, ee2⟩ := Prod.mk.inj eq1
        subst ee1
        subst ee2
        exact z_iret F rfl rfl rfl rfl dX11_shift_48
      · refine z_aload_n F 0 dX11_shift_35 rfl rfl ?_
        refine z_get F 0 11 8 inlX11 rfl rfl (by decide) fl_X11_61 rfl dX11_shift_36 ?_
        refine z_iload_n F 3 dX11_shift_39 rfl rfl ?_
        obtain ⟨r_5, hg, hf⟩ := zb1_some hf
        refine z_callVm (rest := []) F 9 (c_Shelves_isBare (xL X) G a_shelves a_shelves_sorts a_shelves_sizes a_shelves_held a_shelves_elements shelves_sorts x3 r_5 hg) hy_X9_isBare ml_X11_339 hd_X9_isBare ⟨by omega, by omega⟩ rfl [1, 2] rfl rfl 1 rfl rfl (w_T_shift G a_this a_crowd a_queue a_text a_judge a_deeds a_mendings a_picture a_shelves a_books a_thoughts a_heads a_shelves_sorts a_shelves_sizes a_shelves_held a_shelves_elements a_shelves_elements_e hasPicture shelves_sorts shelves_sizes shelves_elements_e) [none, some 0, some 1, none, none, none, none, none, none, none, none] rfl (by decide +kernel) rfl rfl (Nat.le_of_ble_eq_true rfl) dX11_shift_40 (fun hz_6 => ?_)
        refine z_if_eq F 49 dX11_shift_43 (by decide) hf (fun hf _ => ?_) (fun hf _ => ?_)
        · refine z_aload_n F 0 dX11_shift_49 rfl rfl ?_
          refine z_get F 0 11 8 inlX11 rfl rfl (by decide) fl_X11_61 rfl dX11_shift_50 ?_
          refine z_iload_n F 1 dX11_shift_53 rfl rfl ?_
          obtain ⟨r_7, hg, hf⟩ := zb1_some hf
          refine z_callVm (rest := []) F 9 (c_Shelves_isRow (xL X) G a_shelves a_shelves_sorts a_shelves_sizes a_shelves_held a_shelves_elements shelves_sorts x1 r_7 hg) hy_X9_isRow ml_X11_342 hd_X9_isRow ⟨by omega, by omega⟩ rfl [1, 2] rfl rfl 1 rfl rfl (w_T_shift G a_this a_crowd a_queue a_text a_judge a_deeds a_mendings a_picture a_shelves a_books a_thoughts a_heads a_shelves_sorts a_shelves_sizes a_shelves_held a_shelves_elements a_shelves_elements_e hasPicture shelves_sorts shelves_sizes shelves_elements_e) [none, some 0, some 1, none, none, none, none, none, none, none, none] rfl (by decide +kernel) rfl rfl (Nat.le_of_ble_eq_true rfl) dX11_shift_54 (fun hz_8 => ?_)
          refine z_if_eq F 90 dX11_shift_57 (by decide) hf (fun hf _ => ?_) (fun hf _ => ?_)
          · refine z_bipush F (-12) dX11_shift_90 rfl ?_
            have eq1 := Option.some.inj hf
            obtain ⟨ee1, ee2⟩ := Prod.mk.inj eq1
            subst ee1
            subst ee2
            exact z_iret F rfl rfl rfl rfl dX11_shift_92
          · refine z_aload_n F 0 dX11_shift_60 rfl rfl ?_
            refine z_get F 0 11 8 inlX11 rfl rfl (by decide) fl_X11_61 rfl dX11_shift_61 ?_
            refine z_iload_n F 3 dX11_shift_64 rfl rfl ?_
            obtain ⟨r_9, hg, hf⟩ := zb1_some hf
            refine z_callVm (rest := []) F 9 (c_Shelves_isRow (xL X) G a_shelves a_shelves_sorts a_shelves_sizes a_shelves_held a_shelves_elements shelves_sorts x3 r_9 hg) hy_X9_isRow ml_X11_342 hd_X9_isRow ⟨by omega, by omega⟩ rfl [1, 2] rfl rfl 1 rfl rfl (w_T_shift G a_this a_crowd a_queue a_text a_judge a_deeds a_mendings a_picture a_shelves a_books a_thoughts a_heads a_shelves_sorts a_shelves_sizes a_shelves_held a_shelves_elements a_shelves_elements_e hasPicture shelves_sorts shelves_sizes shelves_elements_e) [none, some 0, some 1, none, none, none, none, none, none, none, none] rfl (by decide +kernel) rfl rfl (Nat.le_of_ble_eq_true rfl) dX11_shift_65 (fun hz_10 => ?_)
            refine z_if_eq F 90 dX11_shift_68 (by decide) hf (fun hf _ => ?_) (fun hf _ => ?_)
            · refine z_bipush F (-12) dX11_shift_90 rfl ?_
              have eq1 := Option.some.inj hf
              obtain ⟨ee1, ee2⟩ := Prod.mk.inj eq1
              subst ee1
              subst ee2
              exact z_iret F rfl rfl rfl rfl dX11_shift_92
            · refine z_aload_n F 0 dX11_shift_71 rfl rfl ?_
              refine z_get F 0 11 8 inlX11 rfl rfl (by decide) fl_X11_61 rfl dX11_shift_72 ?_
              refine z_iload_n F 1 dX11_shift_75 rfl rfl ?_
              obtain ⟨r_11, hg, hf⟩ := zb1_some hf
              refine z_callVm (rest := []) F 9 (c_Shelves_sortOf (xL X) G a_shelves a_shelves_sorts a_shelves_sizes a_shelves_held a_shelves_elements shelves_sorts x1 r_11 hg) hy_X9_sortOf ml_X11_345 hd_X9_sortOf ⟨by omega, by omega⟩ rfl [1, 2] rfl rfl 1 rfl rfl (w_T_shift G a_this a_crowd a_queue a_text a_judge a_deeds a_mendings a_picture a_shelves a_books a_thoughts a_heads a_shelves_sorts a_shelves_sizes a_shelves_held a_shelves_elements a_shelves_elements_e hasPicture shelves_sorts shelves_sizes shelves_elements_e) [none, some 0, some 1, none, none, none, none, none, none, none, none] rfl (by decide +kernel) rfl rfl (Nat.le_of_ble_eq_true rfl) dX11_shift_76 (fun hz_12 => ?_)
              refine z_aload_n F 0 dX11_shift_79 rfl rfl ?_
              refine z_get F 0 11 8 inlX11 rfl rfl (by decide) fl_X11_61 rfl dX11_shift_80 ?_
              refine z_iload_n F 3 dX11_shift_83 rfl rfl ?_
              obtain ⟨r_13, hg, hf⟩ := zb1_some hf
              refine z_callVm (rest := [.int r_11]) F 9 (c_Shelves_sortOf (xL X) G a_shelves a_shelves_sorts a_shelves_sizes a_shelves_held a_shelves_elements shelves_sorts x3 r_13 hg) hy_X9_sortOf ml_X11_345 hd_X9_sortOf ⟨by omega, by omega⟩ rfl [1, 2] rfl rfl 1 rfl rfl (w_T_shift G a_this a_crowd a_queue a_text a_judge a_deeds a_mendings a_picture a_shelves a_books a_thoughts a_heads a_shelves_sorts a_shelves_sizes a_shelves_held a_shelves_elements a_shelves_elements_e hasPicture shelves_sorts shelves_sizes shelves_elements_e) [none, some 0, some 1, none, none, none, none, none, none, none, none] rfl (by decide +kernel) rfl rfl (Nat.le_of_ble_eq_true rfl) dX11_shift_84 (fun hz_14 => ?_)
              refine z_icmp_eq F 93 dX11_shift_87 (by decide) hf (fun hf _ => ?_) (fun hf _ => ?_)
              · refine z_aload_n F 0 dX11_shift_93 rfl rfl ?_
                refine z_get F 0 11 8 inlX11 rfl rfl (by decide) fl_X11_61 rfl dX11_shift_94 ?_
                refine z_iload_n F 1 dX11_shift_97 rfl rfl ?_
                refine z_iload_n F 2 dX11_shift_98 rfl rfl ?_
                refine z_iload F 5 dX11_shift_99 rfl ?_
                obtain ⟨r_15, hg, hf⟩ := zb1_some hf
                refine z_callVm (rest := []) F 9 (c_Shelves_hasStretch (xL X) G a_shelves a_shelves_sorts a_shelves_sizes a_shelves_held a_shelves_elements shelves_sizes x1 x2 x5 r_15 hg) hy_X9_hasStretch ml_X11_348 hd_X9_hasStretch ⟨by omega, by omega⟩ rfl [1, 3] rfl rfl 1 rfl rfl (w_T_shift G a_this a_crowd a_queue a_text a_judge a_deeds a_mendings a_picture a_shelves a_books a_thoughts a_heads a_shelves_sorts a_shelves_sizes a_shelves_held a_shelves_elements a_shelves_elements_e hasPicture shelves_sorts shelves_sizes shelves_elements_e) [none, some 0, none, some 1, none, none, none, none, none, none, none] rfl (by decide +kernel) rfl rfl (Nat.le_of_ble_eq_true rfl) dX11_shift_101 (fun hz_16 => ?_)
                refine z_if_eq F 122 dX11_shift_104 (by decide) hf (fun hf _ => ?_) (fun hf _ => ?_)
                · refine z_bipush F (-13) dX11_shift_122 rfl ?_
                  have eq1 := Option.some.inj hf
                  obtain ⟨ee1, ee2⟩ := Prod.mk.inj eq1
                  subst ee1
                  subst ee2
                  exact z_iret F rfl rfl rfl rfl dX11_shift_124
                · refine z_aload_n F 0 dX11_shift_107 rfl rfl ?_
                  refine z_get F 0 11 8 inlX11 rfl rfl (by decide) fl_X11_61 rfl dX11_shift_108 ?_
                  refine z_iload_n F 3 dX11_shift_111 rfl rfl ?_
                  refine z_iload F 4 dX11_shift_112 rfl ?_
                  refine z_iload F 5 dX11_shift_114 rfl ?_
                  obtain ⟨r_17, hg, hf⟩ := zb1_some hf
                  refine z_callVm (rest := []) F 9 (c_Shelves_hasStretch (xL X) G a_shelves a_shelves_sorts a_shelves_sizes a_shelves_held a_shelves_elements shelves_sizes x3 x4 x5 r_17 hg) hy_X9_hasStretch ml_X11_348 hd_X9_hasStretch ⟨by omega, by omega⟩ rfl [1, 3] rfl rfl 1 rfl rfl (w_T_shift G a_this a_crowd a_queue a_text a_judge a_deeds a_mendings a_picture a_shelves a_books a_thoughts a_heads a_shelves_sorts a_shelves_sizes a_shelves_held a_shelves_elements a_shelves_elements_e hasPicture shelves_sorts shelves_sizes shelves_elements_e) [none, some 0, none, some 1, none, none, none, none, none, none, none] rfl (by decide +kernel) rfl rfl (Nat.le_of_ble_eq_true rfl) dX11_shift_116 (fun hz_18 => ?_)
                  refine z_if_ne F 125 dX11_shift_119 (by decide) hf (fun hf _ => ?_) (fun hf _ => ?_)
                  · refine z_aload_n F 0 dX11_shift_125 rfl rfl ?_
                    refine z_get F 0 11 8 inlX11 rfl rfl (by decide) fl_X11_61 rfl dX11_shift_126 ?_
                    refine z_iload_n F 1 dX11_shift_129 rfl rfl ?_
                    refine z_iload_n F 2 dX11_shift_130 rfl rfl ?_
                    refine z_iload_n F 3 dX11_shift_131 rfl rfl ?_
                    refine z_iload F 4 dX11_shift_132 rfl ?_
                    refine z_iload F 5 dX11_shift_134 rfl ?_
                    obtain ⟨shelves_elements_e_19, hg, hf⟩ := zb1_some hf
                    refine z_callVm (rest := []) F 9 (c_Shelves_copy (xL X) G a_shelves a_shelves_sorts a_shelves_sizes a_shelves_held a_shelves_elements a_shelves_elements_e shelves_sizes shelves_elements_e x1 x2 x3 x4 x5 shelves_elements_e_19 hg) hy_X9_copy ml_X11_352 hd_X9_copy ⟨by omega, by omega⟩ rfl [1, 3, 4, 5, 6, 7, 8, 9, 10] rfl rfl 1 rfl rfl (w_T_shift G a_this a_crowd a_queue a_text a_judge a_deeds a_mendings a_picture a_shelves a_books a_thoughts a_heads a_shelves_sorts a_shelves_sizes a_shelves_held a_shelves_elements a_shelves_elements_e hasPicture shelves_sorts shelves_sizes shelves_elements_e_19) [none, some 0, none, some 1, some 2, some 3, some 4, some 5, some 6, some 7, some 8] rfl (by decide +kernel) rfl rfl (Nat.le_of_ble_eq_true rfl) dX11_shift_136 (fun hz_20 => ?_)
                    refine z_iload F 5 dX11_shift_139 rfl ?_
                    have eq1 := Option.some.inj hf
                    obtain ⟨ee1, ee2⟩ := Prod.mk.inj eq1
                    subst ee1
                    subst ee2
                    exact z_iret F rfl rfl rfl rfl dX11_shift_141
                  · refine z_bipush F (-13) dX11_shift_122 rfl ?_
                    have eq1 := Option.some.inj hf
                    obtain ⟨ee1, ee2⟩ := Prod.mk.inj eq1
                    subst ee1
                    subst ee2
                    exact z_iret F rfl rfl rfl rfl dX11_shift_124
              · refine z_bipush F (-12) dX11_shift_90 rfl ?_
                have eq1 := Option.some.inj hf
                obtain ⟨ee1, ee2⟩ := Prod.mk.inj eq1
                subst ee1
                subst ee2
                exact z_iret F rfl rfl rfl rfl dX11_shift_92
        · refine z_bipush F (-11) dX11_shift_46 rfl ?_
          have eq1 := Option.some.inj hf
          obtain ⟨ee1, ee2⟩ := Prod.mk.inj eq1
          subst ee1
          subst ee2
          exact z_iret F rfl rfl rfl rfl dX11_shift_48
    · refine z_iconst F (-1) dX11_shift_22 rfl ?_
      have eq1 := Option.some.inj hf
      obtain ⟨ee1, ee2⟩ := Prod.mk.inj eq1
      subst ee1
      subst ee2
      exact z_iret F rfl rfl rfl rfl dX11_shift_23

