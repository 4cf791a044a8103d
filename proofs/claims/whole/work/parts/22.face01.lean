/-! by program (wip/whole/gen.py): pure functions and contracts -/
theorem dX11_person_0 : decode cX11_person 0 = .ok (.aload_n 0, 1) := by decide +kernel
theorem dX11_person_1 : decode cX11_person 1 = .ok (.getfield 10, 3) := by decide +kernel
theorem dX11_person_4 : decode cX11_person 4 = .ok (.iload_n 1, 1) := by decide +kernel
theorem dX11_person_5 : decode cX11_person 5 = .ok (.invokevirtual 90, 3) := by decide +kernel
theorem dX11_person_8 : decode cX11_person 8 = .ok (.istore_n 2, 1) := by decide +kernel
theorem dX11_person_9 : decode cX11_person 9 = .ok (.iload_n 2, 1) := by decide +kernel
theorem dX11_person_10 : decode cX11_person 10 = .ok (.ifCond .lt 18, 3) := by decide +kernel
theorem dX11_person_13 : decode cX11_person 13 = .ok (.aload_n 0, 1) := by decide +kernel
theorem dX11_person_14 : decode cX11_person 14 = .ok (.getfield 19, 3) := by decide +kernel
theorem dX11_person_17 : decode cX11_person 17 = .ok (.iload_n 2, 1) := by decide +kernel
theorem dX11_person_18 : decode cX11_person 18 = .ok (.aload_n 0, 1) := by decide +kernel
theorem dX11_person_19 : decode cX11_person 19 = .ok (.getfield 19, 3) := by decide +kernel
theorem dX11_person_22 : decode cX11_person 22 = .ok (.invokevirtual 94, 3) := by decide +kernel
theorem dX11_person_25 : decode cX11_person 25 = .ok (.invokevirtual 98, 3) := by decide +kernel
theorem dX11_person_28 : decode cX11_person 28 = .ok (.iload_n 2, 1) := by decide +kernel
theorem dX11_person_29 : decode cX11_person 29 = .ok (.ireturn, 1) := by decide +kernel
theorem dX11_people_0 : decode cX11_people 0 = .ok (.aload_n 0, 1) := by decide +kernel
theorem dX11_people_1 : decode cX11_people 1 = .ok (.getfield 61, 3) := by decide +kernel
theorem dX11_people_4 : decode cX11_people 4 = .ok (.iload_n 1, 1) := by decide +kernel
theorem dX11_people_5 : decode cX11_people 5 = .ok (.invokevirtual 102, 3) := by decide +kernel
theorem dX11_people_8 : decode cX11_people 8 = .ok (.ifCond .eq 14, 3) := by decide +kernel
theorem dX11_people_11 : decode cX11_people 11 = .ok (.iload_n 3, 1) := by decide +kernel
theorem dX11_people_12 : decode cX11_people 12 = .ok (.iconst 1, 1) := by decide +kernel
theorem dX11_people_13 : decode cX11_people 13 = .ok (.if_icmp .lt 9, 3) := by decide +kernel
theorem dX11_people_16 : decode cX11_people 16 = .ok (.iload_n 3, 1) := by decide +kernel
theorem dX11_people_17 : decode cX11_people 17 = .ok (.bipush 9, 2) := by decide +kernel
theorem dX11_people_19 : decode cX11_people 19 = .ok (.if_icmp .le 5, 3) := by decide +kernel
theorem dX11_people_22 : decode cX11_people 22 = .ok (.iconst (-1), 1) := by decide +kernel
theorem dX11_people_23 : decode cX11_people 23 = .ok (.ireturn, 1) := by decide +kernel
theorem dX11_people_24 : decode cX11_people 24 = .ok (.aload_n 0, 1) := by decide +kernel
theorem dX11_people_25 : decode cX11_people 25 = .ok (.getfield 61, 3) := by decide +kernel
theorem dX11_people_28 : decode cX11_people 28 = .ok (.iload_n 1, 1) := by decide +kernel
theorem dX11_people_29 : decode cX11_people 29 = .ok (.invokevirtual 106, 3) := by decide +kernel
theorem dX11_people_32 : decode cX11_people 32 = .ok (.istore 4, 2) := by decide +kernel
theorem dX11_people_34 : decode cX11_people 34 = .ok (.iload 4, 2) := by decide +kernel
theorem dX11_people_36 : decode cX11_people 36 = .ok (.bipush (-12), 2) := by decide +kernel
theorem dX11_people_38 : decode cX11_people 38 = .ok (.if_icmp .ne 6, 3) := by decide +kernel
theorem dX11_people_41 : decode cX11_people 41 = .ok (.iload 4, 2) := by decide +kernel
theorem dX11_people_43 : decode cX11_people 43 = .ok (.ireturn, 1) := by decide +kernel
theorem dX11_people_44 : decode cX11_people 44 = .ok (.iload 4, 2) := by decide +kernel
theorem dX11_people_46 : decode cX11_people 46 = .ok (.ifCond .ne 7, 3) := by decide +kernel
theorem dX11_people_49 : decode cX11_people 49 = .ok (.iload_n 2, 1) := by decide +kernel
theorem dX11_people_50 : decode cX11_people 50 = .ok (.ifCond .ge 5, 3) := by decide +kernel
theorem dX11_people_53 : decode cX11_people 53 = .ok (.iconst 0, 1) := by decide +kernel
theorem dX11_people_54 : decode cX11_people 54 = .ok (.ireturn, 1) := by decide +kernel
theorem dX11_people_55 : decode cX11_people 55 = .ok (.iconst 0, 1) := by decide +kernel
theorem dX11_people_56 : decode cX11_people 56 = .ok (.istore 5, 2) := by decide +kernel
theorem dX11_people_58 : decode cX11_people 58 = .ok (.iload_n 2, 1) := by decide +kernel
theorem dX11_people_59 : decode cX11_people 59 = .ok (.istore 6, 2) := by decide +kernel
theorem dX11_people_61 : decode cX11_people 61 = .ok (.iload 6, 2) := by decide +kernel
theorem dX11_people_63 : decode cX11_people 63 = .ok (.aload_n 0, 1) := by decide +kernel
theorem dX11_people_64 : decode cX11_people 64 = .ok (.getfield 61, 3) := by decide +kernel
theorem dX11_people_67 : decode cX11_people 67 = .ok (.iload_n 1, 1) := by decide +kernel
theorem dX11_people_68 : decode cX11_people 68 = .ok (.invokevirtual 109, 3) := by decide +kernel
theorem dX11_people_71 : decode cX11_people 71 = .ok (.if_icmp .ge 39, 3) := by decide +kernel
theorem dX11_people_74 : decode cX11_people 74 = .ok (.iload 5, 2) := by decide +kernel
theorem dX11_people_76 : decode cX11_people 76 = .ok (.iload_n 3, 1) := by decide +kernel
theorem dX11_people_77 : decode cX11_people 77 = .ok (.if_icmp .ge 33, 3) := by decide +kernel
theorem dX11_people_80 : decode cX11_people 80 = .ok (.aload_n 0, 1) := by decide +kernel
theorem dX11_people_81 : decode cX11_people 81 = .ok (.aload_n 0, 1) := by decide +kernel
theorem dX11_people_82 : decode cX11_people 82 = .ok (.getfield 61, 3) := by decide +kernel
theorem dX11_people_85 : decode cX11_people 85 = .ok (.iload_n 1, 1) := by decide +kernel
theorem dX11_people_86 : decode cX11_people 86 = .ok (.iload 6, 2) := by decide +kernel
theorem dX11_people_88 : decode cX11_people 88 = .ok (.invokevirtual 112, 3) := by decide +kernel
theorem dX11_people_91 : decode cX11_people 91 = .ok (.l2i, 1) := by decide +kernel
theorem dX11_people_92 : decode cX11_people 92 = .ok (.invokevirtual 116, 3) := by decide +kernel
theorem dX11_people_95 : decode cX11_people 95 = .ok (.ifCond .ge 6, 3) := by decide +kernel
theorem dX11_people_98 : decode cX11_people 98 = .ok (.goto 12, 3) := by decide +kernel
theorem dX11_people_101 : decode cX11_people 101 = .ok (.iinc 5 1, 3) := by decide +kernel
theorem dX11_people_104 : decode cX11_people 104 = .ok (.iinc 6 1, 3) := by decide +kernel
theorem dX11_people_107 : decode cX11_people 107 = .ok (.goto (-46), 3) := by decide +kernel
theorem dX11_people_110 : decode cX11_people 110 = .ok (.iload 5, 2) := by decide +kernel
theorem dX11_people_112 : decode cX11_people 112 = .ok (.ireturn, 1) := by decide +kernel
theorem dX11_changeHeight_0 : decode cX11_changeHeight 0 = .ok (.aload_n 0, 1) := by decide +kernel
theorem dX11_changeHeight_1 : decode cX11_changeHeight 1 = .ok (.getfield 10, 3) := by decide +kernel
theorem dX11_changeHeight_4 : decode cX11_changeHeight 4 = .ok (.iload_n 1, 1) := by decide +kernel
theorem dX11_changeHeight_5 : decode cX11_changeHeight 5 = .ok (.iload_n 2, 1) := by decide +kernel
theorem dX11_changeHeight_6 : decode cX11_changeHeight 6 = .ok (.invokevirtual 391, 3) := by decide +kernel
theorem dX11_changeHeight_9 : decode cX11_changeHeight 9 = .ok (.aload_n 0, 1) := by decide +kernel
theorem dX11_changeHeight_10 : decode cX11_changeHeight 10 = .ok (.getfield 35, 3) := by decide +kernel
theorem dX11_changeHeight_13 : decode cX11_changeHeight 13 = .ok (.invokevirtual 152, 3) := by decide +kernel
theorem dX11_changeHeight_16 : decode cX11_changeHeight 16 = .ok (.return_, 1) := by decide +kernel
theorem dX11_mend_0 : decode cX11_mend 0 = .ok (.aload_n 0, 1) := by decide +kernel
theorem dX11_mend_1 : decode cX11_mend 1 = .ok (.getfield 10, 3) := by decide +kernel
theorem dX11_mend_4 : decode cX11_mend 4 = .ok (.iload_n 1, 1) := by decide +kernel
theorem dX11_mend_5 : decode cX11_mend 5 = .ok (.invokevirtual 119, 3) := by decide +kernel
theorem dX11_mend_8 : decode cX11_mend 8 = .ok (.ifCond .eq 15, 3) := by decide +kernel
theorem dX11_mend_11 : decode cX11_mend 11 = .ok (.aload_n 0, 1) := by decide +kernel
theorem dX11_mend_12 : decode cX11_mend 12 = .ok (.getfield 10, 3) := by decide +kernel
theorem dX11_mend_15 : decode cX11_mend 15 = .ok (.iload_n 2, 1) := by decide +kernel
theorem dX11_mend_16 : decode cX11_mend 16 = .ok (.iload_n 1, 1) := by decide +kernel
theorem dX11_mend_17 : decode cX11_mend 17 = .ok (.invokevirtual 122, 3) := by decide +kernel
theorem dX11_mend_20 : decode cX11_mend 20 = .ok (.ifCond .ne 5, 3) := by decide +kernel
theorem dX11_mend_23 : decode cX11_mend 23 = .ok (.iconst (-1), 1) := by decide +kernel
theorem dX11_mend_24 : decode cX11_mend 24 = .ok (.ireturn, 1) := by decide +kernel
theorem dX11_mend_25 : decode cX11_mend 25 = .ok (.aload_n 0, 1) := by decide +kernel
theorem dX11_mend_26 : decode cX11_mend 26 = .ok (.getfield 10, 3) := by decide +kernel
theorem dX11_mend_29 : decode cX11_mend 29 = .ok (.iload_n 1, 1) := by decide +kernel
theorem dX11_mend_30 : decode cX11_mend 30 = .ok (.invokevirtual 126, 3) := by decide +kernel
theorem dX11_mend_33 : decode cX11_mend 33 = .ok (.istore_n 3, 1) := by decide +kernel
theorem dX11_mend_34 : decode cX11_mend 34 = .ok (.iload_n 2, 1) := by decide +kernel
theorem dX11_mend_35 : decode cX11_mend 35 = .ok (.iload_n 3, 1) := by decide +kernel
theorem dX11_mend_36 : decode cX11_mend 36 = .ok (.if_icmp .eq 19, 3) := by decide +kernel
theorem dX11_mend_39 : decode cX11_mend 39 = .ok (.aload_n 0, 1) := by decide +kernel
theorem dX11_mend_40 : decode cX11_mend 40 = .ok (.getfield 51, 3) := by decide +kernel
theorem dX11_mend_43 : decode cX11_mend 43 = .ok (.iload_n 1, 1) := by decide +kernel
theorem dX11_mend_44 : decode cX11_mend 44 = .ok (.iload_n 3, 1) := by decide +kernel
theorem dX11_mend_45 : decode cX11_mend 45 = .ok (.iload_n 2, 1) := by decide +kernel
theorem dX11_mend_46 : decode cX11_mend 46 = .ok (.invokevirtual 129, 3) := by decide +kernel
theorem dX11_mend_49 : decode cX11_mend 49 = .ok (.aload_n 0, 1) := by decide +kernel
theorem dX11_mend_50 : decode cX11_mend 50 = .ok (.iload_n 1, 1) := by decide +kernel
theorem dX11_mend_51 : decode cX11_mend 51 = .ok (.iload_n 2, 1) := by decide +kernel
theorem dX11_mend_52 : decode cX11_mend 52 = .ok (.invokevirtual 133, 3) := by decide +kernel
theorem dX11_mend_55 : decode cX11_mend 55 = .ok (.iload_n 3, 1) := by decide +kernel
theorem dX11_mend_56 : decode cX11_mend 56 = .ok (.ireturn, 1) := by decide +kernel
theorem fl_X11_10 : Cond.fieldLink RX11 10 (TX11 0).1 (TX11 0).2.1 (TX11 0).2.2.1 ∈ wsL_law := (uw1 _ (List.mem_of_getElem? (i := 16) rfl))
theorem fl_X11_19 : Cond.fieldLink RX11 19 (TX11 1).1 (TX11 1).2.1 (TX11 1).2.2.1 ∈ wsL_law := (uw1 _ (List.mem_of_getElem? (i := 20) rfl))
theorem fl_X11_35 : Cond.fieldLink RX11 35 (TX11 3).1 (TX11 3).2.1 (TX11 3).2.2.1 ∈ wsL_law := (uw2 _ (List.mem_of_getElem? (i := 4) rfl))
theorem fl_X11_51 : Cond.fieldLink RX11 51 (TX11 5).1 (TX11 5).2.1 (TX11 5).2.2.1 ∈ wsL_law := (uw2 _ (List.mem_of_getElem? (i := 12) rfl))
theorem fl_X11_61 : Cond.fieldLink RX11 61 (TX11 8).1 (TX11 8).2.1 (TX11 8).2.2.1 ∈ wsL_law := (uw2 _ (List.mem_of_getElem? (i := 17) rfl))
theorem hy_X11_changeHeight : Cond.code yX11_changeHeight cX11_changeHeight 3 none ∈ wsL_law ∧ Cond.initialized yX11_changeHeight.cls ∈ wsL_law ∧ Cond.instanceMethod yX11_changeHeight ∈ wsL_law ∧ Cond.selects yX11_changeHeight.cls yX11_changeHeight yX11_changeHeight ∈ wsL_law := ⟨(uw13 _ (List.mem_of_getElem? (i := 20) rfl)), (uw1 _ (List.mem_of_getElem? (i := 2) rfl)), (uw13 _ (List.mem_of_getElem? (i := 18) rfl)), (uw13 _ (List.mem_of_getElem? (i := 19) rfl))⟩
theorem hd_X11_changeHeight : yX11_changeHeight.cls ≠ "java/lang/invoke/MethodHandle" ∧ yX11_changeHeight.cls ≠ "java/lang/invoke/VarHandle" ∧ (parseMethodDescriptor yX11_changeHeight.desc).map (fun d => d.parameters.length) = some 2 := ⟨by decide +kernel, by decide +kernel, by decide +kernel⟩
theorem hy_X11_person : Cond.code yX11_person cX11_person 3 (some .int) ∈ wsL_law ∧ Cond.initialized yX11_person.cls ∈ wsL_law ∧ Cond.instanceMethod yX11_person ∈ wsL_law ∧ Cond.selects yX11_person.cls yX11_person yX11_person ∈ wsL_law := ⟨(uw9 _ (List.mem_of_getElem? (i := 4) rfl)), (uw1 _ (List.mem_of_getElem? (i := 2) rfl)), (uw9 _ (List.mem_of_getElem? (i := 2) rfl)), (uw9 _ (List.mem_of_getElem? (i := 3) rfl))⟩
theorem hd_X11_person : yX11_person.cls ≠ "java/lang/invoke/MethodHandle" ∧ yX11_person.cls ≠ "java/lang/invoke/VarHandle" ∧ (parseMethodDescriptor yX11_person.desc).map (fun d => d.parameters.length) = some 1 := ⟨by decide +kernel, by decide +kernel, by decide +kernel⟩
theorem hy_X1_come : Cond.code yX1_come cX1_come 2 (some .int) ∈ wsL_law ∧ Cond.initialized yX1_come.cls ∈ wsL_law ∧ Cond.instanceMethod yX1_come ∈ wsL_law ∧ Cond.selects yX1_come.cls yX1_come yX1_come ∈ wsL_law := ⟨(uw9 _ (List.mem_of_getElem? (i := 8) rfl)), (uw1 _ (List.mem_of_getElem? (i := 15) rfl)), (uw9 _ (List.mem_of_getElem? (i := 6) rfl)), (uw9 _ (List.mem_of_getElem? (i := 7) rfl))⟩
theorem hd_X1_come : yX1_come.cls ≠ "java/lang/invoke/MethodHandle" ∧ yX1_come.cls ≠ "java/lang/invoke/VarHandle" ∧ (parseMethodDescriptor yX1_come.desc).map (fun d => d.parameters.length) = some 1 := ⟨by decide +kernel, by decide +kernel, by decide +kernel⟩
theorem hy_X1_setHeight : Cond.code yX1_setHeight cX1_setHeight 3 none ∈ wsL_law ∧ Cond.initialized yX1_setHeight.cls ∈ wsL_law ∧ Cond.instanceMethod yX1_setHeight ∈ wsL_law ∧ Cond.selects yX1_setHeight.cls yX1_setHeight yX1_setHeight ∈ wsL_law := ⟨(uw14 _ (List.mem_of_getElem? (i := 0) rfl)), (uw1 _ (List.mem_of_getElem? (i := 15) rfl)), (uw13 _ (List.mem_of_getElem? (i := 22) rfl)), (uw13 _ (List.mem_of_getElem? (i := 23) rfl))⟩
theorem hd_X1_setHeight : yX1_setHeight.cls ≠ "java/lang/invoke/MethodHandle" ∧ yX1_setHeight.cls ≠ "java/lang/invoke/VarHandle" ∧ (parseMethodDescriptor yX1_setHeight.desc).map (fun d => d.parameters.length) = some 2 := ⟨by decide +kernel, by decide +kernel, by decide +kernel⟩
theorem hy_X4_forgetAll : Cond.code yX4_forgetAll cX4_forgetAll 1 none ∈ wsL_law ∧ Cond.initialized yX4_forgetAll.cls ∈ wsL_law ∧ Cond.instanceMethod yX4_forgetAll ∈ wsL_law ∧ Cond.selects yX4_forgetAll.cls yX4_forgetAll yX4_forgetAll ∈ wsL_law := ⟨(uw14 _ (List.mem_of_getElem? (i := 4) rfl)), (uw2 _ (List.mem_of_getElem? (i := 3) rfl)), (uw14 _ (List.mem_of_getElem? (i := 2) rfl)), (uw14 _ (List.mem_of_getElem? (i := 3) rfl))⟩
theorem hd_X4_forgetAll : yX4_forgetAll.cls ≠ "java/lang/invoke/MethodHandle" ∧ yX4_forgetAll.cls ≠ "java/lang/invoke/VarHandle" ∧ (parseMethodDescriptor yX4_forgetAll.desc).map (fun d => d.parameters.length) = some 0 := ⟨by decide +kernel, by decide +kernel, by decide +kernel⟩
theorem hy_X8_add : Cond.code yX8_add cX8_add 4 none ∈ wsL_law ∧ Cond.initialized yX8_add.cls ∈ wsL_law ∧ Cond.instanceMethod yX8_add ∈ wsL_law ∧ Cond.selects yX8_add.cls yX8_add yX8_add ∈ wsL_law := ⟨(uw13 _ (List.mem_of_getElem? (i := 6) rfl)), (uw2 _ (List.mem_of_getElem? (i := 11) rfl)), (uw13 _ (List.mem_of_getElem? (i := 4) rfl)), (uw13 _ (List.mem_of_getElem? (i := 5) rfl))⟩
theorem hd_X8_add : yX8_add.cls ≠ "java/lang/invoke/MethodHandle" ∧ yX8_add.cls ≠ "java/lang/invoke/VarHandle" ∧ (parseMethodDescriptor yX8_add.desc).map (fun d => d.parameters.length) = some 3 := ⟨by decide +kernel, by decide +kernel, by decide +kernel⟩
theorem ml_X11_102 : Cond.methodLink RX11 102 yX9_isShelf ∈ wsL_law := (uw11 _ (List.mem_of_getElem? (i := 1) rfl))
theorem ml_X11_106 : Cond.methodLink RX11 106 yX9_refusalOfBytes ∈ wsL_law := (uw11 _ (List.mem_of_getElem? (i := 5) rfl))
theorem ml_X11_109 : Cond.methodLink RX11 109 yX9_sizeOf ∈ wsL_law := (uw11 _ (List.mem_of_getElem? (i := 18) rfl))
theorem ml_X11_112 : Cond.methodLink RX11 112 yX9_valueAt ∈ wsL_law := (uw11 _ (List.mem_of_getElem? (i := 22) rfl))
theorem ml_X11_116 : Cond.methodLink RX11 116 yX11_person ∈ wsL_law := (uw12 _ (List.mem_of_getElem? (i := 3) rfl))
theorem ml_X11_119 : Cond.methodLink RX11 119 yX1_isPerson ∈ wsL_law := (uw12 _ (List.mem_of_getElem? (i := 17) rfl))
theorem ml_X11_122 : Cond.methodLink RX11 122 yX1_isFree ∈ wsL_law := (uw12 _ (List.mem_of_getElem? (i := 21) rfl))
theorem ml_X11_126 : Cond.methodLink RX11 126 yX1_heightOf ∈ wsL_law := (uw12 _ (List.mem_of_getElem? (i := 22) rfl))
theorem ml_X11_129 : Cond.methodLink RX11 129 yX8_add ∈ wsL_law := (uw13 _ (List.mem_of_getElem? (i := 3) rfl))
theorem ml_X11_133 : Cond.methodLink RX11 133 yX11_changeHeight ∈ wsL_law := (uw13 _ (List.mem_of_getElem? (i := 17) rfl))
theorem ml_X11_152 : Cond.methodLink RX11 152 yX4_forgetAll ∈ wsL_law := (uw14 _ (List.mem_of_getElem? (i := 1) rfl))
theorem ml_X11_391 : Cond.methodLink RX11 391 yX1_setHeight ∈ wsL_law := (uw13 _ (List.mem_of_getElem? (i := 21) rfl))
theorem ml_X11_90 : Cond.methodLink RX11 90 yX1_come ∈ wsL_law := (uw9 _ (List.mem_of_getElem? (i := 5) rfl))
theorem ml_X11_94 : Cond.methodLink RX11 94 yX7_size ∈ wsL_law := (uw9 _ (List.mem_of_getElem? (i := 18) rfl))
theorem ml_X11_98 : Cond.methodLink RX11 98 yX7_insert ∈ wsL_law := (uw9 _ (List.mem_of_getElem? (i := 23) rfl))
abbrev w_T_person (G : zG) (a_this : Nat) (a_crowd : Nat) (a_queue : Nat) (a_text : Nat) (a_judge : Nat) (a_deeds : Nat) (a_mendings : Nat) (a_picture : Nat) (a_shelves : Nat) (a_books : Nat) (a_thoughts : Nat) (a_heads : Nat) (a_crowd_heights : Nat) (a_queue_who : Nat) (hasPicture : Int32) (crowd_people : Int32) (crowd_heights : Nat → Int32) (queue_length : Int32) (queue_who : Nat → Int32) : va_W := [(a_this, cO 11 [.ref a_crowd, .ref a_queue, .ref a_text, .ref a_judge, .ref a_deeds, .ref a_mendings, .ref a_picture, .int hasPicture, .ref a_shelves, .ref a_books, .ref a_thoughts, .ref a_heads]), (a_crowd, cO 1 [.ref a_crowd_heights, .int crowd_people]), (a_crowd_heights, cI G 9 crowd_heights), (a_queue, cO 7 [.ref a_queue_who, .int queue_length]), (a_queue_who, cI G 9 queue_who)]
def f_T_person (crowd_people : Int32) (crowd_heights : Nat → Int32) (queue_length : Int32) (queue_who : Nat → Int32) (x1 : Int32) : Option (Int32 × Int32 × (Nat → Int32) × Int32 × (Nat → Int32)) := (zb3 (f_Crowd_come crowd_people crowd_heights x1) fun r_1 crowd_people_2 crowd_heights_3 => (if r_1 < 0 then (some (r_1, crowd_people_2, crowd_heights_3, queue_length, queue_who)) else (zb2 (f_Line_insert queue_length queue_who r_1 (f_Line_size queue_length)) fun queue_length_6 queue_who_7 => (some (r_1, crowd_people_2, crowd_heights_3, queue_length_6, queue_who_7)))))
set_option maxRecDepth 100000 in
set_option maxHeartbeats 4000000 in
theorem c_T_person (l : Launch) (G : zG) (a_this : Nat) (a_crowd : Nat) (a_queue : Nat) (a_text : Nat) (a_judge : Nat) (a_deeds : Nat) (a_mendings : Nat) (a_picture : Nat) (a_shelves : Nat) (a_books : Nat) (a_thoughts : Nat) (a_heads : Nat) (a_crowd_heights : Nat) (a_queue_who : Nat) (hasPicture : Int32) (crowd_people : Int32) (crowd_heights : Nat → Int32) (queue_length : Int32) (queue_who : Nat → Int32) (x1 : Int32) (r_ : Int32) (o_crowd_people : Int32) (o_crowd_heights : Nat → Int32) (o_queue_length : Int32) (o_queue_who : Nat → Int32) (hf : f_T_person crowd_people crowd_heights queue_length queue_who x1 = some (r_, o_crowd_people, o_crowd_heights, o_queue_length, o_queue_who)) : zM l yX11_person cX11_person 3 (some .int) 3 66 G [.ref a_this, .int x1] (w_T_person G a_this a_crowd a_queue a_text a_judge a_deeds a_mendings a_picture a_shelves a_books a_thoughts a_heads a_crowd_heights a_queue_who hasPicture crowd_people crowd_heights queue_length queue_who) (some (.int r_)) (w_T_person G a_this a_crowd a_queue a_text a_judge a_deeds a_mendings a_picture a_shelves a_books a_thoughts a_heads a_crowd_heights a_queue_who hasPicture o_crowd_people o_crowd_heights o_queue_length o_queue_who) := by
  refine zM.of [(0, .ref a_this), (1, .int x1)] (own := RX11) rfl (by decide +kernel) (Nat.le_of_ble_eq_true rfl) rfl rfl fun X hX F => ?_
  subst hX
  replace hf := (f_T_person.eq_1 ..).symm.trans hf
  refine z_aload_n F 0 dX11_person_0 rfl rfl ?_
  refine z_get F 0 11 0 inlX11 rfl rfl (by decide) fl_X11_10 rfl dX11_person_1 ?_
  refine z_iload_n F 1 dX11_person_4 rfl rfl ?_
  obtain ⟨r_1, crowd_people_2, crowd_heights_3, hg, hf⟩ := zb3_some hf
  refine z_callVm (rest := []) F 1 (c_Crowd_come (xL X) G a_crowd a_crowd_heights crowd_people crowd_heights x1 r_1 crowd_people_2 crowd_heights_3 hg) hy_X1_come ml_X11_90 hd_X1_come ⟨by omega, by omega⟩ rfl [1, 2] rfl rfl 1 rfl rfl (w_T_person G a_this a_crowd a_queue a_text a_judge a_deeds a_mendings a_picture a_shelves a_books a_thoughts a_heads a_crowd_heights a_queue_who hasPicture crowd_people_2 crowd_heights_3 queue_length queue_who) [none, some 0, some 1, none, none] rfl (by decide +kernel) rfl rfl (Nat.le_of_ble_eq_true rfl) dX11_person_5 (fun hz_4 => ?_)
  refine z_istore_n F [(2, .int r_1), (0, .ref a_this), (1, .int x1)] dX11_person_8 rfl (by decide) rfl ?_
  refine z_iload_n F 0 dX11_person_9 rfl rfl ?_
  refine z_if_lt F 28 dX11_person_10 (by decide) hf (fun hf _ => ?_) (fun hf _ => ?_)
  · refine z_iload_n F 0 dX11_person_28 rfl rfl ?_
    have eq1 := Option.some.inj hf
    obtain ⟨ee1, eq2⟩ := Prod.mk.inj eq1
    obtain ⟨ee2, eq3⟩ := Prod.mk.inj eq2
    obtain ⟨ee3, eq4⟩ := Prod.mk.inj eq3
    obtain ⟨ee4, ee5⟩ := Prod.mk.inj eq4
    subst ee1
    subst ee2
    subst ee3
    subst ee4
    subst ee5
    exact z_iret F rfl rfl rfl rfl dX11_person_29
  · refine z_aload_n F 1 dX11_person_13 rfl rfl ?_
    refine z_get F 0 11 1 inlX11 rfl rfl (by decide) fl_X11_19 rfl dX11_person_14 ?_
    refine z_iload_n F 0 dX11_person_17 rfl rfl ?_
    refine z_aload_n F 1 dX11_person_18 rfl rfl ?_
    refine z_get F 0 11 1 inlX11 rfl rfl (by decide) fl_X11_19 rfl dX11_person_19 ?_
    refine z_callVm (rest := [.int r_1, .ref a_queue]) F 7 (c_Line_size (xL X) G a_queue a_queue_who queue_length _ rfl) hy_X7_size ml_X11_94 hd_X7_size ⟨by omega, by omega⟩ rfl [3] rfl rfl 3 rfl rfl (w_T_person G a_this a_crowd a_queue a_text a_judge a_deeds a_mendings a_picture a_shelves a_books a_thoughts a_heads a_crowd_heights a_queue_who hasPicture crowd_people_2 crowd_heights_3 queue_length queue_who) [none, none, none, some 0, none] rfl (by decide +kernel) rfl rfl (Nat.le_of_ble_eq_true rfl) dX11_person_22 (fun hz_5 => ?_)
    obtain ⟨queue_length_6, queue_who_7, hg, hf⟩ := zb2_some hf
    refine z_callVm (rest := []) F 7 (c_Line_insert (xL X) G a_queue a_queue_who queue_length queue_who r_1 (f_Line_size queue_length) queue_length_6 queue_who_7 hg) hy_X7_insert ml_X11_98 hd_X7_insert ⟨by omega, by omega⟩ rfl [3, 4] rfl rfl 3 rfl rfl (w_T_person G a_this a_crowd a_queue a_text a_judge a_deeds a_mendings a_picture a_shelves a_books a_thoughts a_heads a_crowd_heights a_queue_who hasPicture crowd_people_2 crowd_heights_3 queue_length_6 queue_who_7) [none, none, none, some 0, some 1] rfl (by decide +kernel) rfl rfl (Nat.le_of_ble_eq_true rfl) dX11_person_25 (fun hz_8 => ?_)
    refine z_iload_n F 0 dX11_person_28 rfl rfl ?_
    have eq1 := Option.some.inj hf
    obtain ⟨ee1, eq2⟩ := Prod.mk.inj eq1
    obtain ⟨ee2, eq3⟩ := Prod.mk.inj eq2
    obtain ⟨ee3, eq4⟩ := Prod.mk.inj eq3
    obtain ⟨ee4, ee5⟩ := Prod.mk.inj eq4
    subst ee1
    subst ee2
    subst ee3
    subst ee4
    subst ee5
    exact z_iret F rfl rfl rfl rfl dX11_person_29

abbrev w_T_people (G : zG) (a_this : Nat) (a_crowd : Nat) (a_queue : Nat) (a_text : Nat) (a_judge : Nat) (a_deeds : Nat) (a_mendings : Nat) (a_picture : Nat) (a_shelves : Nat) (a_books : Nat) (a_thoughts : Nat) (a_heads : Nat) (a_crowd_heights : Nat) (a_queue_who : Nat) (a_shelves_sorts : Nat) (a_shelves_sizes : Nat) (a_shelves_held : Nat) (a_shelves_elements : Nat) (a_shelves_elements_e : Nat → Nat) (hasPicture : Int32) (crowd_people : Int32) (crowd_heights : Nat → Int32) (queue_length : Int32) (queue_who : Nat → Int32) (shelves_sorts : Nat → Int32) (shelves_sizes : Nat → Int32) (shelves_elements_e : Nat → (Nat → Int64)) : va_W := [(a_this, cO 11 [.ref a_crowd, .ref a_queue, .ref a_text, .ref a_judge, .ref a_deeds, .ref a_mendings, .ref a_picture, .int hasPicture, .ref a_shelves, .ref a_books, .ref a_thoughts, .ref a_heads]), (a_crowd, cO 1 [.ref a_crowd_heights, .int crowd_people]), (a_crowd_heights, cI G 9 crowd_heights), (a_queue, cO 7 [.ref a_queue_who, .int queue_length]), (a_queue_who, cI G 9 queue_who), (a_shelves, cO 9 [.ref a_shelves_sorts, .ref a_shelves_sizes, .ref a_shelves_held, .ref a_shelves_elements]), (a_shelves_sorts, cI G 6 shelves_sorts), (a_shelves_sizes, cI G 6 shelves_sizes), (a_shelves_elements, cJJ G 6 (fun j => some (a_shelves_elements_e j))), ((a_shelves_elements_e 0), cJ G 60 (shelves_elements_e 0)), ((a_shelves_elements_e 1), cJ G 60 (shelves_elements_e 1)), ((a_shelves_elements_e 2), cJ G 60 (shelves_elements_e 2)), ((a_shelves_elements_e 3), cJ G 60 (shelves_elements_e 3)), ((a_shelves_elements_e 4), cJ G 60 (shelves_elements_e 4)), ((a_shelves_elements_e 5), cJ G 60 (shelves_elements_e 5))]
def f_T_people_L61 (shelves_sizes : Nat → Int32) (shelves_elements_e : Nat → (Nat → Int64)) (v1 : Int32) (v3 : Int32) : Nat → Int32 → (Nat → Int32) → Int32 → (Nat → Int32) → Int32 → Int32 → Option (Int32 × (Nat → Int32) × Int32 × (Nat → Int32) × Int32)
  | 0, _, _, _, _, _, _ => none
  | fuel + 1, crowd_people, crowd_heights, queue_length, queue_who, v5, v6 => (zb1 (f_Shelves_sizeOf shelves_sizes v1) fun r_4 => (if r_4 ≤ v6 then (some (crowd_people, crowd_heights, queue_length, queue_who, v5)) else (if v3 ≤ v5 then (some (crowd_people, crowd_heights, queue_length, queue_who, v5)) else (zb1 (f_Shelves_valueAt shelves_sizes shelves_elements_e v1 v6) fun r_6 => (zb5 (f_T_person crowd_people crowd_heights queue_length queue_who (Int64.toInt32 r_6)) fun r_8 crowd_people_9 crowd_heights_10 queue_length_11 queue_who_12 => (if (0 : Int32) ≤ r_8 then (f_T_people_L61 shelves_sizes shelves_elements_e v1 v3 fuel crowd_people_9 crowd_heights_10 queue_length_11 queue_who_12 (v5 + 1) (v6 + 1)) else (some (crowd_people_9, crowd_heights_10, queue_length_11, queue_who_12, v5))))))))
def f_T_people (crowd_people : Int32) (crowd_heights : Nat → Int32) (queue_length : Int32) (queue_who : Nat → Int32) (shelves_sorts : Nat → Int32) (shelves_sizes : Nat → Int32) (shelves_elements_e : Nat → (Nat → Int64)) (x1 : Int32) (x2 : Int32) (x3 : Int32) : Option (Int32 × Int32 × (Nat → Int32) × Int32 × (Nat → Int32)) := (if (f_Shelves_isShelf x1) = 0 then (some ((-1), crowd_people, crowd_heights, queue_length, queue_who)) else (if x3 < 1 then (some ((-1), crowd_people, crowd_heights, queue_length, queue_who)) else (if x3 ≤ 9 then (zb1 (f_Shelves_refusalOfBytes shelves_sorts x1) fun r_2 => (if r_2 = (-12) then (some (r_2, crowd_people, crowd_heights, queue_length, queue_who)) else (if r_2 = 0 then (if (0 : Int32) ≤ x2 then (zb5 (f_T_people_L61 shelves_sizes shelves_elements_e x1 x3 FU crowd_people crowd_heights queue_length queue_who 0 x2) fun crowd_people_14 crowd_heights_15 queue_length_16 queue_who_17 v5_18 => (some (v5_18, crowd_people_14, crowd_heights_15, queue_length_16, queue_who_17))) else (some (0, crowd_people, crowd_heights, queue_length, queue_who))) else (some (0, crowd_people, crowd_heights, queue_length, queue_who))))) else (some ((-1), crowd_people, crowd_heights, queue_length, queue_who)))))
set_option maxRecDepth 100000 in
set_option maxHeartbeats 4000000 in
theorem l_T_people_61 {X : zX} (G : zG) (a_this : Nat) (a_crowd : Nat) (a_queue : Nat) (a_text : Nat) (a_judge : Nat) (a_deeds : Nat) (a_mendings : Nat) (a_picture : Nat) (a_shelves : Nat) (a_books : Nat) (a_thoughts : Nat) (a_heads : Nat) (a_crowd_heights : Nat) (a_queue_who : Nat) (a_shelves_sorts : Nat) (a_shelves_sizes : Nat) (a_shelves_held : Nat) (a_shelves_elements : Nat) (a_shelves_elements_e : Nat → Nat) (hasPicture : Int32) (shelves_sorts : Nat → Int32) (shelves_sizes : Nat → Int32) (shelves_elements_e : Nat → (Nat → Int64)) (v1 : Int32) (v3 : Int32) {v0 : Option Value} {w0 : va_W} (F : zF X G cX11_people RX11 7 (some .int) 4 88 v0 w0) (e_crowd_people : Int32) (e_crowd_heights : Nat → Int32) (e_queue_length : Int32) (e_queue_who : Nat → Int32) (e_v5 : Int32) (hk : Z X G 7 (w_T_people G a_this a_crowd a_queue a_text a_judge a_deeds a_mendings a_picture a_shelves a_books a_thoughts a_heads a_crowd_heights a_queue_who a_shelves_sorts a_shelves_sizes a_shelves_held a_shelves_elements a_shelves_elements_e hasPicture e_crowd_people e_crowd_heights e_queue_length e_queue_who shelves_sorts shelves_sizes shelves_elements_e) [(5, .int e_v5)] 110 []) :
    ∀ (fuel : Nat) (crowd_people : Int32) (crowd_heights : Nat → Int32) (queue_length : Int32) (queue_who : Nat → Int32) (v5 : Int32) (v6 : Int32), f_T_people_L61 shelves_sizes shelves_elements_e v1 v3 fuel crowd_people crowd_heights queue_length queue_who v5 v6 = some (e_crowd_people, e_crowd_heights, e_queue_length, e_queue_who, e_v5) → Z X G 7 (w_T_people G a_this a_crowd a_queue a_text a_judge a_deeds a_mendings a_picture a_shelves a_books a_thoughts a_heads a_crowd_heights a_queue_who a_shelves_sorts a_shelves_sizes a_shelves_held a_shelves_elements a_shelves_elements_e hasPicture crowd_people crowd_heights queue_length queue_who shelves_sorts shelves_sizes shelves_elements_e) [(0, .ref a_this), (1, .int v1), (3, .int v3), (5, .int v5), (6, .int v6)] 61 [] := by
  intro fuel
  induction fuel with
  | zero => intro crowd_people crowd_heights queue_length queue_who v5 v6 hf; exact absurd ((f_T_people_L61.eq_1 ..).symm.trans hf) (fun h => by cases h)
  | succ fuel ih =>
    intro crowd_people crowd_heights queue_length queue_who v5 v6 hf
    replace hf := (f_T_people_L61.eq_2 ..).symm.trans hf
    refine z_iload F 4 dX11_people_61 rfl ?_
    refine z_aload_n F 0 dX11_people_63 rfl rfl ?_
    refine z_get F 0 11 8 inlX11 rfl rfl (by decide) fl_X11_61 rfl dX11_people_64 ?_
    refine z_iload_n F 1 dX11_people_67 rfl rfl ?_
    obtain ⟨r_4, hg, hf⟩ := zb1_some hf
    refine z_callVm (rest := [.int v6]) F 9 (c_Shelves_sizeOf (xL X) G a_shelves a_shelves_sorts a_shelves_sizes a_shelves_held a_shelves_elements shelves_sizes v1 r_4 hg) hy_X9_sizeOf ml_X11_109 hd_X9_sizeOf ⟨by omega, by omega⟩ rfl [5, 7] rfl rfl 5 rfl rfl (w_T_people G a_this a_crowd a_queue a_text a_judge a_deeds a_mendings a_picture a_shelves a_books a_thoughts a_heads a_crowd_heights a_queue_who a_shelves_sorts a_shelves_sizes a_shelves_held a_shelves_elements a_shelves_elements_e hasPicture crowd_people crowd_heights queue_length queue_who shelves_sorts shelves_sizes shelves_elements_e) [none, none, none, none, none, some 0, none, some 1, none, none, none, none, none, none, none] rfl (by decide +kernel) rfl rfl (Nat.le_of_ble_eq_true rfl) dX11_people_68 (fun hz_5 => ?_)
    refine z_icmp_ge F 110 dX11_people_71 (by decide) hf (fun hf _ => ?_) (fun hf _ => ?_)
    · have eq1 := Option.some.inj hf
      obtain ⟨ee1, eq2⟩ := Prod.mk.inj eq1
      obtain ⟨ee2, eq3⟩ := Prod.mk.inj eq2
      obtain ⟨ee3, eq4⟩ := Prod.mk.inj eq3
      obtain ⟨ee4, ee5⟩ := Prod.mk.inj eq4
      subst ee1
      subst ee2
      subst ee3
      subst ee4
      subst ee5
      exact z_sub [3] rfl hk
    · refine z_iload F 3 dX11_people_74 rfl ?_
      refine z_iload_n F 2 dX11_people_76 rfl rfl ?_
      refine z_icmp_ge F 110 dX11_people_77 (by decide) hf (fun hf _ => ?_) (fun hf _ => ?_)
      · have eq1 := Option.some.inj hf
        obtain ⟨ee1, eq2⟩ := Prod.mk.inj eq1
        obtain ⟨ee2, eq3⟩ := Prod.mk.inj eq2
        obtain ⟨ee3, eq4⟩ := Prod.mk.inj eq3
        obtain ⟨ee4, ee5⟩ := Prod.mk.inj eq4
        subst ee1
        subst ee2
        subst ee3
        subst ee4
        subst ee5
        exact z_sub [3] rfl hk
      · refine z_aload_n F 0 dX11_people_80 rfl rfl ?_
        refine z_aload_n F 0 dX11_people_81 rfl rfl ?_
        refine z_get F 0 11 8 inlX11 rfl rfl (by decide) fl_X11_61 rfl dX11_people_82 ?_
        refine z_iload_n F 1 dX11_people_85 rfl rfl ?_
        refine z_iload F 4 dX11_people_86 rfl ?_
        obtain ⟨r_6, hg, hf⟩ := zb1_some hf
        refine z_callVm (rest := [.ref a_this]) F 9 (c_Shelves_valueAt (xL X) G a_shelves a_shelves_sorts a_shelves_sizes a_shelves_held a_shelves_elements a_shelves_elements_e shelves_sizes shelves_elements_e v1 v6 r_6 hg) hy_X9_valueAt ml_X11_112 hd_X9_valueAt ⟨by omega, by omega⟩ rfl [5, 7, 8, 9, 10, 11, 12, 13, 14] rfl rfl 5 rfl rfl (w_T_people G a_this a_crowd a_queue a_text a_judge a_deeds a_mendings a_picture a_shelves a_books a_thoughts a_heads a_crowd_heights a_queue_who a_shelves_sorts a_shelves_sizes a_shelves_held a_shelves_elements a_shelves_elements_e hasPicture crowd_people crowd_heights queue_length queue_who shelves_sorts shelves_sizes shelves_elements_e) [none, none, none, none, none, some 0, none, some 1, some 2, some 3, some 4, some 5, some 6, some 7, some 8] rfl (by decide +kernel) rfl rfl (Nat.le_of_ble_eq_true rfl) dX11_people_88 (fun hz_7 => ?_)
        refine z_l2i F dX11_people_91 ?_
        obtain ⟨r_8, crowd_people_9, crowd_heights_10, queue_length_11, queue_who_12, hg, hf⟩ := zb5_some hf
        refine z_callVm (rest := []) F 11 (c_T_person (xL X) G a_this a_crowd a_queue a_text a_judge a_deeds a_mendings a_picture a_shelves a_books a_thoughts a_heads a_crowd_heights a_queue_who hasPicture crowd_people crowd_heights queue_length queue_who (Int64.toInt32 r_6) r_8 crowd_people_9 crowd_heights_10 queue_length_11 queue_who_12 hg) hy_X11_person ml_X11_116 hd_X11_person ⟨by omega, by omega⟩ rfl [0, 1, 2, 3, 4] rfl rfl 0 rfl rfl (w_T_people G a_this a_crowd a_queue a_text a_judge a_deeds a_mendings a_picture a_shelves a_books a_thoughts a_heads a_crowd_heights a_queue_who a_shelves_sorts a_shelves_sizes a_shelves_held a_shelves_elements a_shelves_elements_e hasPicture crowd_people_9 crowd_heights_10 queue_length_11 queue_who_12 shelves_sorts shelves_sizes shelves_elements_e) [some 0, some 1, some 2, some 3, some 4, none, none, none, none, none, none, none, none, none, none] rfl (by decide +kernel) rfl rfl (Nat.le_of_ble_eq_true rfl) dX11_people_92 (fun hz_13 => ?_)
        refine z_if_ge F 101 dX11_people_95 (by decide) hf (fun hf _ => ?_) (fun hf _ => ?_)
        · refine z_iinc F [(5, .int (v5 + 1)), (0, .ref a_this), (1, .int v1), (3, .int v3), (6, .int v6)] dX11_people_101 3 rfl rfl (by decide) rfl ?_
          refine z_iinc F [(6, .int (v6 + 1)), (5, .int (v5 + 1)), (0, .ref a_this), (1, .int v1), (3, .int v3)] dX11_people_104 4 rfl rfl (by decide) rfl ?_
          refine z_goto F 61 dX11_people_107 (by decide) ?_
          exact z_sub [2, 3, 4, 1, 0] rfl (ih crowd_people_9 crowd_heights_10 queue_length_11 queue_who_12 (v5 + 1) (v6 + 1) hf)
        · refine z_goto F 110 dX11_people_98 (by decide) ?_
          have eq1 := Option.some.inj hf
          obtain ⟨ee1, eq2⟩ := Prod.mk.inj eq1
          obtain ⟨ee2, eq3⟩ := Prod.mk.inj eq2
          obtain ⟨ee3, eq4⟩ := Prod.mk.inj eq3
          obtain ⟨ee4, ee5⟩ := Prod.mk.inj eq4
          subst ee1
          subst ee2
          subst ee3
          subst ee4
          subst ee5
          exact z_sub [3] rfl hk

set_option maxRecDepth 100000 in
set_option maxHeartbeats 4000000 in
theorem c_T_people (l : Launch) (G : zG) (a_this : Nat) (a_crowd : Nat) (a_queue : Nat) (a_text : Nat) (a_judge : Nat) (a_deeds : Nat) (a_mendings : Nat) (a_picture : Nat) (a_shelves : Nat) (a_books : Nat) (a_thoughts : Nat) (a_heads : Nat) (a_crowd_heights : Nat) (a_queue_who : Nat) (a_shelves_sorts : Nat) (a_shelves_sizes : Nat) (a_shelves_held : Nat) (a_shelves_elements : Nat) (a_shelves_elements_e : Nat → Nat) (hasPicture : Int32) (crowd_people : Int32) (crowd_heights : Nat → Int32) (queue_length : Int32) (queue_who : Nat → Int32) (shelves_sorts : Nat → Int32) (shelves_sizes : Nat → Int32) (shelves_elements_e : Nat → (Nat → Int64)) (x1 : Int32) (x2 : Int32) (x3 : Int32) (r_ : Int32) (o_crowd_people : Int32) (o_crowd_heights : Nat → Int32) (o_queue_length : Int32) (o_queue_who : Nat → Int32) (hf : f_T_people crowd_people crowd_heights queue_length queue_who shelves_sorts shelves_sizes shelves_elements_e x1 x2 x3 = some (r_, o_crowd_people, o_crowd_heights, o_queue_length, o_queue_who)) : zM l yX11_people cX11_people 7 (some .int) 4 88 G [.ref a_this, .int x1, .int x2, .int x3] (w_T_people G a_this a_crowd a_queue a_text a_judge a_deeds a_mendings a_picture a_shelves a_books a_thoughts a_heads a_crowd_heights a_queue_who a_shelves_sorts a_shelves_sizes a_shelves_held a_shelves_elements a_shelves_elements_e hasPicture crowd_people crowd_heights queue_length queue_who shelves_sorts shelves_sizes shelves_elements_e) (some (.int r_)) (w_T_people G a_this a_crowd a_queue a_text a_judge a_deeds a_mendings a_picture a_shelves a_books a_thoughts a_heads a_crowd_heights a_queue_who a_shelves_sorts a_shelves_sizes a_shelves_held a_shelves_elements a_shelves_elements_e hasPicture o_crowd_people o_crowd_heights o_queue_length o_queue_who shelves_sorts shelves_sizes shelves_elements_e) := by
  refine zM.of [(0, .ref a_this), (1, .int x1), (2, .int x2), (3, .int x3)] (own := RX11) rfl (by decide +kernel) (Nat.le_of_ble_eq_true rfl) rfl rfl fun X hX F => ?_
  subst hX
  replace hf := (f_T_people.eq_1 ..).symm.trans hf
  refine z_aload_n F 0 dX11_people_0 rfl rfl ?_
  refine z_get F 0 11 8 inlX11 rfl rfl (by decide) fl_X11_61 rfl dX11_people_1 ?_
  refine z_iload_n F 1 dX11_people_4 rfl rfl ?_
  refine z_callVm (rest := []) F 9 (c_Shelves_isShelf (xL X) G a_shelves a_shelves_sorts a_shelves_sizes a_shelves_held a_shelves_elements x1 _ rfl) hy_X9_isShelf ml_X11_102 hd_X9_isShelf ⟨by omega, by omega⟩ rfl [5] rfl rfl 5 rfl rfl (w_T_people G a_this a_crowd a_queue a_text a_judge a_deeds a_mendings a_picture a_shelves a_books a_thoughts a_heads a_crowd_heights a_queue_who a_shelves_sorts a_shelves_sizes a_shelves_held a_shelves_elements a_shelves_elements_e hasPicture crowd_people crowd_heights queue_length queue_who shelves_sorts shelves_sizes shelves_elements_e) [none, none, none, none, none, some 0, none, none, none, none, none, none, none, none, none] rfl (by decide +kernel) rfl rfl (Nat.le_of_ble_eq_true rfl) dX11_people_5 (fun hz_1 => ?_)
  refine z_if_eq F 22 dX11_people_8 (by decide) hf (fun hf _ => ?_) (fun hf _ => ?_)
  · refine z_iconst F (-1) dX11_people_22 rfl ?_
    have eq1 := Option.some.inj hf
    obtain ⟨ee1, eq2⟩ := Prod.mk.inj eq1
    obtain ⟨ee2, eq3⟩ := Prod.mk.inj eq2
    obtain ⟨ee3, eq4⟩ := Prod.mk.inj eq3
    obtain ⟨ee4, ee5⟩ := Prod.mk.inj eq4
    subst ee1
    subst ee2
    subst ee3
    subst ee4
    subst ee5
    exact z_iret F rfl rfl rfl rfl dX11_people_23
  · refine z_iload_n F 3 dX11_people_11 rfl rfl ?_
    refine z_iconst F (1) dX11_people_12 rfl ?_
    refine z_icmp_lt F 22 dX11_people_13 (by decide) hf (fun hf _ => ?_) (fun hf _ => ?_)
    · refine z_iconst F (-1) dX11_people_22 rfl ?_
      have eq1 := Option.some.inj hf
      obtain ⟨ee1, eq2⟩ := Prod.mk.inj eq1
      obtain ⟨ee2, eq3⟩ := Prod.mk.inj eq2
      obtain ⟨ee3, eq4⟩ := Prod.mk.inj eq3
      obtain ⟨ee4, ee5⟩ := Prod.mk.inj eq4
      subst ee1
      subst ee2
      subst ee3
      subst ee4
      subst ee5
      exact z_iret F rfl rfl rfl rfl dX11_people_23
    · refine z_iload_n F 3 dX11_people_16 rfl rfl ?_
      refine z_bipush F (9) dX11_people_17 rfl ?_
      refine z_icmp_le F 24 dX11_people_19 (by decide) hf (fun hf _ => ?_) (fun hf _ => ?_)
      · refine z_aload_n F 0 dX11_people_24 rfl rfl ?_
        refine z_get F 0 11 8 inlX11 rfl rfl (by decide) fl_X11_61 rfl dX11_people_25 ?_
        refine z_iload_n F 1 dX11_people_28 rfl rfl ?_
        obtain ⟨r_2, hg, hf⟩ := zb1_some hf
        refine z_callVm (rest := []) F 9 (c_Shelves_refusalOfBytes (xL X) G a_shelves a_shelves_sorts a_shelves_sizes a_shelves_held a_shelves_elements shelves_sorts x1 r_2 hg) hy_X9_refusalOfBytes ml_X11_106 hd_X9_refusalOfBytes ⟨by omega, by omega⟩ rfl [5, 6] rfl rfl 5 rfl rfl (w_T_people G a_this a_crowd a_queue a_text a_judge a_deeds a_mendings a_picture a_shelves a_books a_thoughts a_heads a_crowd_heights a_queue_who a_shelves_sorts a_shelves_sizes a_shelves_held a_shelves_elements a_shelves_elements_e hasPicture crowd_people crowd_heights queue_length queue_who shelves_sorts shelves_sizes shelves_elements_e) [none, none, none, none, none, some 0, some 1, none, none, none, none, none, none, none, none] rfl (by decide +kernel) rfl rfl (Nat.le_of_ble_eq_true rfl) dX11_people_29 (fun hz_3 => ?_)
        refine z_istore F [(4, .int r_2), (0, .ref a_this), (1, .int x1), (2, .int x2), (3, .int x3)] dX11_people_32 (by decide) rfl ?_
        refine z_iload F 0 dX11_people_34 rfl ?_
        refine z_bipush F (-12) dX11_people_36 rfl ?_
        refine z_icmp_ne F 44 dX11_people_38 (by decide) hf (fun hf _ => ?_) (fun hf _ => ?_)
        · refine z_iload F 0 dX11_people_44 rfl ?_
          refine z_if_ne F 53 dX11_people_46 (by decide) hf (fun hf _ => ?_) (fun hf _ => ?_)
          · refine z_iconst F (0) dX11_people_53 rfl ?_
            have eq1 := Option.some.inj hf
            obtain ⟨ee1, eq2⟩ := Prod.mk.inj eq1
            obtain ⟨ee2, eq3⟩ := Prod.mk.inj eq2
            obtain ⟨ee3, eq4⟩ := Prod.mk.inj eq3
            obtain ⟨ee4, ee5⟩ := Prod.mk.inj eq4
            subst ee1
            subst ee2
            subst ee3
            subst ee4
            subst ee5
            exact z_iret F rfl rfl rfl rfl dX11_people_54
          · refine z_iload_n F 3 dX11_people_49 rfl rfl ?_
            refine z_if_ge F 55 dX11_people_50 (by decide) hf (fun hf _ => ?_) (fun hf _ => ?_)
            · refine z_iconst F (0) dX11_people_55 rfl ?_
              refine z_istore F [(5, .int 0), (4, .int r_2), (0, .ref a_this), (1, .int x1), (2, .int x2), (3, .int x3)] dX11_people_56 (by decide) rfl ?_
              refine z_iload_n F 4 dX11_people_58 rfl rfl ?_
              refine z_istore F [(6, .int x2), (5, .int 0), (4, .int r_2), (0, .ref a_this), (1, .int x1), (2, .int x2), (3, .int x3)] dX11_people_59 (by decide) rfl ?_
              obtain ⟨crowd_people_14, crowd_heights_15, queue_length_16, queue_who_17, v5_18, hg, hf⟩ := zb5_some hf
              refine z_sub [3, 4, 6, 1, 0] rfl ?_
              refine l_T_people_61 G a_this a_crowd a_queue a_text a_judge a_deeds a_mendings a_picture a_shelves a_books a_thoughts a_heads a_crowd_heights a_queue_who a_shelves_sorts a_shelves_sizes a_shelves_held a_shelves_elements a_shelves_elements_e hasPicture shelves_sorts shelves_sizes shelves_elements_e x1 x3 F crowd_people_14 crowd_heights_15 queue_length_16 queue_who_17 v5_18 ?_ FU crowd_people crowd_heights queue_length queue_who 0 x2 hg
              refine z_iload F 0 dX11_people_110 rfl ?_
              have eq1 := Option.some.inj hf
              obtain ⟨ee1, eq2⟩ := Prod.mk.inj eq1
              obtain ⟨ee2, eq3⟩ := Prod.mk.inj eq2
              obtain ⟨ee3, eq4⟩ := Prod.mk.inj eq3
              obtain ⟨ee4, ee5⟩ := Prod.mk.inj eq4
              subst ee1
              subst ee2
              subst ee3
              subst ee4
              subst ee5
              exact z_iret F rfl rfl rfl rfl dX11_people_112
            · refine z_iconst F (0) dX11_people_53 rfl ?_
              have eq1 := Option.some.inj hf
              obtain ⟨ee1, eq2⟩ := Prod.mk.inj eq1
              obtain ⟨ee2, eq3⟩ := Prod.mk.inj eq2
              obtain ⟨ee3, eq4⟩ := Prod.mk.inj eq3
              obtain ⟨ee4, ee5⟩ := Prod.mk.inj eq4
              subst ee1
              subst ee2
              subst ee3
              subst ee4
              subst ee5
              exact z_iret F rfl rfl rfl rfl dX11_people_54
        · refine z_iload F 0 dX11_people_41 rfl ?_
          have eq1 := Option.some.inj hf
          obtain ⟨ee1, eq2⟩ := Prod.mk.inj eq1
          obtain ⟨ee2, eq3⟩ := Prod.mk.inj eq2
          obtain ⟨ee3, eq4⟩ := Prod.mk.inj eq3
          obtain ⟨ee4, ee5⟩ := Prod.mk.inj eq4
          subst ee1
          subst ee2
          subst ee3
          subst ee4
          subst ee5
          exact z_iret F rfl rfl rfl rfl dX11_people_43
      · refine z_iconst F (-1) dX11_people_22 rfl ?_
        have eq1 := Option.some.inj hf
        obtain ⟨ee1, eq2⟩ := Prod.mk.inj eq1
        obtain ⟨ee2, eq3⟩ := Prod.mk.inj eq2
        obtain ⟨ee3, eq4⟩ := Prod.mk.inj eq3
        obtain ⟨ee4, ee5⟩ := Prod.mk.inj eq4
        subst ee1
        subst ee2
        subst ee3
        subst ee4
        subst ee5
        exact z_iret F rfl rfl rfl rfl dX11_people_23

abbrev w_T_changeHeight (G : zG) (a_this : Nat) (a_crowd : Nat) (a_queue : Nat) (a_text : Nat) (a_judge : Nat) (a_deeds : Nat) (a_mendings : Nat) (a_picture : Nat) (a_shelves : Nat) (a_books : Nat) (a_thoughts : Nat) (a_heads : Nat) (a_crowd_heights : Nat) (a_judge_known : Nat) (hasPicture : Int32) (crowd_people : Int32) (crowd_heights : Nat → Int32) (judge_known : Nat → Int32) : va_W := [(a_this, cO 11 [.ref a_crowd, .ref a_queue, .ref a_text, .ref a_judge, .ref a_deeds, .ref a_mendings, .ref a_picture, .int hasPicture, .ref a_shelves, .ref a_books, .ref a_thoughts, .ref a_heads]), (a_crowd, cO 1 [.ref a_crowd_heights, .int crowd_people]), (a_crowd_heights, cI G 9 crowd_heights), (a_judge, cO 4 [.ref a_crowd, .ref a_text, .ref a_judge_known]), (a_judge_known, cB G 729 judge_known)]
def f_T_changeHeight (crowd_people : Int32) (crowd_heights : Nat → Int32) (judge_known : Nat → Int32) (x1 : Int32) (x2 : Int32) : Option ((Nat → Int32) × (Nat → Int32)) := (zb1 (f_Crowd_setHeight crowd_people crowd_heights x1 x2) fun crowd_heights_1 => (zb1 (f_Judge_forgetAll judge_known) fun judge_known_3 => (some (crowd_heights_1, judge_known_3))))
set_option maxRecDepth 100000 in
set_option maxHeartbeats 4000000 in
theorem c_T_changeHeight (l : Launch) (G : zG) (a_this : Nat) (a_crowd : Nat) (a_queue : Nat) (a_text : Nat) (a_judge : Nat) (a_deeds : Nat) (a_mendings : Nat) (a_picture : Nat) (a_shelves : Nat) (a_books : Nat) (a_thoughts : Nat) (a_heads : Nat) (a_crowd_heights : Nat) (a_judge_known : Nat) (hasPicture : Int32) (crowd_people : Int32) (crowd_heights : Nat → Int32) (judge_known : Nat → Int32) (x1 : Int32) (x2 : Int32) (o_crowd_heights : Nat → Int32) (o_judge_known : Nat → Int32) (hf : f_T_changeHeight crowd_people crowd_heights judge_known x1 x2 = some (o_crowd_heights, o_judge_known)) : zM l yX11_changeHeight cX11_changeHeight 3 none 2 43 G [.ref a_this, .int x1, .int x2] (w_T_changeHeight G a_this a_crowd a_queue a_text a_judge a_deeds a_mendings a_picture a_shelves a_books a_thoughts a_heads a_crowd_heights a_judge_known hasPicture crowd_people crowd_heights judge_known) (none) (w_T_changeHeight G a_this a_crowd a_queue a_text a_judge a_deeds a_mendings a_picture a_shelves a_books a_thoughts a_heads a_crowd_heights a_judge_known hasPicture crowd_people o_crowd_heights o_judge_known) := by
  refine zM.of [(0, .ref a_this), (1, .int x1), (2, .int x2)] (own := RX11) rfl (by decide +kernel) (Nat.le_of_ble_eq_true rfl) rfl rfl fun X hX F => ?_
  subst hX
  replace hf := (f_T_changeHeight.eq_1 ..).symm.trans hf
  refine z_aload_n F 0 dX11_changeHeight_0 rfl rfl ?_
  refine z_get F 0 11 0 inlX11 rfl rfl (by decide) fl_X11_10 rfl dX11_changeHeight_1 ?_
  refine z_iload_n F 1 dX11_changeHeight_4 rfl rfl ?_
  refine z_iload_n F 2 dX11_changeHeight_5 rfl rfl ?_
  obtain ⟨crowd_heights_1, hg, hf⟩ := zb1_some hf
  refine z_callVm (rest := []) F 1 (c_Crowd_setHeight (xL X) G a_crowd a_crowd_heights crowd_people crowd_heights x1 x2 crowd_heights_1 hg) hy_X1_setHeight ml_X11_391 hd_X1_setHeight ⟨by omega, by omega⟩ rfl [1, 2] rfl rfl 1 rfl rfl (w_T_changeHeight G a_this a_crowd a_queue a_text a_judge a_deeds a_mendings a_picture a_shelves a_books a_thoughts a_heads a_crowd_heights a_judge_known hasPicture crowd_people crowd_heights_1 judge_known) [none, some 0, some 1, none, none] rfl (by decide +kernel) rfl rfl (Nat.le_of_ble_eq_true rfl) dX11_changeHeight_6 (fun hz_2 => ?_)
  refine z_aload_n F 0 dX11_changeHeight_9 rfl rfl ?_
  refine z_get F 0 11 3 inlX11 rfl rfl (by decide) fl_X11_35 rfl dX11_changeHeight_10 ?_
  obtain ⟨judge_known_3, hg, hf⟩ := zb1_some hf
  refine z_callVm (rest := []) F 4 (c_Judge_forgetAll (xL X) G a_judge a_crowd a_text a_judge_known judge_known judge_known_3 hg) hy_X4_forgetAll ml_X11_152 hd_X4_forgetAll ⟨by omega, by omega⟩ rfl [3, 4] rfl rfl 3 rfl rfl (w_T_changeHeight G a_this a_crowd a_queue a_text a_judge a_deeds a_mendings a_picture a_shelves a_books a_thoughts a_heads a_crowd_heights a_judge_known hasPicture crowd_people crowd_heights_1 judge_known_3) [none, none, none, some 0, some 1] rfl (by decide +kernel) rfl rfl (Nat.le_of_ble_eq_true rfl) dX11_changeHeight_13 (fun hz_4 => ?_)
  have eq1 := Option.some.inj hf
  obtain ⟨ee1, ee2⟩ := Prod.mk.inj eq1
  subst ee1
  subst ee2
  exact z_vret F rfl rfl rfl dX11_changeHeight_16

abbrev w_T_mend (G : zG) (a_this : Nat) (a_crowd : Nat) (a_queue : Nat) (a_text : Nat) (a_judge : Nat) (a_deeds : Nat) (a_mendings : Nat) (a_picture : Nat) (a_shelves : Nat) (a_books : Nat) (a_thoughts : Nat) (a_heads : Nat) (a_crowd_heights : Nat) (a_judge_known : Nat) (a_mendings_whose : Nat) (a_mendings_before : Nat) (a_mendings_after : Nat) (hasPicture : Int32) (crowd_people : Int32) (crowd_heights : Nat → Int32) (judge_known : Nat → Int32) (mendings_done : Int32) (mendings_all : Int32) (mendings_whose : Nat → Int32) (mendings_before : Nat → Int32) (mendings_after : Nat → Int32) : va_W := [(a_this, cO 11 [.ref a_crowd, .ref a_queue, .ref a_text, .ref a_judge, .ref a_deeds, .ref a_mendings, .ref a_picture, .int hasPicture, .ref a_shelves, .ref a_books, .ref a_thoughts, .ref a_heads]), (a_crowd, cO 1 [.ref a_crowd_heights, .int crowd_people]), (a_crowd_heights, cI G 9 crowd_heights), (a_judge, cO 4 [.ref a_crowd, .ref a_text, .ref a_judge_known]), (a_judge_known, cB G 729 judge_known), (a_mendings, cO 8 [.ref a_mendings_whose, .ref a_mendings_before, .ref a_mendings_after, .int mendings_done, .int mendings_all]), (a_mendings_whose, cI G 40 mendings_whose), (a_mendings_before, cI G 40 mendings_before), (a_mendings_after, cI G 40 mendings_after)]
def f_T_mend (crowd_people : Int32) (crowd_heights : Nat → Int32) (judge_known : Nat → Int32) (mendings_done : Int32) (mendings_all : Int32) (mendings_whose : Nat → Int32) (mendings_before : Nat → Int32) (mendings_after : Nat → Int32) (x1 : Int32) (x2 : Int32) : Option (Int32 × (Nat → Int32) × (Nat → Int32) × Int32 × Int32 × (Nat → Int32) × (Nat → Int32) × (Nat → Int32)) := (if (f_Crowd_isPerson crowd_people x1) = 0 then (some ((-1), crowd_heights, judge_known, mendings_done, mendings_all, mendings_whose, mendings_before, mendings_after)) else (zb1 (f_Crowd_isFree crowd_people crowd_heights x2 x1) fun r_2 => (if r_2 = 0 then (some ((-1), crowd_heights, judge_known, mendings_done, mendings_all, mendings_whose, mendings_before, mendings_after)) else (zb1 (f_Crowd_heightOf crowd_people crowd_heights x1) fun r_4 => (if x2 = r_4 then (some (r_4, crowd_heights, judge_known, mendings_done, mendings_all, mendings_whose, mendings_before, mendings_after)) else (zb5 (f_Mendings_add mendings_done mendings_all mendings_whose mendings_before mendings_after x1 r_4 x2) fun mendings_done_6 mendings_all_7 mendings_whose_8 mendings_before_9 mendings_after_10 => (zb2 (f_T_changeHeight crowd_people crowd_heights judge_known x1 x2) fun crowd_heights_12 judge_known_13 => (some (r_4, crowd_heights_12, judge_known_13, mendings_done_6, mendings_all_7, mendings_whose_8, mendings_before_9, mendings_after_10)))))))))
set_option maxRecDepth 100000 in
set_option maxHeartbeats 4000000 in
theorem c_T_mend (l : Launch) (G : zG) (a_this : Nat) (a_crowd : Nat) (a_queue : Nat) (a_text : Nat) (a_judge : Nat) (a_deeds : Nat) (a_mendings : Nat) (a_picture : Nat) (a_shelves : Nat) (a_books : Nat) (a_thoughts : Nat) (a_heads : Nat) (a_crowd_heights : Nat) (a_judge_known : Nat) (a_mendings_whose : Nat) (a_mendings_before : Nat) (a_mendings_after : Nat) (hasPicture : Int32) (crowd_people : Int32) (crowd_heights : Nat → Int32) (judge_known : Nat → Int32) (mendings_done : Int32) (mendings_all : Int32) (mendings_whose : Nat → Int32) (mendings_before : Nat → Int32) (mendings_after : Nat → Int32) (x1 : Int32) (x2 : Int32) (r_ : Int32) (o_crowd_heights : Nat → Int32) (o_judge_known : Nat → Int32) (o_mendings_done : Int32) (o_mendings_all : Int32) (o_mendings_whose : Nat → Int32) (o_mendings_before : Nat → Int32) (o_mendings_after : Nat → Int32) (hf : f_T_mend crowd_people crowd_heights judge_known mendings_done mendings_all mendings_whose mendings_before mendings_after x1 x2 = some (r_, o_crowd_heights, o_judge_known, o_mendings_done, o_mendings_all, o_mendings_whose, o_mendings_before, o_mendings_after)) : zM l yX11_mend cX11_mend 4 (some .int) 3 163 G [.ref a_this, .int x1, .int x2] (w_T_mend G a_this a_crowd a_queue a_text a_judge a_deeds a_mendings a_picture a_shelves a_books a_thoughts a_heads a_crowd_heights a_judge_known a_mendings_whose a_mendings_before a_mendings_after hasPicture crowd_people crowd_heights judge_known mendings_done mendings_all mendings_whose mendings_before mendings_after) (some (.int r_)) (w_T_mend G a_this a_crowd a_queue a_text a_judge a_deeds a_mendings a_picture a_shelves a_books a_thoughts a_heads a_crowd_heights a_judge_known a_mendings_whose a_mendings_before a_mendings_after hasPicture crowd_people o_crowd_heights o_judge_known o_mendings_done o_mendings_all o_mendings_whose o_mendings_before o_mendings_after) := by
  refine zM.of [(0, .ref a_this), (1, .int x1), (2, .int x2)] (own := RX11) rfl (by decide +kernel) (Nat.le_of_ble_eq_true rfl) rfl rfl fun X hX F => ?_
  subst hX
  replace hf := (f_T_mend.eq_1 ..).symm.trans hf
  refine z_aload_n F 0 dX11_mend_0 rfl rfl ?_
  refine z_get F 0 11 0 inlX11 rfl rfl (by decide) fl_X11_10 rfl dX11_mend_1 ?_
  refine z_iload_n F 1 dX11_mend_4 rfl rfl ?_
  refine z_callVm (rest := []) F 1 (c_Crowd_isPerson (xL X) G a_crowd a_crowd_heights crowd_people x1 _ rfl) hy_X1_isPerson ml_X11_119 hd_X1_isPerson ⟨by omega, by omega⟩ rfl [1] rfl rfl 1 rfl rfl (w_T_mend G a_this a_crowd a_queue a_text a_judge a_deeds a_mendings a_picture a_shelves a_books a_thoughts a_heads a_crowd_heights a_judge_known a_mendings_whose a_mendings_before a_mendings_after hasPicture crowd_people crowd_heights judge_known mendings_done mendings_all mendings_whose mendings_before mendings_after) [none, some 0, none, none, none, none, none, none, none] rfl (by decide +kernel) rfl rfl (Nat.le_of_ble_eq_true rfl) dX11_mend_5 (fun hz_1 => ?_)
  refine z_if_eq F 23 dX11_mend_8 (by decide) hf (fun hf _ => ?_) (fun hf _ => ?_)
  · refine z_iconst F (-1) dX11_mend_23 rfl ?_
    have eq1 := Option.some.inj hf
    obtain ⟨ee1, eq2⟩ := Prod.mk.inj eq1
    obtain ⟨ee2, eq3⟩ := Prod.mk.inj eq2
    obtain ⟨ee3, eq4⟩ := Prod.mk.inj eq3
    obtain ⟨ee4, eq5⟩ := Prod.mk.inj eq4
    obtain ⟨ee5, eq6⟩ := Prod.mk.inj eq5
    obtain ⟨ee6, eq7⟩ := Prod.mk.inj eq6
    obtain ⟨ee7, ee8⟩ := Prod.mk.inj eq7
    subst ee1
    subst ee2
    subst ee3
    subst ee4
    subst ee5
    subst ee6
    subst ee7
    subst ee8
    exact z_iret F rfl rfl rfl rfl dX11_mend_24
  · refine z_aload_n F 0 dX11_mend_11 rfl rfl ?_
    refine z_get F 0 11 0 inlX11 rfl rfl (by decide) fl_X11_10 rfl dX11_mend_12 ?_
    refine z_iload_n F 2 dX11_mend_15 rfl rfl ?_
    refine z_iload_n F 1 dX11_mend_16 rfl rfl ?_
    obtain ⟨r_2, hg, hf⟩ := zb1_some hf
    refine z_callVm (rest := []) F 1 (c_Crowd_isFree (xL X) G a_crowd a_crowd_heights crowd_people crowd_heights x2 x1 r_2 hg) hy_X1_isFree ml_X11_122 hd_X1_isFree ⟨by omega, by omega⟩ rfl [1, 2] rfl rfl 1 rfl rfl (w_T_mend G a_this a_crowd a_queue a_text a_judge a_deeds a_mendings a_picture a_shelves a_books a_thoughts a_heads a_crowd_heights a_judge_known a_mendings_whose a_mendings_before a_mendings_after hasPicture crowd_people crowd_heights judge_known mendings_done mendings_all mendings_whose mendings_before mendings_after) [none, some 0, some 1, none, none, none, none, none, none] rfl (by decide +kernel) rfl rfl (Nat.le_of_ble_eq_true rfl) dX11_mend_17 (fun hz_3 => ?_)
    refine z_if_ne F 25 dX11_mend_20 (by decide) hf (fun hf _ => ?_) (fun hf _ => ?_)
    · refine z_aload_n F 0 dX11_mend_25 rfl rfl ?_
      refine z_get F 0 11 0 inlX11 rfl rfl (by decide) fl_X11_10 rfl dX11_mend_26 ?_
      refine z_iload_n F 1 dX11_mend_29 rfl rfl ?_
      obtain ⟨r_4, hg, hf⟩ := zb1_some hf
      refine z_callVm (rest := []) F 1 (c_Crowd_heightOf (xL X) G a_crowd a_crowd_heights crowd_people crowd_heights x1 r_4 hg) hy_X1_heightOf ml_X11_126 hd_X1_heightOf ⟨by omega, by omega⟩ rfl [1, 2] rfl rfl 1 rfl rfl (w_T_mend G a_this a_crowd a_queue a_text a_judge a_deeds a_mendings a_picture a_shelves a_books a_thoughts a_heads a_crowd_heights a_judge_known a_mendings_whose a_mendings_before a_mendings_after hasPicture crowd_people crowd_heights judge_known mendings_done mendings_all mendings_whose mendings_before mendings_after) [none, some 0, some 1, none, none, none, none, none, none] rfl (by decide +kernel) rfl rfl (Nat.le_of_ble_eq_true rfl) dX11_mend_30 (fun hz_5 => ?_)
      refine z_istore_n F [(3, .int r_4), (0, .ref a_this), (1, .int x1), (2, .int x2)] dX11_mend_33 rfl (by decide) rfl ?_
      refine z_iload_n F 3 dX11_mend_34 rfl rfl ?_
      refine z_iload_n F 0 dX11_mend_35 rfl rfl ?_
      refine z_icmp_eq F 55 dX11_mend_36 (by decide) hf (fun hf _ => ?_) (fun hf _ => ?_)
      · refine z_iload_n F 0 dX11_mend_55 rfl rfl ?_
        have eq1 := Option.some.inj hf
        obtain ⟨ee1, eq2⟩ := Prod.mk.inj eq1
        obtain ⟨ee2, eq3⟩ := Prod.mk.inj eq2
        obtain ⟨ee3, eq4⟩ := Prod.mk.inj eq3
        obtain ⟨ee4, eq5⟩ := Prod.mk.inj eq4
        obtain ⟨ee5, eq6⟩ := Prod.mk.inj eq5
        obtain ⟨ee6, eq7⟩ := Prod.mk.inj eq6
        obtain ⟨ee7, ee8⟩ := Prod.mk.inj eq7
        subst ee1
        subst ee2
        subst ee3
        subst ee4
        subst ee5
        subst ee6
        subst ee7
        subst ee8
        exact z_iret F rfl rfl rfl rfl dX11_mend_56
      · refine z_aload_n F 1 dX11_mend_39 rfl rfl ?_
        refine z_get F 0 11 5 inlX11 rfl rfl (by decide) fl_X11_51 rfl dX11_mend_40 ?_
        refine z_iload_n F 2 dX11_mend_43 rfl rfl ?_
        refine z_iload_n F 0 dX11_mend_44 rfl rfl ?_
        refine z_iload_n F 3 dX11_mend_45 rfl rfl ?_
        obtain ⟨mendings_done_6, mendings_all_7, mendings_whose_8, mendings_before_9, mendings_after_10, hg, hf⟩ := zb5_some hf
        refine z_callVm (rest := []) F 8 (c_Mendings_add (xL X) G a_mendings a_mendings_whose a_mendings_before a_mendings_after mendings_done mendings_all mendings_whose mendings_before mendings_after x1 r_4 x2 mendings_done_6 mendings_all_7 mendings_whose_8 mendings_before_9 mendings_after_10 hg) hy_X8_add ml_X11_129 hd_X8_add ⟨by omega, by omega⟩ rfl [5, 6, 7, 8] rfl rfl 5 rfl rfl (w_T_mend G a_this a_crowd a_queue a_text a_judge a_deeds a_mendings a_picture a_shelves a_books a_thoughts a_heads a_crowd_heights a_judge_known a_mendings_whose a_mendings_before a_mendings_after hasPicture crowd_people crowd_heights judge_known mendings_done_6 mendings_all_7 mendings_whose_8 mendings_before_9 mendings_after_10) [none, none, none, none, none, some 0, some 1, some 2, some 3] rfl (by decide +kernel) rfl rfl (Nat.le_of_ble_eq_true rfl) dX11_mend_46 (fun hz_11 => ?_)
        refine z_aload_n F 1 dX11_mend_49 rfl rfl ?_
        refine z_iload_n F 2 dX11_mend_50 rfl rfl ?_
        refine z_iload_n F 3 dX11_mend_51 rfl rfl ?_
        obtain ⟨crowd_heights_12, judge_known_13, hg, hf⟩ := zb2_some hf
        refine z_callVm (rest := []) F 11 (c_T_changeHeight (xL X) G a_this a_crowd a_queue a_text a_judge a_deeds a_mendings a_picture a_shelves a_books a_thoughts a_heads a_crowd_heights a_judge_known hasPicture crowd_people crowd_heights judge_known x1 x2 crowd_heights_12 judge_known_13 hg) hy_X11_changeHeight ml_X11_133 hd_X11_changeHeight ⟨by omega, by omega⟩ rfl [0, 1, 2, 3, 4] rfl rfl 0 rfl rfl (w_T_mend G a_this a_crowd a_queue a_text a_judge a_deeds a_mendings a_picture a_shelves a_books a_thoughts a_heads a_crowd_heights a_judge_known a_mendings_whose a_mendings_before a_mendings_after hasPicture crowd_people crowd_heights_12 judge_known_13 mendings_done_6 mendings_all_7 mendings_whose_8 mendings_before_9 mendings_after_10) [some 0, some 1, some 2, some 3, some 4, none, none, none, none] rfl (by decide +kernel) rfl rfl (Nat.le_of_ble_eq_true rfl) dX11_mend_52 (fun hz_14 => ?_)
        refine z_iload_n F 0 dX11_mend_55 rfl rfl ?_
        have eq1 := Option.some.inj hf
        obtain ⟨ee1, eq2⟩ := Prod.mk.inj eq1
        obtain ⟨ee2, eq3⟩ := Prod.mk.inj eq2
        obtain ⟨ee3, eq4⟩ := Prod.mk.inj eq3
        obtain ⟨ee4, eq5⟩ := Prod.mk.inj eq4
        obtain ⟨ee5, eq6⟩ := Prod.mk.inj eq5
        obtain ⟨ee6, eq7⟩ := Prod.mk.inj eq6
        obtain ⟨ee7, ee8⟩ := Prod.mk.inj eq7
        subst ee1
        subst ee2
        subst ee3
        subst ee4
        subst ee5
        subst ee6
        subst ee7
        subst ee8
        exact z_iret F rfl rfl rfl rfl dX11_mend_56
    · refine z_iconst F (-1) dX11_mend_23 rfl ?_
      have eq1 := Option.some.inj hf
      obtain ⟨ee1, eq2⟩ := Prod.mk.inj eq1
      obtain ⟨ee2, eq3⟩ := Prod.mk.inj eq2
      obtain ⟨ee3, eq4⟩ := Prod.mk.inj eq3
      obtain ⟨ee4, eq5⟩ := Prod.mk.inj eq4
      obtain ⟨ee5, eq6⟩ := Prod.mk.inj eq5
      obtain ⟨ee6, eq7⟩ := Prod.mk.inj eq6
      obtain ⟨ee7, ee8⟩ := Prod.mk.inj eq7
      subst ee1
      subst ee2
      subst ee3
      subst ee4
      subst ee5
      subst ee6
      subst ee7
      subst ee8
      exact z_iret F rfl rfl rfl rfl dX11_mend_24

