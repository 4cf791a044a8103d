/-! by program (wip/whole/gen.py): pure functions and contracts -/
theorem dX11_far_0 : decode cX11_far 0 = .ok (.aload_n 0, 1) := by decide +kernel
theorem dX11_far_1 : decode cX11_far 1 = .ok (.getfield 61, 3) := by decide +kernel
theorem dX11_far_4 : decode cX11_far 4 = .ok (.iload_n 1, 1) := by decide +kernel
theorem dX11_far_5 : decode cX11_far 5 = .ok (.invokevirtual 102, 3) := by decide +kernel
theorem dX11_far_8 : decode cX11_far 8 = .ok (.ifCond .ne 5, 3) := by decide +kernel
theorem dX11_far_11 : decode cX11_far 11 = .ok (.iconst (-1), 1) := by decide +kernel
theorem dX11_far_12 : decode cX11_far 12 = .ok (.ireturn, 1) := by decide +kernel
theorem dX11_far_13 : decode cX11_far 13 = .ok (.aload_n 0, 1) := by decide +kernel
theorem dX11_far_14 : decode cX11_far 14 = .ok (.getfield 61, 3) := by decide +kernel
theorem dX11_far_17 : decode cX11_far 17 = .ok (.iload_n 1, 1) := by decide +kernel
theorem dX11_far_18 : decode cX11_far 18 = .ok (.invokevirtual 106, 3) := by decide +kernel
theorem dX11_far_21 : decode cX11_far 21 = .ok (.istore_n 2, 1) := by decide +kernel
theorem dX11_far_22 : decode cX11_far 22 = .ok (.iload_n 2, 1) := by decide +kernel
theorem dX11_far_23 : decode cX11_far 23 = .ok (.ifCond .eq 7, 3) := by decide +kernel
theorem dX11_far_26 : decode cX11_far 26 = .ok (.iload_n 2, 1) := by decide +kernel
theorem dX11_far_27 : decode cX11_far 27 = .ok (.goto 15, 3) := by decide +kernel
theorem dX11_far_30 : decode cX11_far 30 = .ok (.aload_n 0, 1) := by decide +kernel
theorem dX11_far_31 : decode cX11_far 31 = .ok (.getfield 70, 3) := by decide +kernel
theorem dX11_far_34 : decode cX11_far 34 = .ok (.iload_n 1, 1) := by decide +kernel
theorem dX11_far_35 : decode cX11_far 35 = .ok (.aload_n 0, 1) := by decide +kernel
theorem dX11_far_36 : decode cX11_far 36 = .ok (.getfield 19, 3) := by decide +kernel
theorem dX11_far_39 : decode cX11_far 39 = .ok (.invokevirtual 264, 3) := by decide +kernel
theorem dX11_far_42 : decode cX11_far 42 = .ok (.ireturn, 1) := by decide +kernel
theorem dX11_sorted_0 : decode cX11_sorted 0 = .ok (.aload_n 0, 1) := by decide +kernel
theorem dX11_sorted_1 : decode cX11_sorted 1 = .ok (.getfield 35, 3) := by decide +kernel
theorem dX11_sorted_4 : decode cX11_sorted 4 = .ok (.aload_n 0, 1) := by decide +kernel
theorem dX11_sorted_5 : decode cX11_sorted 5 = .ok (.getfield 19, 3) := by decide +kernel
theorem dX11_sorted_8 : decode cX11_sorted 8 = .ok (.invokevirtual 159, 3) := by decide +kernel
theorem dX11_sorted_11 : decode cX11_sorted 11 = .ok (.ireturn, 1) := by decide +kernel
theorem dX11_right_0 : decode cX11_right 0 = .ok (.iload_n 1, 1) := by decide +kernel
theorem dX11_right_1 : decode cX11_right 1 = .ok (.bipush (-2), 2) := by decide +kernel
theorem dX11_right_3 : decode cX11_right 3 = .ok (.if_icmp .lt 14, 3) := by decide +kernel
theorem dX11_right_6 : decode cX11_right 6 = .ok (.iload_n 1, 1) := by decide +kernel
theorem dX11_right_7 : decode cX11_right 7 = .ok (.aload_n 0, 1) := by decide +kernel
theorem dX11_right_8 : decode cX11_right 8 = .ok (.getfield 19, 3) := by decide +kernel
theorem dX11_right_11 : decode cX11_right 11 = .ok (.invokevirtual 94, 3) := by decide +kernel
theorem dX11_right_14 : decode cX11_right 14 = .ok (.if_icmp .lt 5, 3) := by decide +kernel
theorem dX11_right_17 : decode cX11_right 17 = .ok (.iconst (-1), 1) := by decide +kernel
theorem dX11_right_18 : decode cX11_right 18 = .ok (.ireturn, 1) := by decide +kernel
theorem dX11_right_19 : decode cX11_right 19 = .ok (.aload_n 0, 1) := by decide +kernel
theorem dX11_right_20 : decode cX11_right 20 = .ok (.getfield 79, 3) := by decide +kernel
theorem dX11_right_23 : decode cX11_right 23 = .ok (.aload_n 0, 1) := by decide +kernel
theorem dX11_right_24 : decode cX11_right 24 = .ok (.getfield 19, 3) := by decide +kernel
theorem dX11_right_27 : decode cX11_right 27 = .ok (.invokevirtual 267, 3) := by decide +kernel
theorem dX11_right_30 : decode cX11_right 30 = .ok (.iload_n 1, 1) := by decide +kernel
theorem dX11_right_31 : decode cX11_right 31 = .ok (.bipush (-2), 2) := by decide +kernel
theorem dX11_right_33 : decode cX11_right 33 = .ok (.if_icmp .ne 15, 3) := by decide +kernel
theorem dX11_right_36 : decode cX11_right 36 = .ok (.aload_n 0, 1) := by decide +kernel
theorem dX11_right_37 : decode cX11_right 37 = .ok (.getfield 79, 3) := by decide +kernel
theorem dX11_right_40 : decode cX11_right 40 = .ok (.aload_n 0, 1) := by decide +kernel
theorem dX11_right_41 : decode cX11_right 41 = .ok (.getfield 19, 3) := by decide +kernel
theorem dX11_right_44 : decode cX11_right 44 = .ok (.invokevirtual 270, 3) := by decide +kernel
theorem dX11_right_47 : decode cX11_right 47 = .ok (.ireturn, 1) := by decide +kernel
theorem dX11_right_48 : decode cX11_right 48 = .ok (.iload_n 1, 1) := by decide +kernel
theorem dX11_right_49 : decode cX11_right 49 = .ok (.iconst (-1), 1) := by decide +kernel
theorem dX11_right_50 : decode cX11_right 50 = .ok (.if_icmp .ne 17, 3) := by decide +kernel
theorem dX11_right_53 : decode cX11_right 53 = .ok (.aload_n 0, 1) := by decide +kernel
theorem dX11_right_54 : decode cX11_right 54 = .ok (.getfield 79, 3) := by decide +kernel
theorem dX11_right_57 : decode cX11_right 57 = .ok (.aload_n 0, 1) := by decide +kernel
theorem dX11_right_58 : decode cX11_right 58 = .ok (.getfield 19, 3) := by decide +kernel
theorem dX11_right_61 : decode cX11_right 61 = .ok (.invokevirtual 273, 3) := by decide +kernel
theorem dX11_right_64 : decode cX11_right 64 = .ok (.goto 15, 3) := by decide +kernel
theorem dX11_right_67 : decode cX11_right 67 = .ok (.aload_n 0, 1) := by decide +kernel
theorem dX11_right_68 : decode cX11_right 68 = .ok (.getfield 79, 3) := by decide +kernel
theorem dX11_right_71 : decode cX11_right 71 = .ok (.aload_n 0, 1) := by decide +kernel
theorem dX11_right_72 : decode cX11_right 72 = .ok (.getfield 19, 3) := by decide +kernel
theorem dX11_right_75 : decode cX11_right 75 = .ok (.iload_n 1, 1) := by decide +kernel
theorem dX11_right_76 : decode cX11_right 76 = .ok (.invokevirtual 276, 3) := by decide +kernel
theorem dX11_right_79 : decode cX11_right 79 = .ok (.ireturn, 1) := by decide +kernel
theorem dX11_mixed_0 : decode cX11_mixed 0 = .ok (.iload_n 2, 1) := by decide +kernel
theorem dX11_mixed_1 : decode cX11_mixed 1 = .ok (.iconst 1, 1) := by decide +kernel
theorem dX11_mixed_2 : decode cX11_mixed 2 = .ok (.if_icmp .lt 30, 3) := by decide +kernel
theorem dX11_mixed_5 : decode cX11_mixed 5 = .ok (.iload_n 2, 1) := by decide +kernel
theorem dX11_mixed_6 : decode cX11_mixed 6 = .ok (.bipush 50, 2) := by decide +kernel
theorem dX11_mixed_8 : decode cX11_mixed 8 = .ok (.if_icmp .gt 24, 3) := by decide +kernel
theorem dX11_mixed_11 : decode cX11_mixed 11 = .ok (.iload_n 3, 1) := by decide +kernel
theorem dX11_mixed_12 : decode cX11_mixed 12 = .ok (.bipush (-2), 2) := by decide +kernel
theorem dX11_mixed_14 : decode cX11_mixed 14 = .ok (.if_icmp .lt 18, 3) := by decide +kernel
theorem dX11_mixed_17 : decode cX11_mixed 17 = .ok (.iload_n 3, 1) := by decide +kernel
theorem dX11_mixed_18 : decode cX11_mixed 18 = .ok (.ifCond .lt 16, 3) := by decide +kernel
theorem dX11_mixed_21 : decode cX11_mixed 21 = .ok (.aload_n 0, 1) := by decide +kernel
theorem dX11_mixed_22 : decode cX11_mixed 22 = .ok (.getfield 10, 3) := by decide +kernel
theorem dX11_mixed_25 : decode cX11_mixed 25 = .ok (.iload_n 3, 1) := by decide +kernel
theorem dX11_mixed_26 : decode cX11_mixed 26 = .ok (.invokevirtual 119, 3) := by decide +kernel
theorem dX11_mixed_29 : decode cX11_mixed 29 = .ok (.ifCond .ne 5, 3) := by decide +kernel
theorem dX11_mixed_32 : decode cX11_mixed 32 = .ok (.iconst (-1), 1) := by decide +kernel
theorem dX11_mixed_33 : decode cX11_mixed 33 = .ok (.ireturn, 1) := by decide +kernel
theorem dX11_mixed_34 : decode cX11_mixed 34 = .ok (.aload_n 0, 1) := by decide +kernel
theorem dX11_mixed_35 : decode cX11_mixed 35 = .ok (.getfield 79, 3) := by decide +kernel
theorem dX11_mixed_38 : decode cX11_mixed 38 = .ok (.aload_n 0, 1) := by decide +kernel
theorem dX11_mixed_39 : decode cX11_mixed 39 = .ok (.getfield 19, 3) := by decide +kernel
theorem dX11_mixed_42 : decode cX11_mixed 42 = .ok (.iload_n 1, 1) := by decide +kernel
theorem dX11_mixed_43 : decode cX11_mixed 43 = .ok (.iload_n 2, 1) := by decide +kernel
theorem dX11_mixed_44 : decode cX11_mixed 44 = .ok (.iload_n 3, 1) := by decide +kernel
theorem dX11_mixed_45 : decode cX11_mixed 45 = .ok (.invokevirtual 279, 3) := by decide +kernel
theorem dX11_mixed_48 : decode cX11_mixed 48 = .ok (.ireturn, 1) := by decide +kernel
theorem dX11_image_0 : decode cX11_image 0 = .ok (.aload_n 0, 1) := by decide +kernel
theorem dX11_image_1 : decode cX11_image 1 = .ok (.getfield 55, 3) := by decide +kernel
theorem dX11_image_4 : decode cX11_image 4 = .ok (.aload_n 0, 1) := by decide +kernel
theorem dX11_image_5 : decode cX11_image 5 = .ok (.getfield 19, 3) := by decide +kernel
theorem dX11_image_8 : decode cX11_image 8 = .ok (.invokevirtual 192, 3) := by decide +kernel
theorem dX11_image_11 : decode cX11_image 11 = .ok (.aload_n 0, 1) := by decide +kernel
theorem dX11_image_12 : decode cX11_image 12 = .ok (.iconst 1, 1) := by decide +kernel
theorem dX11_image_13 : decode cX11_image 13 = .ok (.putfield 282, 3) := by decide +kernel
theorem dX11_image_16 : decode cX11_image 16 = .ok (.aload_n 0, 1) := by decide +kernel
theorem dX11_image_17 : decode cX11_image 17 = .ok (.getfield 19, 3) := by decide +kernel
theorem dX11_image_20 : decode cX11_image 20 = .ok (.invokevirtual 94, 3) := by decide +kernel
theorem dX11_image_23 : decode cX11_image 23 = .ok (.ireturn, 1) := by decide +kernel
theorem fl_X11_282 : Cond.fieldLink RX11 282 (TX11 7).1 (TX11 7).2.1 (TX11 7).2.2.1 ∈ wsL_law := (uw47 _ (List.mem_of_getElem? (i := 11) rfl))
theorem fl_X11_55 : Cond.fieldLink RX11 55 (TX11 6).1 (TX11 6).2.1 (TX11 6).2.2.1 ∈ wsL_law := (uw2 _ (List.mem_of_getElem? (i := 13) rfl))
theorem hy_X0_changesTo : Cond.code yX0_changesTo cX0_changesTo 6 (some .int) ∈ wsL_law ∧ Cond.initialized yX0_changesTo.cls ∈ wsL_law ∧ Cond.instanceMethod yX0_changesTo ∈ wsL_law ∧ Cond.selects yX0_changesTo.cls yX0_changesTo yX0_changesTo ∈ wsL_law := ⟨(uw43 _ (List.mem_of_getElem? (i := 10) rfl)), (uw2 _ (List.mem_of_getElem? (i := 20) rfl)), (uw43 _ (List.mem_of_getElem? (i := 8) rfl)), (uw43 _ (List.mem_of_getElem? (i := 9) rfl))⟩
theorem hd_X0_changesTo : yX0_changesTo.cls ≠ "java/lang/invoke/MethodHandle" ∧ yX0_changesTo.cls ≠ "java/lang/invoke/VarHandle" ∧ (parseMethodDescriptor yX0_changesTo.desc).map (fun d => d.parameters.length) = some 2 := ⟨by decide +kernel, by decide +kernel, by decide +kernel⟩
theorem hy_X10_mixings : Cond.code yX10_mixings cX10_mixings 10 (some .int) ∈ wsL_law ∧ Cond.initialized yX10_mixings.cls ∈ wsL_law ∧ Cond.instanceMethod yX10_mixings ∈ wsL_law ∧ Cond.selects yX10_mixings.cls yX10_mixings yX10_mixings ∈ wsL_law := ⟨(uw46 _ (List.mem_of_getElem? (i := 23) rfl)), (uw3 _ (List.mem_of_getElem? (i := 0) rfl)), (uw46 _ (List.mem_of_getElem? (i := 21) rfl)), (uw46 _ (List.mem_of_getElem? (i := 22) rfl))⟩
theorem hd_X10_mixings : yX10_mixings.cls ≠ "java/lang/invoke/MethodHandle" ∧ yX10_mixings.cls ≠ "java/lang/invoke/VarHandle" ∧ (parseMethodDescriptor yX10_mixings.desc).map (fun d => d.parameters.length) = some 4 := ⟨by decide +kernel, by decide +kernel, by decide +kernel⟩
theorem hy_X10_ordersByRight : Cond.code yX10_ordersByRight cX10_ordersByRight 7 (some .int) ∈ wsL_law ∧ Cond.initialized yX10_ordersByRight.cls ∈ wsL_law ∧ Cond.instanceMethod yX10_ordersByRight ∈ wsL_law ∧ Cond.selects yX10_ordersByRight.cls yX10_ordersByRight yX10_ordersByRight ∈ wsL_law := ⟨(uw45 _ (List.mem_of_getElem? (i := 10) rfl)), (uw3 _ (List.mem_of_getElem? (i := 0) rfl)), (uw45 _ (List.mem_of_getElem? (i := 8) rfl)), (uw45 _ (List.mem_of_getElem? (i := 9) rfl))⟩
theorem hd_X10_ordersByRight : yX10_ordersByRight.cls ≠ "java/lang/invoke/MethodHandle" ∧ yX10_ordersByRight.cls ≠ "java/lang/invoke/VarHandle" ∧ (parseMethodDescriptor yX10_ordersByRight.desc).map (fun d => d.parameters.length) = some 1 := ⟨by decide +kernel, by decide +kernel, by decide +kernel⟩
theorem hy_X10_servedAs : Cond.code yX10_servedAs cX10_servedAs 6 (some .int) ∈ wsL_law ∧ Cond.initialized yX10_servedAs.cls ∈ wsL_law ∧ Cond.instanceMethod yX10_servedAs ∈ wsL_law ∧ Cond.selects yX10_servedAs.cls yX10_servedAs yX10_servedAs ∈ wsL_law := ⟨(uw45 _ (List.mem_of_getElem? (i := 14) rfl)), (uw3 _ (List.mem_of_getElem? (i := 0) rfl)), (uw45 _ (List.mem_of_getElem? (i := 12) rfl)), (uw45 _ (List.mem_of_getElem? (i := 13) rfl))⟩
theorem hd_X10_servedAs : yX10_servedAs.cls ≠ "java/lang/invoke/MethodHandle" ∧ yX10_servedAs.cls ≠ "java/lang/invoke/VarHandle" ∧ (parseMethodDescriptor yX10_servedAs.desc).map (fun d => d.parameters.length) = some 2 := ⟨by decide +kernel, by decide +kernel, by decide +kernel⟩
theorem hy_X10_weighRights : Cond.code yX10_weighRights cX10_weighRights 5 none ∈ wsL_law ∧ Cond.initialized yX10_weighRights.cls ∈ wsL_law ∧ Cond.instanceMethod yX10_weighRights ∈ wsL_law ∧ Cond.selects yX10_weighRights.cls yX10_weighRights yX10_weighRights ∈ wsL_law := ⟨(uw44 _ (List.mem_of_getElem? (i := 15) rfl)), (uw3 _ (List.mem_of_getElem? (i := 0) rfl)), (uw44 _ (List.mem_of_getElem? (i := 13) rfl)), (uw44 _ (List.mem_of_getElem? (i := 14) rfl))⟩
theorem hd_X10_weighRights : yX10_weighRights.cls ≠ "java/lang/invoke/MethodHandle" ∧ yX10_weighRights.cls ≠ "java/lang/invoke/VarHandle" ∧ (parseMethodDescriptor yX10_weighRights.desc).map (fun d => d.parameters.length) = some 1 := ⟨by decide +kernel, by decide +kernel, by decide +kernel⟩
theorem hy_X10_whoMayBeFirst : Cond.code yX10_whoMayBeFirst cX10_whoMayBeFirst 5 (some .int) ∈ wsL_law ∧ Cond.initialized yX10_whoMayBeFirst.cls ∈ wsL_law ∧ Cond.instanceMethod yX10_whoMayBeFirst ∈ wsL_law ∧ Cond.selects yX10_whoMayBeFirst.cls yX10_whoMayBeFirst yX10_whoMayBeFirst ∈ wsL_law := ⟨(uw44 _ (List.mem_of_getElem? (i := 22) rfl)), (uw3 _ (List.mem_of_getElem? (i := 0) rfl)), (uw44 _ (List.mem_of_getElem? (i := 20) rfl)), (uw44 _ (List.mem_of_getElem? (i := 21) rfl))⟩
theorem hd_X10_whoMayBeFirst : yX10_whoMayBeFirst.cls ≠ "java/lang/invoke/MethodHandle" ∧ yX10_whoMayBeFirst.cls ≠ "java/lang/invoke/VarHandle" ∧ (parseMethodDescriptor yX10_whoMayBeFirst.desc).map (fun d => d.parameters.length) = some 1 := ⟨by decide +kernel, by decide +kernel, by decide +kernel⟩
theorem ml_X11_264 : Cond.methodLink RX11 264 yX0_changesTo ∈ wsL_law := (uw43 _ (List.mem_of_getElem? (i := 7) rfl))
theorem ml_X11_267 : Cond.methodLink RX11 267 yX10_weighRights ∈ wsL_law := (uw44 _ (List.mem_of_getElem? (i := 12) rfl))
theorem ml_X11_270 : Cond.methodLink RX11 270 yX10_whoMayBeFirst ∈ wsL_law := (uw44 _ (List.mem_of_getElem? (i := 19) rfl))
theorem ml_X11_273 : Cond.methodLink RX11 273 yX10_ordersByRight ∈ wsL_law := (uw45 _ (List.mem_of_getElem? (i := 7) rfl))
theorem ml_X11_276 : Cond.methodLink RX11 276 yX10_servedAs ∈ wsL_law := (uw45 _ (List.mem_of_getElem? (i := 11) rfl))
theorem ml_X11_279 : Cond.methodLink RX11 279 yX10_mixings ∈ wsL_law := (uw46 _ (List.mem_of_getElem? (i := 20) rfl))
abbrev w_T_far (G : zG) (a_this : Nat) (a_crowd : Nat) (a_queue : Nat) (a_text : Nat) (a_judge : Nat) (a_deeds : Nat) (a_mendings : Nat) (a_picture : Nat) (a_shelves : Nat) (a_books : Nat) (a_thoughts : Nat) (a_heads : Nat) (a_queue_who : Nat) (a_shelves_sorts : Nat) (a_shelves_sizes : Nat) (a_shelves_held : Nat) (a_shelves_elements : Nat) (a_shelves_elements_e : Nat → Nat) (a_books_numbers : Nat) (a_books_left : Nat) (a_books_result : Nat) (a_books_fillings : Nat) (a_books_spare : Nat) (a_books_rowCounts : Nat) (a_books_result_who : Nat) (hasPicture : Int32) (queue_length : Int32) (queue_who : Nat → Int32) (shelves_sorts : Nat → Int32) (shelves_sizes : Nat → Int32) (shelves_elements_e : Nat → (Nat → Int64)) (books_size : Int32) (books_result_length : Int32) (books_result_who : Nat → Int32) : va_W := [(a_this, cO 11 [.ref a_crowd, .ref a_queue, .ref a_text, .ref a_judge, .ref a_deeds, .ref a_mendings, .ref a_picture, .int hasPicture, .ref a_shelves, .ref a_books, .ref a_thoughts, .ref a_heads]), (a_queue, cO 7 [.ref a_queue_who, .int queue_length]), (a_queue_who, cI G 9 queue_who), (a_shelves, cO 9 [.ref a_shelves_sorts, .ref a_shelves_sizes, .ref a_shelves_held, .ref a_shelves_elements]), (a_shelves_sorts, cI G 6 shelves_sorts), (a_shelves_sizes, cI G 6 shelves_sizes), (a_shelves_elements, cJJ G 6 (fun j => some (a_shelves_elements_e j))), ((a_shelves_elements_e 0), cJ G 60 (shelves_elements_e 0)), ((a_shelves_elements_e 1), cJ G 60 (shelves_elements_e 1)), ((a_shelves_elements_e 2), cJ G 60 (shelves_elements_e 2)), ((a_shelves_elements_e 3), cJ G 60 (shelves_elements_e 3)), ((a_shelves_elements_e 4), cJ G 60 (shelves_elements_e 4)), ((a_shelves_elements_e 5), cJ G 60 (shelves_elements_e 5)), (a_books, cO 0 [.ref a_crowd, .ref a_shelves, .ref a_books_numbers, .int books_size, .ref a_books_left, .ref a_books_result, .ref a_books_fillings, .ref a_books_spare, .ref a_books_rowCounts]), (a_books_result, cO 7 [.ref a_books_result_who, .int books_result_length]), (a_books_result_who, cI G 9 books_result_who)]
def f_T_far (queue_length : Int32) (queue_who : Nat → Int32) (shelves_sorts : Nat → Int32) (shelves_sizes : Nat → Int32) (shelves_elements_e : Nat → (Nat → Int64)) (books_result_length : Int32) (books_result_who : Nat → Int32) (x1 : Int32) : Option (Int32 × Int32 × (Nat → Int32)) := (if (f_Shelves_isShelf x1) = 0 then (some ((-1), books_result_length, books_result_who)) else (zb1 (f_Shelves_refusalOfBytes shelves_sorts x1) fun r_2 => (if r_2 = 0 then (zb3 (f_Books_changesTo shelves_sizes shelves_elements_e books_result_length books_result_who queue_length queue_who x1) fun r_4 books_result_length_5 books_result_who_6 => (some (r_4, books_result_length_5, books_result_who_6))) else (some (r_2, books_result_length, books_result_who)))))
set_option maxRecDepth 100000 in
set_option maxHeartbeats 4000000 in
theorem c_T_far (l : Launch) (G : zG) (a_this : Nat) (a_crowd : Nat) (a_queue : Nat) (a_text : Nat) (a_judge : Nat) (a_deeds : Nat) (a_mendings : Nat) (a_picture : Nat) (a_shelves : Nat) (a_books : Nat) (a_thoughts : Nat) (a_heads : Nat) (a_queue_who : Nat) (a_shelves_sorts : Nat) (a_shelves_sizes : Nat) (a_shelves_held : Nat) (a_shelves_elements : Nat) (a_shelves_elements_e : Nat → Nat) (a_books_numbers : Nat) (a_books_left : Nat) (a_books_result : Nat) (a_books_fillings : Nat) (a_books_spare : Nat) (a_books_rowCounts : Nat) (a_books_result_who : Nat) (hasPicture : Int32) (queue_length : Int32) (queue_who : Nat → Int32) (shelves_sorts : Nat → Int32) (shelves_sizes : Nat → Int32) (shelves_elements_e : Nat → (Nat → Int64)) (books_size : Int32) (books_result_length : Int32) (books_result_who : Nat → Int32) (x1 : Int32) (r_ : Int32) (o_books_result_length : Int32) (o_books_result_who : Nat → Int32) (hf : f_T_far queue_length queue_who shelves_sorts shelves_sizes shelves_elements_e books_result_length books_result_who x1 = some (r_, o_books_result_length, o_books_result_who)) : zM l yX11_far cX11_far 3 (some .int) 4 89 G [.ref a_this, .int x1] (w_T_far G a_this a_crowd a_queue a_text a_judge a_deeds a_mendings a_picture a_shelves a_books a_thoughts a_heads a_queue_who a_shelves_sorts a_shelves_sizes a_shelves_held a_shelves_elements a_shelves_elements_e a_books_numbers a_books_left a_books_result a_books_fillings a_books_spare a_books_rowCounts a_books_result_who hasPicture queue_length queue_who shelves_sorts shelves_sizes shelves_elements_e books_size books_result_length books_result_who) (some (.int r_)) (w_T_far G a_this a_crowd a_queue a_text a_judge a_deeds a_mendings a_picture a_shelves a_books a_thoughts a_heads a_queue_who a_shelves_sorts a_shelves_sizes a_shelves_held a_shelves_elements a_shelves_elements_e a_books_numbers a_books_left a_books_result a_books_fillings a_books_spare a_books_rowCounts a_books_result_who hasPicture queue_length queue_who shelves_sorts shelves_sizes shelves_elements_e books_size o_books_result_length o_books_result_who) := by
  refine zM.of [(0, .ref a_this), (1, .int x1)] (own := RX11) rfl (by decide +kernel) (Nat.le_of_ble_eq_true rfl) rfl rfl fun X hX F => ?_
  subst hX
  replace hf := (f_T_far.eq_1 ..).symm.trans hf
  refine z_aload_n F 0 dX11_far_0 rfl rfl ?_
  refine z_get F 0 11 8 inlX11 rfl rfl (by decide) fl_X11_61 rfl dX11_far_1 ?_
  refine z_iload_n F 1 dX11_far_4 rfl rfl ?_
  refine z_callVm (rest := []) F 9 (c_Shelves_isShelf (xL X) G a_shelves a_shelves_sorts a_shelves_sizes a_shelves_held a_shelves_elements x1 _ rfl) hy_X9_isShelf ml_X11_102 hd_X9_isShelf ⟨by omega, by omega⟩ rfl [3] rfl rfl 3 rfl rfl (w_T_far G a_this a_crowd a_queue a_text a_judge a_deeds a_mendings a_picture a_shelves a_books a_thoughts a_heads a_queue_who a_shelves_sorts a_shelves_sizes a_shelves_held a_shelves_elements a_shelves_elements_e a_books_numbers a_books_left a_books_result a_books_fillings a_books_spare a_books_rowCounts a_books_result_who hasPicture queue_length queue_who shelves_sorts shelves_sizes shelves_elements_e books_size books_result_length books_result_who) [none, none, none, some 0, none, none, none, none, none, none, none, none, none, none, none, none] rfl (by decide +kernel) rfl rfl (Nat.le_of_ble_eq_true rfl) dX11_far_5 (fun hz_1 => ?_)
  refine z_if_ne F 13 dX11_far_8 (by decide) hf (fun hf _ => ?_) (fun hf _ => ?_)
  · refine z_aload_n F 0 dX11_far_13 rfl rfl ?_
    refine z_get F 0 11 8 inlX11 rfl rfl (by decide) fl_X11_61 rfl dX11_far_14 ?_
    refine z_iload_n F 1 dX11_far_17 rfl rfl ?_
    obtain ⟨r_2, hg, hf⟩ := zb1_some hf
    refine z_callVm (rest := []) F 9 (c_Shelves_refusalOfBytes (xL X) G a_shelves a_shelves_sorts a_shelves_sizes a_shelves_held a_shelves_elements shelves_sorts x1 r_2 hg) hy_X9_refusalOfBytes ml_X11_106 hd_X9_refusalOfBytes ⟨by omega, by omega⟩ rfl [3, 4] rfl rfl 3 rfl rfl (w_T_far G a_this a_crowd a_queue a_text a_judge a_deeds a_mendings a_picture a_shelves a_books a_thoughts a_heads a_queue_who a_shelves_sorts a_shelves_sizes a_shelves_held a_shelves_elements a_shelves_elements_e a_books_numbers a_books_left a_books_result a_books_fillings a_books_spare a_books_rowCounts a_books_result_who hasPicture queue_length queue_who shelves_sorts shelves_sizes shelves_elements_e books_size books_result_length books_result_who) [none, none, none, some 0, some 1, none, none, none, none, none, none, none, none, none, none, none] rfl (by decide +kernel) rfl rfl (Nat.le_of_ble_eq_true rfl) dX11_far_18 (fun hz_3 => ?_)
    refine z_istore_n F [(2, .int r_2), (0, .ref a_this), (1, .int x1)] dX11_far_21 rfl (by decide) rfl ?_
    refine z_iload_n F 0 dX11_far_22 rfl rfl ?_
    refine z_if_eq F 30 dX11_far_23 (by decide) hf (fun hf _ => ?_) (fun hf _ => ?_)
    · refine z_aload_n F 1 dX11_far_30 rfl rfl ?_
      refine z_get F 0 11 9 inlX11 rfl rfl (by decide) fl_X11_70 rfl dX11_far_31 ?_
      refine z_iload_n F 2 dX11_far_34 rfl rfl ?_
      refine z_aload_n F 1 dX11_far_35 rfl rfl ?_
      refine z_get F 0 11 1 inlX11 rfl rfl (by decide) fl_X11_19 rfl dX11_far_36 ?_
      obtain ⟨r_4, books_result_length_5, books_result_who_6, hg, hf⟩ := zb3_some hf
      refine z_callVm (rest := []) F 0 (c_Books_changesTo (xL X) G a_books a_crowd a_shelves a_books_numbers a_books_left a_books_result a_books_fillings a_books_spare a_books_rowCounts a_shelves_sorts a_shelves_sizes a_shelves_held a_shelves_elements a_shelves_elements_e a_books_result_who a_queue a_queue_who books_size shelves_sizes shelves_elements_e books_result_length books_result_who queue_length queue_who x1 r_4 books_result_length_5 books_result_who_6 hg) hy_X0_changesTo ml_X11_264 hd_X0_changesTo ⟨by omega, by omega⟩ rfl [13, 3, 5, 6, 7, 8, 9, 10, 11, 12, 14, 15, 1, 2] rfl rfl 13 rfl rfl (w_T_far G a_this a_crowd a_queue a_text a_judge a_deeds a_mendings a_picture a_shelves a_books a_thoughts a_heads a_queue_who a_shelves_sorts a_shelves_sizes a_shelves_held a_shelves_elements a_shelves_elements_e a_books_numbers a_books_left a_books_result a_books_fillings a_books_spare a_books_rowCounts a_books_result_who hasPicture queue_length queue_who shelves_sorts shelves_sizes shelves_elements_e books_size books_result_length_5 books_result_who_6) [none, some 12, some 13, some 1, none, some 2, some 3, some 4, some 5, some 6, some 7, some 8, some 9, some 0, some 10, some 11] rfl (by decide +kernel) rfl rfl (Nat.le_of_ble_eq_true rfl) dX11_far_39 (fun hz_7 => ?_)
      have eq1 := Option.some.inj hf
      obtain ⟨ee1, eq2⟩ := Prod.mk.inj eq1
      obtain ⟨ee2, ee3⟩ := Prod.mk.inj eq2
      subst ee1
      subst ee2
      subst ee3
      exact z_iret F rfl rfl rfl rfl dX11_far_42
    · refine z_iload_n F 0 dX11_far_26 rfl rfl ?_
      refine z_goto F 42 dX11_far_27 (by decide) ?_
      have eq1 := Option.some.inj hf
      obtain ⟨ee1, eq2⟩ := Prod.mk.inj eq1
      obtain ⟨ee2, ee3⟩ := Prod.mk.inj eq2
      subst ee1
      subst ee2
      subst ee3
      exact z_iret F rfl rfl rfl rfl dX11_far_42
  · refine z_iconst F (-1) dX11_far_11 rfl ?_
    have eq1 := Option.some.inj hf
    obtain ⟨ee1, eq2⟩ := Prod.mk.inj eq1
    obtain ⟨ee2, ee3⟩ := Prod.mk.inj eq2
    subst ee1
    subst ee2
    subst ee3
    exact z_iret F rfl rfl rfl rfl dX11_far_12

abbrev w_T_sorted (G : zG) (a_this : Nat) (a_crowd : Nat) (a_queue : Nat) (a_text : Nat) (a_judge : Nat) (a_deeds : Nat) (a_mendings : Nat) (a_picture : Nat) (a_shelves : Nat) (a_books : Nat) (a_thoughts : Nat) (a_heads : Nat) (a_crowd_heights : Nat) (a_queue_who : Nat) (a_judge_known : Nat) (hasPicture : Int32) (crowd_people : Int32) (crowd_heights : Nat → Int32) (queue_length : Int32) (queue_who : Nat → Int32) : va_W := [(a_this, cO 11 [.ref a_crowd, .ref a_queue, .ref a_text, .ref a_judge, .ref a_deeds, .ref a_mendings, .ref a_picture, .int hasPicture, .ref a_shelves, .ref a_books, .ref a_thoughts, .ref a_heads]), (a_crowd, cO 1 [.ref a_crowd_heights, .int crowd_people]), (a_crowd_heights, cI G 9 crowd_heights), (a_queue, cO 7 [.ref a_queue_who, .int queue_length]), (a_queue_who, cI G 9 queue_who), (a_judge, cO 4 [.ref a_crowd, .ref a_text, .ref a_judge_known])]
def f_T_sorted (crowd_people : Int32) (crowd_heights : Nat → Int32) (queue_length : Int32) (queue_who : Nat → Int32) : Option Int32 := (zb1 (f_Judge_plainDisquietOf crowd_people crowd_heights queue_length queue_who) fun r_1 => (some r_1))
set_option maxRecDepth 100000 in
set_option maxHeartbeats 4000000 in
theorem c_T_sorted (l : Launch) (G : zG) (a_this : Nat) (a_crowd : Nat) (a_queue : Nat) (a_text : Nat) (a_judge : Nat) (a_deeds : Nat) (a_mendings : Nat) (a_picture : Nat) (a_shelves : Nat) (a_books : Nat) (a_thoughts : Nat) (a_heads : Nat) (a_crowd_heights : Nat) (a_queue_who : Nat) (a_judge_known : Nat) (hasPicture : Int32) (crowd_people : Int32) (crowd_heights : Nat → Int32) (queue_length : Int32) (queue_who : Nat → Int32) (r_ : Int32) (hf : f_T_sorted crowd_people crowd_heights queue_length queue_who = some r_) : zM l yX11_sorted cX11_sorted 1 (some .int) 4 91 G [.ref a_this] (w_T_sorted G a_this a_crowd a_queue a_text a_judge a_deeds a_mendings a_picture a_shelves a_books a_thoughts a_heads a_crowd_heights a_queue_who a_judge_known hasPicture crowd_people crowd_heights queue_length queue_who) (some (.int r_)) (w_T_sorted G a_this a_crowd a_queue a_text a_judge a_deeds a_mendings a_picture a_shelves a_books a_thoughts a_heads a_crowd_heights a_queue_who a_judge_known hasPicture crowd_people crowd_heights queue_length queue_who) := by
  refine zM.of [(0, .ref a_this)] (own := RX11) rfl (by decide +kernel) (Nat.le_of_ble_eq_true rfl) rfl rfl fun X hX F => ?_
  subst hX
  replace hf := (f_T_sorted.eq_1 ..).symm.trans hf
  refine z_aload_n F 0 dX11_sorted_0 rfl rfl ?_
  refine z_get F 0 11 3 inlX11 rfl rfl (by decide) fl_X11_35 rfl dX11_sorted_1 ?_
  refine z_aload_n F 0 dX11_sorted_4 rfl rfl ?_
  refine z_get F 0 11 1 inlX11 rfl rfl (by decide) fl_X11_19 rfl dX11_sorted_5 ?_
  obtain ⟨r_1, hg, hf⟩ := zb1_some hf
  refine z_callVm (rest := []) F 4 (c_Judge_plainDisquietOf (xL X) G a_judge a_crowd a_text a_judge_known a_crowd_heights a_queue a_queue_who crowd_people crowd_heights queue_length queue_who r_1 hg) hy_X4_plainDisquietOf ml_X11_159 hd_X4_plainDisquietOf ⟨by omega, by omega⟩ rfl [5, 1, 2, 3, 4] rfl rfl 5 rfl rfl (w_T_sorted G a_this a_crowd a_queue a_text a_judge a_deeds a_mendings a_picture a_shelves a_books a_thoughts a_heads a_crowd_heights a_queue_who a_judge_known hasPicture crowd_people crowd_heights queue_length queue_who) [none, some 1, some 2, some 3, some 4, some 0] rfl (by decide +kernel) rfl rfl (Nat.le_of_ble_eq_true rfl) dX11_sorted_8 (fun hz_2 => ?_)
  have ee1 := Option.some.inj hf
  subst ee1
  exact z_iret F rfl rfl rfl rfl dX11_sorted_11

abbrev w_T_right (G : zG) (a_this : Nat) (a_crowd : Nat) (a_queue : Nat) (a_text : Nat) (a_judge : Nat) (a_deeds : Nat) (a_mendings : Nat) (a_picture : Nat) (a_shelves : Nat) (a_books : Nat) (a_thoughts : Nat) (a_heads : Nat) (a_crowd_heights : Nat) (a_queue_who : Nat) (a_text_tape : Nat) (a_text_reader : Nat) (a_text_steps : Nat) (a_text_worked : Nat) (a_judge_known : Nat) (a_thoughts_trial : Nat) (a_thoughts_numbers : Nat) (a_thoughts_ahead : Nat) (a_thoughts_orders : Nat) (hasPicture : Int32) (crowd_people : Int32) (crowd_heights : Nat → Int32) (queue_length : Int32) (queue_who : Nat → Int32) (text_fed : Int32) (text_length : Int32) (text_top : Int32) (text_steps : Nat → Int32) (text_worked : Nat → Int32) (judge_known : Nat → Int32) (thoughts_numbers : Nat → Int32) (thoughts_ahead : Nat → Int32) (thoughts_orders : Nat → Int32) : va_W := [(a_this, cO 11 [.ref a_crowd, .ref a_queue, .ref a_text, .ref a_judge, .ref a_deeds, .ref a_mendings, .ref a_picture, .int hasPicture, .ref a_shelves, .ref a_books, .ref a_thoughts, .ref a_heads]), (a_crowd, cO 1 [.ref a_crowd_heights, .int crowd_people]), (a_crowd_heights, cI G 9 crowd_heights), (a_queue, cO 7 [.ref a_queue_who, .int queue_length]), (a_queue_who, cI G 9 queue_who), (a_text, cO 5 [.ref a_text_tape, .int text_fed, .ref a_text_reader, .ref a_text_steps, .int text_length, .ref a_text_worked, .int text_top]), (a_text_steps, cI G 121 text_steps), (a_text_worked, cI G 121 text_worked), (a_judge, cO 4 [.ref a_crowd, .ref a_text, .ref a_judge_known]), (a_judge_known, cB G 729 judge_known), (a_thoughts, cO 10 [.ref a_crowd, .ref a_judge, .ref a_thoughts_trial, .ref a_thoughts_numbers, .ref a_thoughts_ahead, .ref a_thoughts_orders]), (a_thoughts_numbers, cI G 9 thoughts_numbers), (a_thoughts_ahead, cI G 9 thoughts_ahead), (a_thoughts_orders, cI G 512 thoughts_orders)]
def f_T_right (crowd_people : Int32) (crowd_heights : Nat → Int32) (queue_length : Int32) (queue_who : Nat → Int32) (text_length : Int32) (text_top : Int32) (text_steps : Nat → Int32) (text_worked : Nat → Int32) (judge_known : Nat → Int32) (thoughts_numbers : Nat → Int32) (thoughts_ahead : Nat → Int32) (thoughts_orders : Nat → Int32) (x1 : Int32) : Option (Int32 × Int32 × (Nat → Int32) × (Nat → Int32) × (Nat → Int32) × (Nat → Int32) × (Nat → Int32)) := (if x1 < (-2) then (some ((-1), text_top, text_worked, judge_known, thoughts_numbers, thoughts_ahead, thoughts_orders)) else (if x1 < (f_Line_size queue_length) then (zb5 (f_Thoughts_weighRights crowd_people crowd_heights text_length text_top text_steps text_worked judge_known thoughts_numbers thoughts_ahead queue_length queue_who) fun text_top_2 text_worked_3 judge_known_4 thoughts_numbers_5 thoughts_ahead_6 => (if x1 = (-2) then (zb1 (f_Thoughts_whoMayBeFirst thoughts_ahead_6 queue_length queue_who) fun r_13 => (some (r_13, text_top_2, text_worked_3, judge_known_4, thoughts_numbers_5, thoughts_ahead_6, thoughts_orders))) else (if x1 = (-1) then (zb2 (f_Thoughts_ordersByRight thoughts_ahead_6 thoughts_orders queue_length) fun r_10 thoughts_orders_11 => (some (r_10, text_top_2, text_worked_3, judge_known_4, thoughts_numbers_5, thoughts_ahead_6, thoughts_orders_11))) else (zb1 (f_Thoughts_servedAs thoughts_ahead_6 queue_length queue_who x1) fun r_8 => (some (r_8, text_top_2, text_worked_3, judge_known_4, thoughts_numbers_5, thoughts_ahead_6, thoughts_orders)))))) else (some ((-1), text_top, text_worked, judge_known, thoughts_numbers, thoughts_ahead, thoughts_orders))))
set_option maxRecDepth 100000 in
set_option maxHeartbeats 4000000 in
theorem c_T_right (l : Launch) (G : zG) (a_this : Nat) (a_crowd : Nat) (a_queue : Nat) (a_text : Nat) (a_judge : Nat) (a_deeds : Nat) (a_mendings : Nat) (a_picture : Nat) (a_shelves : Nat) (a_books : Nat) (a_thoughts : Nat) (a_heads : Nat) (a_crowd_heights : Nat) (a_queue_who : Nat) (a_text_tape : Nat) (a_text_reader : Nat) (a_text_steps : Nat) (a_text_worked : Nat) (a_judge_known : Nat) (a_thoughts_trial : Nat) (a_thoughts_numbers : Nat) (a_thoughts_ahead : Nat) (a_thoughts_orders : Nat) (hasPicture : Int32) (crowd_people : Int32) (crowd_heights : Nat → Int32) (queue_length : Int32) (queue_who : Nat → Int32) (text_fed : Int32) (text_length : Int32) (text_top : Int32) (text_steps : Nat → Int32) (text_worked : Nat → Int32) (judge_known : Nat → Int32) (thoughts_numbers : Nat → Int32) (thoughts_ahead : Nat → Int32) (thoughts_orders : Nat → Int32) (x1 : Int32) (r_ : Int32) (o_text_top : Int32) (o_text_worked : Nat → Int32) (o_judge_known : Nat → Int32) (o_thoughts_numbers : Nat → Int32) (o_thoughts_ahead : Nat → Int32) (o_thoughts_orders : Nat → Int32) (hf : f_T_right crowd_people crowd_heights queue_length queue_who text_length text_top text_steps text_worked judge_known thoughts_numbers thoughts_ahead thoughts_orders x1 = some (r_, o_text_top, o_text_worked, o_judge_known, o_thoughts_numbers, o_thoughts_ahead, o_thoughts_orders)) : zM l yX11_right cX11_right 2 (some .int) 5 128 G [.ref a_this, .int x1] (w_T_right G a_this a_crowd a_queue a_text a_judge a_deeds a_mendings a_picture a_shelves a_books a_thoughts a_heads a_crowd_heights a_queue_who a_text_tape a_text_reader a_text_steps a_text_worked a_judge_known a_thoughts_trial a_thoughts_numbers a_thoughts_ahead a_thoughts_orders hasPicture crowd_people crowd_heights queue_length queue_who text_fed text_length text_top text_steps text_worked judge_known thoughts_numbers thoughts_ahead thoughts_orders) (some (.int r_)) (w_T_right G a_this a_crowd a_queue a_text a_judge a_deeds a_mendings a_picture a_shelves a_books a_thoughts a_heads a_crowd_heights a_queue_who a_text_tape a_text_reader a_text_steps a_text_worked a_judge_known a_thoughts_trial a_thoughts_numbers a_thoughts_ahead a_thoughts_orders hasPicture crowd_people crowd_heights queue_length queue_who text_fed text_length o_text_top text_steps o_text_worked o_judge_known o_thoughts_numbers o_thoughts_ahead o_thoughts_orders) := by
  refine zM.of [(0, .ref a_this), (1, .int x1)] (own := RX11) rfl (by decide +kernel) (Nat.le_of_ble_eq_true rfl) rfl rfl fun X hX F => ?_
  subst hX
  replace hf := (f_T_right.eq_1 ..).symm.trans hf
  refine z_iload_n F 1 dX11_right_0 rfl rfl ?_
  refine z_bipush F (-2) dX11_right_1 rfl ?_
  refine z_icmp_lt F 17 dX11_right_3 (by decide) hf (fun hf _ => ?_) (fun hf _ => ?_)
  · refine z_iconst F (-1) dX11_right_17 rfl ?_
    have eq1 := Option.some.inj hf
    obtain ⟨ee1, eq2⟩ := Prod.mk.inj eq1
    obtain ⟨ee2, eq3⟩ := Prod.mk.inj eq2
    obtain ⟨ee3, eq4⟩ := Prod.mk.inj eq3
    obtain ⟨ee4, eq5⟩ := Prod.mk.inj eq4
    obtain ⟨ee5, eq6⟩ := Prod.mk.inj eq5
    obtain ⟨ee6, ee7⟩ := Prod.mk.inj eq6
    subst ee1
    subst ee2
    subst ee3
    subst ee4
    subst ee5
    subst ee6
    subst ee7
    exact z_iret F rfl rfl rfl rfl dX11_right_18
  · refine z_iload_n F 1 dX11_right_6 rfl rfl ?_
    refine z_aload_n F 0 dX11_right_7 rfl rfl ?_
    refine z_get F 0 11 1 inlX11 rfl rfl (by decide) fl_X11_19 rfl dX11_right_8 ?_
    refine z_callVm (rest := [.int x1]) F 7 (c_Line_size (xL X) G a_queue a_queue_who queue_length _ rfl) hy_X7_size ml_X11_94 hd_X7_size ⟨by omega, by omega⟩ rfl [3] rfl rfl 3 rfl rfl (w_T_right G a_this a_crowd a_queue a_text a_judge a_deeds a_mendings a_picture a_shelves a_books a_thoughts a_heads a_crowd_heights a_queue_who a_text_tape a_text_reader a_text_steps a_text_worked a_judge_known a_thoughts_trial a_thoughts_numbers a_thoughts_ahead a_thoughts_orders hasPicture crowd_people crowd_heights queue_length queue_who text_fed text_length text_top text_steps text_worked judge_known thoughts_numbers thoughts_ahead thoughts_orders) [none, none, none, some 0, none, none, none, none, none, none, none, none, none, none] rfl (by decide +kernel) rfl rfl (Nat.le_of_ble_eq_true rfl) dX11_right_11 (fun hz_1 => ?_)
    refine z_icmp_lt F 19 dX11_right_14 (by decide) hf (fun hf _ => ?_) (fun hf _ => ?_)
    · refine z_aload_n F 0 dX11_right_19 rfl rfl ?_
      refine z_get F 0 11 10 inlX11 rfl rfl (by decide) fl_X11_79 rfl dX11_right_20 ?_
      refine z_aload_n F 0 dX11_right_23 rfl rfl ?_
      refine z_get F 0 11 1 inlX11 rfl rfl (by decide) fl_X11_19 rfl dX11_right_24 ?_
      obtain ⟨text_top_2, text_worked_3, judge_known_4, thoughts_numbers_5, thoughts_ahead_6, hg, hf⟩ := zb5_some hf
      refine z_callVm (rest := []) F 10 (c_Thoughts_weighRights (xL X) G a_thoughts a_crowd a_judge a_thoughts_trial a_thoughts_numbers a_thoughts_ahead a_thoughts_orders a_crowd_heights a_text a_judge_known a_text_tape a_text_reader a_text_steps a_text_worked a_queue a_queue_who crowd_people crowd_heights text_fed text_length text_top text_steps text_worked judge_known thoughts_numbers thoughts_ahead queue_length queue_who text_top_2 text_worked_3 judge_known_4 thoughts_numbers_5 thoughts_ahead_6 hg) hy_X10_weighRights ml_X11_267 hd_X10_weighRights ⟨by omega, by omega⟩ rfl [10, 1, 2, 8, 5, 6, 7, 9, 11, 12, 3, 4] rfl rfl 10 rfl rfl (w_T_right G a_this a_crowd a_queue a_text a_judge a_deeds a_mendings a_picture a_shelves a_books a_thoughts a_heads a_crowd_heights a_queue_who a_text_tape a_text_reader a_text_steps a_text_worked a_judge_known a_thoughts_trial a_thoughts_numbers a_thoughts_ahead a_thoughts_orders hasPicture crowd_people crowd_heights queue_length queue_who text_fed text_length text_top_2 text_steps text_worked_3 judge_known_4 thoughts_numbers_5 thoughts_ahead_6 thoughts_orders) [none, some 1, some 2, some 10, some 11, some 4, some 5, some 6, some 3, some 7, some 0, some 8, some 9, none] rfl (by decide +kernel) rfl rfl (Nat.le_of_ble_eq_true rfl) dX11_right_27 (fun hz_7 => ?_)
      refine z_iload_n F 1 dX11_right_30 rfl rfl ?_
      refine z_bipush F (-2) dX11_right_31 rfl ?_
      refine z_icmp_ne F 48 dX11_right_33 (by decide) hf (fun hf _ => ?_) (fun hf _ => ?_)
      · refine z_iload_n F 1 dX11_right_48 rfl rfl ?_
        refine z_iconst F (-1) dX11_right_49 rfl ?_
        refine z_icmp_ne F 67 dX11_right_50 (by decide) hf (fun hf _ => ?_) (fun hf _ => ?_)
        · refine z_aload_n F 0 dX11_right_67 rfl rfl ?_
          refine z_get F 0 11 10 inlX11 rfl rfl (by decide) fl_X11_79 rfl dX11_right_68 ?_
          refine z_aload_n F 0 dX11_right_71 rfl rfl ?_
          refine z_get F 0 11 1 inlX11 rfl rfl (by decide) fl_X11_19 rfl dX11_right_72 ?_
          refine z_iload_n F 1 dX11_right_75 rfl rfl ?_
          obtain ⟨r_8, hg, hf⟩ := zb1_some hf
          refine z_callVm (rest := []) F 10 (c_Thoughts_servedAs (xL X) G a_thoughts a_crowd a_judge a_thoughts_trial a_thoughts_numbers a_thoughts_ahead a_thoughts_orders a_queue a_queue_who thoughts_ahead_6 queue_length queue_who x1 r_8 hg) hy_X10_servedAs ml_X11_276 hd_X10_servedAs ⟨by omega, by omega⟩ rfl [10, 12, 3, 4] rfl rfl 10 rfl rfl (w_T_right G a_this a_crowd a_queue a_text a_judge a_deeds a_mendings a_picture a_shelves a_books a_thoughts a_heads a_crowd_heights a_queue_who a_text_tape a_text_reader a_text_steps a_text_worked a_judge_known a_thoughts_trial a_thoughts_numbers a_thoughts_ahead a_thoughts_orders hasPicture crowd_people crowd_heights queue_length queue_who text_fed text_length text_top_2 text_steps text_worked_3 judge_known_4 thoughts_numbers_5 thoughts_ahead_6 thoughts_orders) [none, none, none, some 2, some 3, none, none, none, none, none, some 0, none, some 1, none] rfl (by decide +kernel) rfl rfl (Nat.le_of_ble_eq_true rfl) dX11_right_76 (fun hz_9 => ?_)
          have eq1 := Option.some.inj hf
          obtain ⟨ee1, eq2⟩ := Prod.mk.inj eq1
          obtain ⟨ee2, eq3⟩ := Prod.mk.inj eq2
          obtain ⟨ee3, eq4⟩ := Prod.mk.inj eq3
          obtain ⟨ee4, eq5⟩ := Prod.mk.inj eq4
          obtain ⟨ee5, eq6⟩ := Prod.mk.inj eq5
          obtain ⟨ee6, ee7⟩ := Prod.mk.inj eq6
          subst ee1
          subst ee2
          subst ee3
          subst ee4
          subst ee5
          subst ee6
          subst ee7
          exact z_iret F rfl rfl rfl rfl dX11_right_79
        · refine z_aload_n F 0 dX11_right_53 rfl rfl ?_
          refine z_get F 0 11 10 inlX11 rfl rfl (by decide) fl_X11_79 rfl dX11_right_54 ?_
          refine z_aload_n F 0 dX11_right_57 rfl rfl ?_
          refine z_get F 0 11 1 inlX11 rfl rfl (by decide) fl_X11_19 rfl dX11_right_58 ?_
          obtain ⟨r_10, thoughts_orders_11, hg, hf⟩ := zb2_some hf
          refine z_callVm (rest := []) F 10 (c_Thoughts_ordersByRight (xL X) G a_thoughts a_crowd a_judge a_thoughts_trial a_thoughts_numbers a_thoughts_ahead a_thoughts_orders a_queue a_queue_who thoughts_ahead_6 thoughts_orders queue_length r_10 thoughts_orders_11 hg) hy_X10_ordersByRight ml_X11_273 hd_X10_ordersByRight ⟨by omega, by omega⟩ rfl [10, 12, 13, 3] rfl rfl 10 rfl rfl (w_T_right G a_this a_crowd a_queue a_text a_judge a_deeds a_mendings a_picture a_shelves a_books a_thoughts a_heads a_crowd_heights a_queue_who a_text_tape a_text_reader a_text_steps a_text_worked a_judge_known a_thoughts_trial a_thoughts_numbers a_thoughts_ahead a_thoughts_orders hasPicture crowd_people crowd_heights queue_length queue_who text_fed text_length text_top_2 text_steps text_worked_3 judge_known_4 thoughts_numbers_5 thoughts_ahead_6 thoughts_orders_11) [none, none, none, some 3, none, none, none, none, none, none, some 0, none, some 1, some 2] rfl (by decide +kernel) rfl rfl (Nat.le_of_ble_eq_true rfl) dX11_right_61 (fun hz_12 => ?_)
          refine z_goto F 79 dX11_right_64 (by decide) ?_
          have eq1 := Option.some.inj hf
          obtain ⟨ee1, eq2⟩ := Prod.mk.inj eq1
          obtain ⟨ee2, eq3⟩ := Prod.mk.inj eq2
          obtain ⟨ee3, eq4⟩ := Prod.mk.inj eq3
          obtain ⟨ee4, eq5⟩ := Prod.mk.inj eq4
          obtain ⟨ee5, eq6⟩ := Prod.mk.inj eq5
          obtain ⟨ee6, ee7⟩ := Prod.mk.inj eq6
          subst ee1
          subst ee2
          subst ee3
          subst ee4
          subst ee5
          subst ee6
          subst ee7
          exact z_iret F rfl rfl rfl rfl dX11_right_79
      · refine z_aload_n F 0 dX11_right_36 rfl rfl ?_
        refine z_get F 0 11 10 inlX11 rfl rfl (by decide) fl_X11_79 rfl dX11_right_37 ?_
        refine z_aload_n F 0 dX11_right_40 rfl rfl ?_
        refine z_get F 0 11 1 inlX11 rfl rfl (by decide) fl_X11_19 rfl dX11_right_41 ?_
        obtain ⟨r_13, hg, hf⟩ := zb1_some hf
        refine z_callVm (rest := []) F 10 (c_Thoughts_whoMayBeFirst (xL X) G a_thoughts a_crowd a_judge a_thoughts_trial a_thoughts_numbers a_thoughts_ahead a_thoughts_orders a_queue a_queue_who thoughts_ahead_6 queue_length queue_who r_13 hg) hy_X10_whoMayBeFirst ml_X11_270 hd_X10_whoMayBeFirst ⟨by omega, by omega⟩ rfl [10, 12, 3, 4] rfl rfl 10 rfl rfl (w_T_right G a_this a_crowd a_queue a_text a_judge a_deeds a_mendings a_picture a_shelves a_books a_thoughts a_heads a_crowd_heights a_queue_who a_text_tape a_text_reader a_text_steps a_text_worked a_judge_known a_thoughts_trial a_thoughts_numbers a_thoughts_ahead a_thoughts_orders hasPicture crowd_people crowd_heights queue_length queue_who text_fed text_length text_top_2 text_steps text_worked_3 judge_known_4 thoughts_numbers_5 thoughts_ahead_6 thoughts_orders) [none, none, none, some 2, some 3, none, none, none, none, none, some 0, none, some 1, none] rfl (by decide +kernel) rfl rfl (Nat.le_of_ble_eq_true rfl) dX11_right_44 (fun hz_14 => ?_)
        have eq1 := Option.some.inj hf
        obtain ⟨ee1, eq2⟩ := Prod.mk.inj eq1
        obtain ⟨ee2, eq3⟩ := Prod.mk.inj eq2
        obtain ⟨ee3, eq4⟩ := Prod.mk.inj eq3
        obtain ⟨ee4, eq5⟩ := Prod.mk.inj eq4
        obtain ⟨ee5, eq6⟩ := Prod.mk.inj eq5
        obtain ⟨ee6, ee7⟩ := Prod.mk.inj eq6
        subst ee1
        subst ee2
        subst ee3
        subst ee4
        subst ee5
        subst ee6
        subst ee7
        exact z_iret F rfl rfl rfl rfl dX11_right_47
    · refine z_iconst F (-1) dX11_right_17 rfl ?_
      have eq1 := Option.some.inj hf
      obtain ⟨ee1, eq2⟩ := Prod.mk.inj eq1
      obtain ⟨ee2, eq3⟩ := Prod.mk.inj eq2
      obtain ⟨ee3, eq4⟩ := Prod.mk.inj eq3
      obtain ⟨ee4, eq5⟩ := Prod.mk.inj eq4
      obtain ⟨ee5, eq6⟩ := Prod.mk.inj eq5
      obtain ⟨ee6, ee7⟩ := Prod.mk.inj eq6
      subst ee1
      subst ee2
      subst ee3
      subst ee4
      subst ee5
      subst ee6
      subst ee7
      exact z_iret F rfl rfl rfl rfl dX11_right_18

abbrev w_T_mixed (G : zG) (a_this : Nat) (a_crowd : Nat) (a_queue : Nat) (a_text : Nat) (a_judge : Nat) (a_deeds : Nat) (a_mendings : Nat) (a_picture : Nat) (a_shelves : Nat) (a_books : Nat) (a_thoughts : Nat) (a_heads : Nat) (a_crowd_heights : Nat) (a_queue_who : Nat) (a_text_tape : Nat) (a_text_reader : Nat) (a_text_steps : Nat) (a_text_worked : Nat) (a_judge_known : Nat) (a_thoughts_trial : Nat) (a_thoughts_numbers : Nat) (a_thoughts_ahead : Nat) (a_thoughts_orders : Nat) (a_thoughts_trial_who : Nat) (hasPicture : Int32) (crowd_people : Int32) (crowd_heights : Nat → Int32) (queue_length : Int32) (queue_who : Nat → Int32) (text_fed : Int32) (text_length : Int32) (text_top : Int32) (text_steps : Nat → Int32) (text_worked : Nat → Int32) (judge_known : Nat → Int32) (thoughts_trial_length : Int32) (thoughts_trial_who : Nat → Int32) : va_W := [(a_this, cO 11 [.ref a_crowd, .ref a_queue, .ref a_text, .ref a_judge, .ref a_deeds, .ref a_mendings, .ref a_picture, .int hasPicture, .ref a_shelves, .ref a_books, .ref a_thoughts, .ref a_heads]), (a_crowd, cO 1 [.ref a_crowd_heights, .int crowd_people]), (a_crowd_heights, cI G 9 crowd_heights), (a_queue, cO 7 [.ref a_queue_who, .int queue_length]), (a_queue_who, cI G 9 queue_who), (a_text, cO 5 [.ref a_text_tape, .int text_fed, .ref a_text_reader, .ref a_text_steps, .int text_length, .ref a_text_worked, .int text_top]), (a_text_steps, cI G 121 text_steps), (a_text_worked, cI G 121 text_worked), (a_judge, cO 4 [.ref a_crowd, .ref a_text, .ref a_judge_known]), (a_judge_known, cB G 729 judge_known), (a_thoughts, cO 10 [.ref a_crowd, .ref a_judge, .ref a_thoughts_trial, .ref a_thoughts_numbers, .ref a_thoughts_ahead, .ref a_thoughts_orders]), (a_thoughts_trial, cO 7 [.ref a_thoughts_trial_who, .int thoughts_trial_length]), (a_thoughts_trial_who, cI G 9 thoughts_trial_who)]
def f_T_mixed (crowd_people : Int32) (crowd_heights : Nat → Int32) (queue_length : Int32) (queue_who : Nat → Int32) (text_length : Int32) (text_top : Int32) (text_steps : Nat → Int32) (text_worked : Nat → Int32) (judge_known : Nat → Int32) (thoughts_trial_length : Int32) (thoughts_trial_who : Nat → Int32) (x1 : Int32) (x2 : Int32) (x3 : Int32) : Option (Int32 × Int32 × (Nat → Int32) × (Nat → Int32) × Int32 × (Nat → Int32)) := (if x2 < 1 then (some ((-1), text_top, text_worked, judge_known, thoughts_trial_length, thoughts_trial_who)) else (if (50 : Int32) < x2 then (some ((-1), text_top, text_worked, judge_known, thoughts_trial_length, thoughts_trial_who)) else (if x3 < (-2) then (some ((-1), text_top, text_worked, judge_known, thoughts_trial_length, thoughts_trial_who)) else (if x3 < 0 then (zb6 (f_Thoughts_mixings crowd_people crowd_heights text_length text_top text_steps text_worked judge_known thoughts_trial_length thoughts_trial_who queue_length queue_who x1 x2 x3) fun r_1 text_top_2 text_worked_3 judge_known_4 thoughts_trial_length_5 thoughts_trial_who_6 => (some (r_1, text_top_2, text_worked_3, judge_known_4, thoughts_trial_length_5, thoughts_trial_who_6))) else (if (f_Crowd_isPerson crowd_people x3) = 0 then (some ((-1), text_top, text_worked, judge_known, thoughts_trial_length, thoughts_trial_who)) else (zb6 (f_Thoughts_mixings crowd_people crowd_heights text_length text_top text_steps text_worked judge_known thoughts_trial_length thoughts_trial_who queue_length queue_who x1 x2 x3) fun r_9 text_top_10 text_worked_11 judge_known_12 thoughts_trial_length_13 thoughts_trial_who_14 => (some (r_9, text_top_10, text_worked_11, judge_known_12, thoughts_trial_length_13, thoughts_trial_who_14))))))))
set_option maxRecDepth 100000 in
set_option maxHeartbeats 4000000 in
theorem c_T_mixed (l : Launch) (G : zG) (a_this : Nat) (a_crowd : Nat) (a_queue : Nat) (a_text : Nat) (a_judge : Nat) (a_deeds : Nat) (a_mendings : Nat) (a_picture : Nat) (a_shelves : Nat) (a_books : Nat) (a_thoughts : Nat) (a_heads : Nat) (a_crowd_heights : Nat) (a_queue_who : Nat) (a_text_tape : Nat) (a_text_reader : Nat) (a_text_steps : Nat) (a_text_worked : Nat) (a_judge_known : Nat) (a_thoughts_trial : Nat) (a_thoughts_numbers : Nat) (a_thoughts_ahead : Nat) (a_thoughts_orders : Nat) (a_thoughts_trial_who : Nat) (hasPicture : Int32) (crowd_people : Int32) (crowd_heights : Nat → Int32) (queue_length : Int32) (queue_who : Nat → Int32) (text_fed : Int32) (text_length : Int32) (text_top : Int32) (text_steps : Nat → Int32) (text_worked : Nat → Int32) (judge_known : Nat → Int32) (thoughts_trial_length : Int32) (thoughts_trial_who : Nat → Int32) (x1 : Int32) (x2 : Int32) (x3 : Int32) (r_ : Int32) (o_text_top : Int32) (o_text_worked : Nat → Int32) (o_judge_known : Nat → Int32) (o_thoughts_trial_length : Int32) (o_thoughts_trial_who : Nat → Int32) (hf : f_T_mixed crowd_people crowd_heights queue_length queue_who text_length text_top text_steps text_worked judge_known thoughts_trial_length thoughts_trial_who x1 x2 x3 = some (r_, o_text_top, o_text_worked, o_judge_known, o_thoughts_trial_length, o_thoughts_trial_who)) : zM l yX11_mixed cX11_mixed 4 (some .int) 6 170 G [.ref a_this, .int x1, .int x2, .int x3] (w_T_mixed G a_this a_crowd a_queue a_text a_judge a_deeds a_mendings a_picture a_shelves a_books a_thoughts a_heads a_crowd_heights a_queue_who a_text_tape a_text_reader a_text_steps a_text_worked a_judge_known a_thoughts_trial a_thoughts_numbers a_thoughts_ahead a_thoughts_orders a_thoughts_trial_who hasPicture crowd_people crowd_heights queue_length queue_who text_fed text_length text_top text_steps text_worked judge_known thoughts_trial_length thoughts_trial_who) (some (.int r_)) (w_T_mixed G a_this a_crowd a_queue a_text a_judge a_deeds a_mendings a_picture a_shelves a_books a_thoughts a_heads a_crowd_heights a_queue_who a_text_tape a_text_reader a_text_steps a_text_worked a_judge_known a_thoughts_trial a_thoughts_numbers a_thoughts_ahead a_thoughts_orders a_thoughts_trial_who hasPicture crowd_people crowd_heights queue_length queue_who text_fed text_length o_text_top text_steps o_text_worked o_judge_known o_thoughts_trial_length o_thoughts_trial_who) := by
  refine zM.of [(0, .ref a_this), (1, .int x1), (2, .int x2), (3, .int x3)] (own := RX11) rfl (by decide +kernel) (Nat.le_of_ble_eq_true rfl) rfl rfl fun X hX F => ?_
  subst hX
  replace hf := (f_T_mixed.eq_1 ..).symm.trans hf
  refine z_iload_n F 2 dX11_mixed_0 rfl rfl ?_
  refine z_iconst F (1) dX11_mixed_1 rfl ?_
  refine z_icmp_lt F 32 dX11_mixed_2 (by decide) hf (fun hf _ => ?_) (fun hf _ => ?_)
  · refine z_iconst F (-1) dX11_mixed_32 rfl ?_
    have eq1 := Option.some.inj hf
    obtain ⟨ee1, eq2⟩ := Prod.mk.inj eq1
    obtain ⟨ee2, eq3⟩ := Prod.mk.inj eq2
    obtain ⟨ee3, eq4⟩ := Prod.mk.inj eq3
    obtain ⟨ee4, eq5⟩ := Prod.mk.inj eq4
    obtain ⟨ee5, ee6⟩ := Prod.mk.inj eq5
    subst ee1
    subst ee2
    subst ee3
    subst ee4
    subst ee5
    subst ee6
    exact z_iret F rfl rfl rfl rfl dX11_mixed_33
  · refine z_iload_n F 2 dX11_mixed_5 rfl rfl ?_
    refine z_bipush F (50) dX11_mixed_6 rfl ?_
    refine z_icmp_gt F 32 dX11_mixed_8 (by decide) hf (fun hf _ => ?_) (fun hf _ => ?_)
    · refine z_iconst F (-1) dX11_mixed_32 rfl ?_
      have eq1 := Option.some.inj hf
      obtain ⟨ee1, eq2⟩ := Prod.mk.inj eq1
      obtain ⟨ee2, eq3⟩ := Prod.mk.inj eq2
      obtain ⟨ee3, eq4⟩ := Prod.mk.inj eq3
      obtain ⟨ee4, eq5⟩ := Prod.mk.inj eq4
      obtain ⟨ee5, ee6⟩ := Prod.mk.inj eq5
      subst ee1
      subst ee2
      subst ee3
      subst ee4
      subst ee5
      subst ee6
      exact z_iret F rfl rfl rfl rfl dX11_mixed_33
    · refine z_iload_n F 3 dX11_mixed_11 rfl rfl ?_
      refine z_bipush F (-2) dX11_mixed_12 rfl ?_
      refine z_icmp_lt F 32 dX11_mixed_14 (by decide) hf (fun hf _ => ?_) (fun hf _ => ?_)
      · refine z_iconst F (-1) dX11_mixed_32 rfl ?_
        have eq1 := Option.some.inj hf
        obtain ⟨ee1, eq2⟩ := Prod.mk.inj eq1
        obtain ⟨ee2, eq3⟩ := Prod.mk.inj eq2
        obtain ⟨ee3, eq4⟩ := Prod.mk.inj eq3
        obtain ⟨ee4, eq5⟩ := Prod.mk.inj eq4
        obtain ⟨ee5, ee6⟩ := Prod.mk.inj eq5
        subst ee1
        subst ee2
        subst ee3
        subst ee4
        subst ee5
        subst ee6
        exact z_iret F rfl rfl rfl rfl dX11_mixed_33
      · refine z_iload_n F 3 dX11_mixed_17 rfl rfl ?_
        refine z_if_lt F 34 dX11_mixed_18 (by decide) hf (fun hf _ => ?_) (fun hf _ => ?_)
        · refine z_aload_n F 0 dX11_mixed_34 rfl rfl ?_
          refine z_get F 0 11 10 inlX11 rfl rfl (by decide) fl_X11_79 rfl dX11_mixed_35 ?_
          refine z_aload_n F 0 dX11_mixed_38 rfl rfl ?_
          refine z_get F 0 11 1 inlX11 rfl rfl (by decide) fl_X11_19 rfl dX11_mixed_39 ?_
          refine z_iload_n F 1 dX11_mixed_42 rfl rfl ?_
          refine z_iload_n F 2 dX11_mixed_43 rfl rfl ?_
          refine z_iload_n F 3 dX11_mixed_44 rfl rfl ?_
          obtain ⟨r_1, text_top_2, text_worked_3, judge_known_4, thoughts_trial_length_5, thoughts_trial_who_6, hg, hf⟩ := zb6_some hf
          refine z_callVm (rest := []) F 10 (c_Thoughts_mixings (xL X) G a_thoughts a_crowd a_judge a_thoughts_trial a_thoughts_numbers a_thoughts_ahead a_thoughts_orders a_crowd_heights a_text a_judge_known a_text_tape a_text_reader a_text_steps a_text_worked a_thoughts_trial_who a_queue a_queue_who crowd_people crowd_heights text_fed text_length text_top text_steps text_worked judge_known thoughts_trial_length thoughts_trial_who queue_length queue_who x1 x2 x3 r_1 text_top_2 text_worked_3 judge_known_4 thoughts_trial_length_5 thoughts_trial_who_6 hg) hy_X10_mixings ml_X11_279 hd_X10_mixings ⟨by omega, by omega⟩ rfl [10, 1, 2, 8, 5, 6, 7, 9, 11, 12, 3, 4] rfl rfl 10 rfl rfl (w_T_mixed G a_this a_crowd a_queue a_text a_judge a_deeds a_mendings a_picture a_shelves a_books a_thoughts a_heads a_crowd_heights a_queue_who a_text_tape a_text_reader a_text_steps a_text_worked a_judge_known a_thoughts_trial a_thoughts_numbers a_thoughts_ahead a_thoughts_orders a_thoughts_trial_who hasPicture crowd_people crowd_heights queue_length queue_who text_fed text_length text_top_2 text_steps text_worked_3 judge_known_4 thoughts_trial_length_5 thoughts_trial_who_6) [none, some 1, some 2, some 10, some 11, some 4, some 5, some 6, some 3, some 7, some 0, some 8, some 9] rfl (by decide +kernel) rfl rfl (Nat.le_of_ble_eq_true rfl) dX11_mixed_45 (fun hz_7 => ?_)
          have eq1 := Option.some.inj hf
          obtain ⟨ee1, eq2⟩ := Prod.mk.inj eq1
          obtain ⟨ee2, eq3⟩ := Prod.mk.inj eq2
          obtain ⟨ee3, eq4⟩ := Prod.mk.inj eq3
          obtain ⟨ee4, eq5⟩ := Prod.mk.inj eq4
          obtain ⟨ee5, ee6⟩ := Prod.mk.inj eq5
          subst ee1
          subst ee2
          subst ee3
          subst ee4
          subst ee5
          subst ee6
          exact z_iret F rfl rfl rfl rfl dX11_mixed_48
        · refine z_aload_n F 0 dX11_mixed_21 rfl rfl ?_
          refine z_get F 0 11 0 inlX11 rfl rfl (by decide) fl_X11_10 rfl dX11_mixed_22 ?_
          refine z_iload_n F 3 dX11_mixed_25 rfl rfl ?_
          refine z_callVm (rest := []) F 1 (c_Crowd_isPerson (xL X) G a_crowd a_crowd_heights crowd_people x3 _ rfl) hy_X1_isPerson ml_X11_119 hd_X1_isPerson ⟨by omega, by omega⟩ rfl [1] rfl rfl 1 rfl rfl (w_T_mixed G a_this a_crowd a_queue a_text a_judge a_deeds a_mendings a_picture a_shelves a_books a_thoughts a_heads a_crowd_heights a_queue_who a_text_tape a_text_reader a_text_steps a_text_worked a_judge_known a_thoughts_trial a_thoughts_numbers a_thoughts_ahead a_thoughts_orders a_thoughts_trial_who hasPicture crowd_people crowd_heights queue_length queue_who text_fed text_length text_top text_steps text_worked judge_known thoughts_trial_length thoughts_trial_who) [none, some 0, none, none, none, none, none, none, none, none, none, none, none] rfl (by decide +kernel) rfl rfl (Nat.le_of_ble_eq_true rfl) dX11_mixed_26 (fun hz_8 => ?_)
          refine z_if_ne F 34 dX11_mixed_29 (by decide) hf (fun hf _ => ?_) (fun hf _ => ?_)
          · refine z_aload_n F 0 dX11_mixed_34 rfl rfl ?_
            refine z_get F 0 11 10 inlX11 rfl rfl (by decide) fl_X11_79 rfl dX11_mixed_35 ?_
            refine z_aload_n F 0 dX11_mixed_38 rfl rfl ?_
            refine z_get F 0 11 1 inlX11 rfl rfl (by decide) fl_X11_19 rfl dX11_mixed_39 ?_
            refine z_iload_n F 1 dX11_mixed_42 rfl rfl ?_
            refine z_iload_n F 2 dX11_mixed_43 rfl rfl ?_
            refine z_iload_n F 3 dX11_mixed_44 rfl rfl ?_
            obtain ⟨r_9, text_top_10, text_worked_11, judge_known_12, thoughts_trial_length_13, thoughts_trial_who_14, hg, hf⟩ := zb6_some hf
            refine z_callVm (rest := []) F 10 (c_Thoughts_mixings (xL X) G a_thoughts a_crowd a_judge a_thoughts_trial a_thoughts_numbers a_thoughts_ahead a_thoughts_orders a_crowd_heights a_text a_judge_known a_text_tape a_text_reader a_text_steps a_text_worked a_thoughts_trial_who a_queue a_queue_who crowd_people crowd_heights text_fed text_length text_top text_steps text_worked judge_known thoughts_trial_length thoughts_trial_who queue_length queue_who x1 x2 x3 r_9 text_top_10 text_worked_11 judge_known_12 thoughts_trial_length_13 thoughts_trial_who_14 hg) hy_X10_mixings ml_X11_279 hd_X10_mixings ⟨by omega, by omega⟩ rfl [10, 1, 2, 8, 5, 6, 7, 9, 11, 12, 3, 4] rfl rfl 10 rfl rfl (w_T_mixed G a_this a_crowd a_queue a_text a_judge a_deeds a_mendings a_picture a_shelves a_books a_thoughts a_heads a_crowd_heights a_queue_who a_text_tape a_text_reader a_text_steps a_text_worked a_judge_known a_thoughts_trial a_thoughts_numbers a_thoughts_ahead a_thoughts_orders a_thoughts_trial_who hasPicture crowd_people crowd_heights queue_length queue_who text_fed text_length text_top_10 text_steps text_worked_11 judge_known_12 thoughts_trial_length_13 thoughts_trial_who_14) [none, some 1, some 2, some 10, some 11, some 4, some 5, some 6, some 3, some 7, some 0, some 8, some 9] rfl (by decide +kernel) rfl rfl (Nat.le_of_ble_eq_true rfl) dX11_mixed_45 (fun hz_15 => ?_)
            have eq1 := Option.some.inj hf
            obtain ⟨ee1, eq2⟩ := Prod.mk.inj eq1
            obtain ⟨ee2, eq3⟩ := Prod.mk.inj eq2
            obtain ⟨ee3, eq4⟩ := Prod.mk.inj eq3
            obtain ⟨ee4, eq5⟩ := Prod.mk.inj eq4
            obtain ⟨ee5, ee6⟩ := Prod.mk.inj eq5
            subst ee1
            subst ee2
            subst ee3
            subst ee4
            subst ee5
            subst ee6
            exact z_iret F rfl rfl rfl rfl dX11_mixed_48
          · refine z_iconst F (-1) dX11_mixed_32 rfl ?_
            have eq1 := Option.some.inj hf
            obtain ⟨ee1, eq2⟩ := Prod.mk.inj eq1
            obtain ⟨ee2, eq3⟩ := Prod.mk.inj eq2
            obtain ⟨ee3, eq4⟩ := Prod.mk.inj eq3
            obtain ⟨ee4, eq5⟩ := Prod.mk.inj eq4
            obtain ⟨ee5, ee6⟩ := Prod.mk.inj eq5
            subst ee1
            subst ee2
            subst ee3
            subst ee4
            subst ee5
            subst ee6
            exact z_iret F rfl rfl rfl rfl dX11_mixed_33

abbrev w_T_image (G : zG) (a_this : Nat) (a_crowd : Nat) (a_queue : Nat) (a_text : Nat) (a_judge : Nat) (a_deeds : Nat) (a_mendings : Nat) (a_picture : Nat) (a_shelves : Nat) (a_books : Nat) (a_thoughts : Nat) (a_heads : Nat) (a_queue_who : Nat) (a_picture_who : Nat) (hasPicture : Int32) (queue_length : Int32) (queue_who : Nat → Int32) (picture_length : Int32) (picture_who : Nat → Int32) : va_W := [(a_this, cO 11 [.ref a_crowd, .ref a_queue, .ref a_text, .ref a_judge, .ref a_deeds, .ref a_mendings, .ref a_picture, .int hasPicture, .ref a_shelves, .ref a_books, .ref a_thoughts, .ref a_heads]), (a_queue, cO 7 [.ref a_queue_who, .int queue_length]), (a_queue_who, cI G 9 queue_who), (a_picture, cO 7 [.ref a_picture_who, .int picture_length]), (a_picture_who, cI G 9 picture_who)]
def f_T_image (hasPicture : Int32) (queue_length : Int32) (queue_who : Nat → Int32) (picture_length : Int32) (picture_who : Nat → Int32) : Option (Int32 × Int32 × Int32 × (Nat → Int32)) := (zb2 (f_Line_copyFrom picture_length picture_who queue_length queue_who) fun picture_length_1 picture_who_2 => (some ((f_Line_size queue_length), 1, picture_length_1, picture_who_2)))
set_option maxRecDepth 100000 in
set_option maxHeartbeats 4000000 in
theorem c_T_image (l : Launch) (G : zG) (a_this : Nat) (a_crowd : Nat) (a_queue : Nat) (a_text : Nat) (a_judge : Nat) (a_deeds : Nat) (a_mendings : Nat) (a_picture : Nat) (a_shelves : Nat) (a_books : Nat) (a_thoughts : Nat) (a_heads : Nat) (a_queue_who : Nat) (a_picture_who : Nat) (hasPicture : Int32) (queue_length : Int32) (queue_who : Nat → Int32) (picture_length : Int32) (picture_who : Nat → Int32) (r_ : Int32) (o_hasPicture : Int32) (o_picture_length : Int32) (o_picture_who : Nat → Int32) (hf : f_T_image hasPicture queue_length queue_who picture_length picture_who = some (r_, o_hasPicture, o_picture_length, o_picture_who)) : zM l yX11_image cX11_image 1 (some .int) 2 141 G [.ref a_this] (w_T_image G a_this a_crowd a_queue a_text a_judge a_deeds a_mendings a_picture a_shelves a_books a_thoughts a_heads a_queue_who a_picture_who hasPicture queue_length queue_who picture_length picture_who) (some (.int r_)) (w_T_image G a_this a_crowd a_queue a_text a_judge a_deeds a_mendings a_picture a_shelves a_books a_thoughts a_heads a_queue_who a_picture_who o_hasPicture queue_length queue_who o_picture_length o_picture_who) := by
  refine zM.of [(0, .ref a_this)] (own := RX11) rfl (by decide +kernel) (Nat.le_of_ble_eq_true rfl) rfl rfl fun X hX F => ?_
  subst hX
  replace hf := (f_T_image.eq_1 ..).symm.trans hf
  refine z_aload_n F 0 dX11_image_0 rfl rfl ?_
  refine z_get F 0 11 6 inlX11 rfl rfl (by decide) fl_X11_55 rfl dX11_image_1 ?_
  refine z_aload_n F 0 dX11_image_4 rfl rfl ?_
  refine z_get F 0 11 1 inlX11 rfl rfl (by decide) fl_X11_19 rfl dX11_image_5 ?_
  obtain ⟨picture_length_1, picture_who_2, hg, hf⟩ := zb2_some hf
  refine z_callVm (rest := []) F 7 (c_Line_copyFrom (xL X) G a_picture a_picture_who a_queue a_queue_who picture_length picture_who queue_length queue_who picture_length_1 picture_who_2 hg) hy_X7_copyFrom ml_X11_192 hd_X7_copyFrom ⟨by omega, by omega⟩ rfl [3, 4, 1, 2] rfl rfl 3 rfl rfl (w_T_image G a_this a_crowd a_queue a_text a_judge a_deeds a_mendings a_picture a_shelves a_books a_thoughts a_heads a_queue_who a_picture_who hasPicture queue_length queue_who picture_length_1 picture_who_2) [none, some 2, some 3, some 0, some 1] rfl (by decide +kernel) rfl rfl (Nat.le_of_ble_eq_true rfl) dX11_image_8 (fun hz_3 => ?_)
  refine z_aload_n F 0 dX11_image_11 rfl rfl ?_
  refine z_iconst F (1) dX11_image_12 rfl ?_
  refine z_put F 0 11 7 (w_T_image G a_this a_crowd a_queue a_text a_judge a_deeds a_mendings a_picture a_shelves a_books a_thoughts a_heads a_queue_who a_picture_who 1 queue_length queue_who picture_length_1 picture_who_2) inlX11 tyX11 tyX11_ok nmX11 rfl rfl (by decide) fl_X11_282 rfl rfl rfl (Nat.le_of_ble_eq_true rfl) rfl dX11_image_13 ?_
  refine z_aload_n F 0 dX11_image_16 rfl rfl ?_
  refine z_get F 0 11 1 inlX11 rfl rfl (by decide) fl_X11_19 rfl dX11_image_17 ?_
  refine z_callVm (rest := []) F 7 (c_Line_size (xL X) G a_queue a_queue_who queue_length _ rfl) hy_X7_size ml_X11_94 hd_X7_size ⟨by omega, by omega⟩ rfl [1] rfl rfl 1 rfl rfl (w_T_image G a_this a_crowd a_queue a_text a_judge a_deeds a_mendings a_picture a_shelves a_books a_thoughts a_heads a_queue_who a_picture_who 1 queue_length queue_who picture_length_1 picture_who_2) [none, some 0, none, none, none] rfl (by decide +kernel) rfl rfl (Nat.le_of_ble_eq_true rfl) dX11_image_20 (fun hz_4 => ?_)
  have eq1 := Option.some.inj hf
  obtain ⟨ee1, eq2⟩ := Prod.mk.inj eq1
  obtain ⟨ee2, eq3⟩ := Prod.mk.inj eq2
  obtain ⟨ee3, ee4⟩ := Prod.mk.inj eq3
  subst ee1
  subst ee2
  subst ee3
  subst ee4
  exact z_iret F rfl rfl rfl rfl dX11_image_23

