/-! by program (wip/whole/gen.py): pure functions and contracts -/
theorem dX11_ways_0 : decode cX11_ways 0 = .ok (.aload_n 0, 1) := by decide +kernel
theorem dX11_ways_1 : decode cX11_ways 1 = .ok (.getfield 61, 3) := by decide +kernel
theorem dX11_ways_4 : decode cX11_ways 4 = .ok (.iload_n 1, 1) := by decide +kernel
theorem dX11_ways_5 : decode cX11_ways 5 = .ok (.invokevirtual 102, 3) := by decide +kernel
theorem dX11_ways_8 : decode cX11_ways 8 = .ok (.ifCond .eq 15, 3) := by decide +kernel
theorem dX11_ways_11 : decode cX11_ways 11 = .ok (.iload_n 2, 1) := by decide +kernel
theorem dX11_ways_12 : decode cX11_ways 12 = .ok (.iconst (-1), 1) := by decide +kernel
theorem dX11_ways_13 : decode cX11_ways 13 = .ok (.if_icmp .eq 12, 3) := by decide +kernel
theorem dX11_ways_16 : decode cX11_ways 16 = .ok (.iload_n 2, 1) := by decide +kernel
theorem dX11_ways_17 : decode cX11_ways 17 = .ok (.invokestatic 221, 3) := by decide +kernel
theorem dX11_ways_20 : decode cX11_ways 20 = .ok (.ifCond .ne 5, 3) := by decide +kernel
theorem dX11_ways_23 : decode cX11_ways 23 = .ok (.iconst (-1), 1) := by decide +kernel
theorem dX11_ways_24 : decode cX11_ways 24 = .ok (.ireturn, 1) := by decide +kernel
theorem dX11_ways_25 : decode cX11_ways 25 = .ok (.aload_n 0, 1) := by decide +kernel
theorem dX11_ways_26 : decode cX11_ways 26 = .ok (.getfield 70, 3) := by decide +kernel
theorem dX11_ways_29 : decode cX11_ways 29 = .ok (.iload_n 1, 1) := by decide +kernel
theorem dX11_ways_30 : decode cX11_ways 30 = .ok (.aload_n 0, 1) := by decide +kernel
theorem dX11_ways_31 : decode cX11_ways 31 = .ok (.getfield 19, 3) := by decide +kernel
theorem dX11_ways_34 : decode cX11_ways 34 = .ok (.invokevirtual 224, 3) := by decide +kernel
theorem dX11_ways_37 : decode cX11_ways 37 = .ok (.istore_n 3, 1) := by decide +kernel
theorem dX11_ways_38 : decode cX11_ways 38 = .ok (.iload_n 3, 1) := by decide +kernel
theorem dX11_ways_39 : decode cX11_ways 39 = .ok (.ifCond .eq 5, 3) := by decide +kernel
theorem dX11_ways_42 : decode cX11_ways 42 = .ok (.iload_n 3, 1) := by decide +kernel
theorem dX11_ways_43 : decode cX11_ways 43 = .ok (.ireturn, 1) := by decide +kernel
theorem dX11_ways_44 : decode cX11_ways 44 = .ok (.iload_n 2, 1) := by decide +kernel
theorem dX11_ways_45 : decode cX11_ways 45 = .ok (.ifCond .ge 13, 3) := by decide +kernel
theorem dX11_ways_48 : decode cX11_ways 48 = .ok (.aload_n 0, 1) := by decide +kernel
theorem dX11_ways_49 : decode cX11_ways 49 = .ok (.getfield 70, 3) := by decide +kernel
theorem dX11_ways_52 : decode cX11_ways 52 = .ok (.invokevirtual 227, 3) := by decide +kernel
theorem dX11_ways_55 : decode cX11_ways 55 = .ok (.goto 11, 3) := by decide +kernel
theorem dX11_ways_58 : decode cX11_ways 58 = .ok (.aload_n 0, 1) := by decide +kernel
theorem dX11_ways_59 : decode cX11_ways 59 = .ok (.getfield 70, 3) := by decide +kernel
theorem dX11_ways_62 : decode cX11_ways 62 = .ok (.iload_n 2, 1) := by decide +kernel
theorem dX11_ways_63 : decode cX11_ways 63 = .ok (.invokevirtual 230, 3) := by decide +kernel
theorem dX11_ways_66 : decode cX11_ways 66 = .ok (.ireturn, 1) := by decide +kernel
theorem dX11_gap_0 : decode cX11_gap 0 = .ok (.aload_n 0, 1) := by decide +kernel
theorem dX11_gap_1 : decode cX11_gap 1 = .ok (.getfield 61, 3) := by decide +kernel
theorem dX11_gap_4 : decode cX11_gap 4 = .ok (.iload_n 1, 1) := by decide +kernel
theorem dX11_gap_5 : decode cX11_gap 5 = .ok (.invokevirtual 102, 3) := by decide +kernel
theorem dX11_gap_8 : decode cX11_gap 8 = .ok (.ifCond .eq 19, 3) := by decide +kernel
theorem dX11_gap_11 : decode cX11_gap 11 = .ok (.iload_n 2, 1) := by decide +kernel
theorem dX11_gap_12 : decode cX11_gap 12 = .ok (.invokestatic 221, 3) := by decide +kernel
theorem dX11_gap_15 : decode cX11_gap 15 = .ok (.ifCond .eq 12, 3) := by decide +kernel
theorem dX11_gap_18 : decode cX11_gap 18 = .ok (.iload_n 3, 1) := by decide +kernel
theorem dX11_gap_19 : decode cX11_gap 19 = .ok (.ifCond .lt 8, 3) := by decide +kernel
theorem dX11_gap_22 : decode cX11_gap 22 = .ok (.iload_n 3, 1) := by decide +kernel
theorem dX11_gap_23 : decode cX11_gap 23 = .ok (.iconst 1, 1) := by decide +kernel
theorem dX11_gap_24 : decode cX11_gap 24 = .ok (.if_icmp .le 5, 3) := by decide +kernel
theorem dX11_gap_27 : decode cX11_gap 27 = .ok (.iconst (-1), 1) := by decide +kernel
theorem dX11_gap_28 : decode cX11_gap 28 = .ok (.ireturn, 1) := by decide +kernel
theorem dX11_gap_29 : decode cX11_gap 29 = .ok (.aload_n 0, 1) := by decide +kernel
theorem dX11_gap_30 : decode cX11_gap 30 = .ok (.getfield 70, 3) := by decide +kernel
theorem dX11_gap_33 : decode cX11_gap 33 = .ok (.iload_n 1, 1) := by decide +kernel
theorem dX11_gap_34 : decode cX11_gap 34 = .ok (.aload_n 0, 1) := by decide +kernel
theorem dX11_gap_35 : decode cX11_gap 35 = .ok (.getfield 19, 3) := by decide +kernel
theorem dX11_gap_38 : decode cX11_gap 38 = .ok (.invokevirtual 224, 3) := by decide +kernel
theorem dX11_gap_41 : decode cX11_gap 41 = .ok (.istore 4, 2) := by decide +kernel
theorem dX11_gap_43 : decode cX11_gap 43 = .ok (.iload 4, 2) := by decide +kernel
theorem dX11_gap_45 : decode cX11_gap 45 = .ok (.ifCond .eq 6, 3) := by decide +kernel
theorem dX11_gap_48 : decode cX11_gap 48 = .ok (.iload 4, 2) := by decide +kernel
theorem dX11_gap_50 : decode cX11_gap 50 = .ok (.ireturn, 1) := by decide +kernel
theorem dX11_gap_51 : decode cX11_gap 51 = .ok (.aload_n 0, 1) := by decide +kernel
theorem dX11_gap_52 : decode cX11_gap 52 = .ok (.getfield 70, 3) := by decide +kernel
theorem dX11_gap_55 : decode cX11_gap 55 = .ok (.invokevirtual 233, 3) := by decide +kernel
theorem dX11_gap_58 : decode cX11_gap 58 = .ok (.iconst 1, 1) := by decide +kernel
theorem dX11_gap_59 : decode cX11_gap 59 = .ok (.if_icmp .eq 6, 3) := by decide +kernel
theorem dX11_gap_62 : decode cX11_gap 62 = .ok (.bipush (-5), 2) := by decide +kernel
theorem dX11_gap_64 : decode cX11_gap 64 = .ok (.ireturn, 1) := by decide +kernel
theorem dX11_gap_65 : decode cX11_gap 65 = .ok (.aload_n 0, 1) := by decide +kernel
theorem dX11_gap_66 : decode cX11_gap 66 = .ok (.getfield 70, 3) := by decide +kernel
theorem dX11_gap_69 : decode cX11_gap 69 = .ok (.invokevirtual 236, 3) := by decide +kernel
theorem dX11_gap_72 : decode cX11_gap 72 = .ok (.istore 5, 2) := by decide +kernel
theorem dX11_gap_74 : decode cX11_gap 74 = .ok (.aload_n 0, 1) := by decide +kernel
theorem dX11_gap_75 : decode cX11_gap 75 = .ok (.getfield 70, 3) := by decide +kernel
theorem dX11_gap_78 : decode cX11_gap 78 = .ok (.invokevirtual 239, 3) := by decide +kernel
theorem dX11_gap_81 : decode cX11_gap 81 = .ok (.istore 6, 2) := by decide +kernel
theorem dX11_gap_83 : decode cX11_gap 83 = .ok (.iload_n 2, 1) := by decide +kernel
theorem dX11_gap_84 : decode cX11_gap 84 = .ok (.iload 6, 2) := by decide +kernel
theorem dX11_gap_86 : decode cX11_gap 86 = .ok (.if_icmp .lt 12, 3) := by decide +kernel
theorem dX11_gap_89 : decode cX11_gap 89 = .ok (.iload_n 2, 1) := by decide +kernel
theorem dX11_gap_90 : decode cX11_gap 90 = .ok (.iload 6, 2) := by decide +kernel
theorem dX11_gap_92 : decode cX11_gap 92 = .ok (.iload 5, 2) := by decide +kernel
theorem dX11_gap_94 : decode cX11_gap 94 = .ok (.iadd, 1) := by decide +kernel
theorem dX11_gap_95 : decode cX11_gap 95 = .ok (.if_icmp .le 6, 3) := by decide +kernel
theorem dX11_gap_98 : decode cX11_gap 98 = .ok (.bipush (-2), 2) := by decide +kernel
theorem dX11_gap_100 : decode cX11_gap 100 = .ok (.ireturn, 1) := by decide +kernel
theorem dX11_gap_101 : decode cX11_gap 101 = .ok (.iload_n 2, 1) := by decide +kernel
theorem dX11_gap_102 : decode cX11_gap 102 = .ok (.iload 6, 2) := by decide +kernel
theorem dX11_gap_104 : decode cX11_gap 104 = .ok (.isub, 1) := by decide +kernel
theorem dX11_gap_105 : decode cX11_gap 105 = .ok (.istore 7, 2) := by decide +kernel
theorem dX11_gap_107 : decode cX11_gap 107 = .ok (.iload_n 3, 1) := by decide +kernel
theorem dX11_gap_108 : decode cX11_gap 108 = .ok (.ifCond .ne 6, 3) := by decide +kernel
theorem dX11_gap_111 : decode cX11_gap 111 = .ok (.iload 7, 2) := by decide +kernel
theorem dX11_gap_113 : decode cX11_gap 113 = .ok (.ireturn, 1) := by decide +kernel
theorem dX11_gap_114 : decode cX11_gap 114 = .ok (.aload_n 0, 1) := by decide +kernel
theorem dX11_gap_115 : decode cX11_gap 115 = .ok (.getfield 70, 3) := by decide +kernel
theorem dX11_gap_118 : decode cX11_gap 118 = .ok (.iload 5, 2) := by decide +kernel
theorem dX11_gap_120 : decode cX11_gap 120 = .ok (.iload 7, 2) := by decide +kernel
theorem dX11_gap_122 : decode cX11_gap 122 = .ok (.invokevirtual 242, 3) := by decide +kernel
theorem dX11_gap_125 : decode cX11_gap 125 = .ok (.aload_n 0, 1) := by decide +kernel
theorem dX11_gap_126 : decode cX11_gap 126 = .ok (.getfield 70, 3) := by decide +kernel
theorem dX11_gap_129 : decode cX11_gap 129 = .ok (.aload_n 0, 1) := by decide +kernel
theorem dX11_gap_130 : decode cX11_gap 130 = .ok (.getfield 19, 3) := by decide +kernel
theorem dX11_gap_133 : decode cX11_gap 133 = .ok (.invokevirtual 188, 3) := by decide +kernel
theorem dX11_gap_136 : decode cX11_gap 136 = .ok (.iload 5, 2) := by decide +kernel
theorem dX11_gap_138 : decode cX11_gap 138 = .ok (.invokevirtual 202, 3) := by decide +kernel
theorem dX11_gap_141 : decode cX11_gap 141 = .ok (.ireturn, 1) := by decide +kernel
theorem hy_X0_allFillings : Cond.code yX0_allFillings cX0_allFillings 3 (some .int) ∈ wsL_law ∧ Cond.initialized yX0_allFillings.cls ∈ wsL_law ∧ Cond.instanceMethod yX0_allFillings ∈ wsL_law ∧ Cond.selects yX0_allFillings.cls yX0_allFillings yX0_allFillings ∈ wsL_law := ⟨(uw37 _ (List.mem_of_getElem? (i := 22) rfl)), (uw2 _ (List.mem_of_getElem? (i := 20) rfl)), (uw37 _ (List.mem_of_getElem? (i := 20) rfl)), (uw37 _ (List.mem_of_getElem? (i := 21) rfl))⟩
theorem hd_X0_allFillings : yX0_allFillings.cls ≠ "java/lang/invoke/MethodHandle" ∧ yX0_allFillings.cls ≠ "java/lang/invoke/VarHandle" ∧ (parseMethodDescriptor yX0_allFillings.desc).map (fun d => d.parameters.length) = some 0 := ⟨by decide +kernel, by decide +kernel, by decide +kernel⟩
theorem hy_X0_fill : Cond.code yX0_fill cX0_fill 3 none ∈ wsL_law ∧ Cond.initialized yX0_fill.cls ∈ wsL_law ∧ Cond.instanceMethod yX0_fill ∈ wsL_law ∧ Cond.selects yX0_fill.cls yX0_fill yX0_fill ∈ wsL_law := ⟨(uw39 _ (List.mem_of_getElem? (i := 12) rfl)), (uw2 _ (List.mem_of_getElem? (i := 20) rfl)), (uw39 _ (List.mem_of_getElem? (i := 10) rfl)), (uw39 _ (List.mem_of_getElem? (i := 11) rfl))⟩
theorem hd_X0_fill : yX0_fill.cls ≠ "java/lang/invoke/MethodHandle" ∧ yX0_fill.cls ≠ "java/lang/invoke/VarHandle" ∧ (parseMethodDescriptor yX0_fill.desc).map (fun d => d.parameters.length) = some 2 := ⟨by decide +kernel, by decide +kernel, by decide +kernel⟩
theorem hy_X0_fillingsOf : Cond.code yX0_fillingsOf cX0_fillingsOf 4 (some .int) ∈ wsL_law ∧ Cond.initialized yX0_fillingsOf.cls ∈ wsL_law ∧ Cond.instanceMethod yX0_fillingsOf ∈ wsL_law ∧ Cond.selects yX0_fillingsOf.cls yX0_fillingsOf yX0_fillingsOf ∈ wsL_law := ⟨(uw38 _ (List.mem_of_getElem? (i := 2) rfl)), (uw2 _ (List.mem_of_getElem? (i := 20) rfl)), (uw38 _ (List.mem_of_getElem? (i := 0) rfl)), (uw38 _ (List.mem_of_getElem? (i := 1) rfl))⟩
theorem hd_X0_fillingsOf : yX0_fillingsOf.cls ≠ "java/lang/invoke/MethodHandle" ∧ yX0_fillingsOf.cls ≠ "java/lang/invoke/VarHandle" ∧ (parseMethodDescriptor yX0_fillingsOf.desc).map (fun d => d.parameters.length) = some 1 := ⟨by decide +kernel, by decide +kernel, by decide +kernel⟩
theorem hy_X0_firstSmeared : Cond.code yX0_firstSmeared cX0_firstSmeared 2 (some .int) ∈ wsL_law ∧ Cond.initialized yX0_firstSmeared.cls ∈ wsL_law ∧ Cond.instanceMethod yX0_firstSmeared ∈ wsL_law ∧ Cond.selects yX0_firstSmeared.cls yX0_firstSmeared yX0_firstSmeared ∈ wsL_law := ⟨(uw39 _ (List.mem_of_getElem? (i := 7) rfl)), (uw2 _ (List.mem_of_getElem? (i := 20) rfl)), (uw39 _ (List.mem_of_getElem? (i := 5) rfl)), (uw39 _ (List.mem_of_getElem? (i := 6) rfl))⟩
theorem hd_X0_firstSmeared : yX0_firstSmeared.cls ≠ "java/lang/invoke/MethodHandle" ∧ yX0_firstSmeared.cls ≠ "java/lang/invoke/VarHandle" ∧ (parseMethodDescriptor yX0_firstSmeared.desc).map (fun d => d.parameters.length) = some 0 := ⟨by decide +kernel, by decide +kernel, by decide +kernel⟩
theorem ml_X11_221 : Cond.methodLink RX11 221 yX0_isDisquiet ∈ wsL_law := (uw37 _ (List.mem_of_getElem? (i := 15) rfl))
theorem ml_X11_224 : Cond.methodLink RX11 224 yX0_refusalToFill ∈ wsL_law := (uw37 _ (List.mem_of_getElem? (i := 18) rfl))
theorem ml_X11_227 : Cond.methodLink RX11 227 yX0_allFillings ∈ wsL_law := (uw37 _ (List.mem_of_getElem? (i := 19) rfl))
theorem ml_X11_230 : Cond.methodLink RX11 230 yX0_fillingsOf ∈ wsL_law := (uw37 _ (List.mem_of_getElem? (i := 23) rfl))
theorem ml_X11_233 : Cond.methodLink RX11 233 yX0_smearedOnes ∈ wsL_law := (uw39 _ (List.mem_of_getElem? (i := 3) rfl))
theorem ml_X11_236 : Cond.methodLink RX11 236 yX0_firstSmeared ∈ wsL_law := (uw39 _ (List.mem_of_getElem? (i := 4) rfl))
theorem ml_X11_239 : Cond.methodLink RX11 239 yX0_sumOfNumbers ∈ wsL_law := (uw39 _ (List.mem_of_getElem? (i := 8) rfl))
theorem ml_X11_242 : Cond.methodLink RX11 242 yX0_fill ∈ wsL_law := (uw39 _ (List.mem_of_getElem? (i := 9) rfl))
abbrev w_T_ways (G : zG) (a_this : Nat) (a_crowd : Nat) (a_queue : Nat) (a_text : Nat) (a_judge : Nat) (a_deeds : Nat) (a_mendings : Nat) (a_picture : Nat) (a_shelves : Nat) (a_books : Nat) (a_thoughts : Nat) (a_heads : Nat) (a_queue_who : Nat) (a_shelves_sorts : Nat) (a_shelves_sizes : Nat) (a_shelves_held : Nat) (a_shelves_elements : Nat) (a_shelves_elements_e : Nat → Nat) (a_books_numbers : Nat) (a_books_left : Nat) (a_books_result : Nat) (a_books_fillings : Nat) (a_books_spare : Nat) (a_books_rowCounts : Nat) (hasPicture : Int32) (queue_length : Int32) (shelves_sorts : Nat → Int32) (shelves_sizes : Nat → Int32) (shelves_elements_e : Nat → (Nat → Int64)) (books_size : Int32) (books_numbers : Nat → Int32) (books_fillings : Nat → Int32) (books_spare : Nat → Int32) : va_W := [(a_this, cO 11 [.ref a_crowd, .ref a_queue, .ref a_text, .ref a_judge, .ref a_deeds, .ref a_mendings, .ref a_picture, .int hasPicture, .ref a_shelves, .ref a_books, .ref a_thoughts, .ref a_heads]), (a_queue, cO 7 [.ref a_queue_who, .int queue_length]), (a_shelves, cO 9 [.ref a_shelves_sorts, .ref a_shelves_sizes, .ref a_shelves_held, .ref a_shelves_elements]), (a_shelves_sorts, cI G 6 shelves_sorts), (a_shelves_sizes, cI G 6 shelves_sizes), (a_shelves_elements, cJJ G 6 (fun j => some (a_shelves_elements_e j))), ((a_shelves_elements_e 0), cJ G 60 (shelves_elements_e 0)), ((a_shelves_elements_e 1), cJ G 60 (shelves_elements_e 1)), ((a_shelves_elements_e 2), cJ G 60 (shelves_elements_e 2)), ((a_shelves_elements_e 3), cJ G 60 (shelves_elements_e 3)), ((a_shelves_elements_e 4), cJ G 60 (shelves_elements_e 4)), ((a_shelves_elements_e 5), cJ G 60 (shelves_elements_e 5)), (a_books, cO 0 [.ref a_crowd, .ref a_shelves, .ref a_books_numbers, .int books_size, .ref a_books_left, .ref a_books_result, .ref a_books_fillings, .ref a_books_spare, .ref a_books_rowCounts]), (a_books_numbers, cI G 9 books_numbers), (a_books_fillings, cI G 37 books_fillings), (a_books_spare, cI G 37 books_spare)]
def f_T_ways (queue_length : Int32) (shelves_sorts : Nat → Int32) (shelves_sizes : Nat → Int32) (shelves_elements_e : Nat → (Nat → Int64)) (books_size : Int32) (books_numbers : Nat → Int32) (books_fillings : Nat → Int32) (books_spare : Nat → Int32) (x1 : Int32) (x2 : Int32) : Option (Int32 × Int32 × (Nat → Int32) × (Nat → Int32) × (Nat → Int32)) := (if (f_Shelves_isShelf x1) = 0 then (some ((-1), books_size, books_numbers, books_fillings, books_spare)) else (if x2 = (-1) then (zb3 (f_Books_refusalToFill books_size shelves_sorts shelves_sizes shelves_elements_e books_numbers queue_length x1) fun r_2 books_size_3 books_numbers_4 => (if r_2 = 0 then (if (0 : Int32) ≤ x2 then (zb3 (f_Books_fillingsOf books_size_3 books_numbers_4 books_fillings books_spare x2) fun r_6 books_fillings_7 books_spare_8 => (some (r_6, books_size_3, books_numbers_4, books_fillings_7, books_spare_8))) else (zb1 (f_Books_allFillings books_size_3 books_numbers_4) fun r_10 => (some (r_10, books_size_3, books_numbers_4, books_fillings, books_spare)))) else (some (r_2, books_size_3, books_numbers_4, books_fillings, books_spare)))) else (if (f_Books_isDisquiet x2) = 0 then (some ((-1), books_size, books_numbers, books_fillings, books_spare)) else (zb3 (f_Books_refusalToFill books_size shelves_sorts shelves_sizes shelves_elements_e books_numbers queue_length x1) fun r_13 books_size_14 books_numbers_15 => (if r_13 = 0 then (if (0 : Int32) ≤ x2 then (zb3 (f_Books_fillingsOf books_size_14 books_numbers_15 books_fillings books_spare x2) fun r_17 books_fillings_18 books_spare_19 => (some (r_17, books_size_14, books_numbers_15, books_fillings_18, books_spare_19))) else (zb1 (f_Books_allFillings books_size_14 books_numbers_15) fun r_21 => (some (r_21, books_size_14, books_numbers_15, books_fillings, books_spare)))) else (some (r_13, books_size_14, books_numbers_15, books_fillings, books_spare)))))))
set_option maxRecDepth 100000 in
set_option maxHeartbeats 4000000 in
theorem c_T_ways (l : Launch) (G : zG) (a_this : Nat) (a_crowd : Nat) (a_queue : Nat) (a_text : Nat) (a_judge : Nat) (a_deeds : Nat) (a_mendings : Nat) (a_picture : Nat) (a_shelves : Nat) (a_books : Nat) (a_thoughts : Nat) (a_heads : Nat) (a_queue_who : Nat) (a_shelves_sorts : Nat) (a_shelves_sizes : Nat) (a_shelves_held : Nat) (a_shelves_elements : Nat) (a_shelves_elements_e : Nat → Nat) (a_books_numbers : Nat) (a_books_left : Nat) (a_books_result : Nat) (a_books_fillings : Nat) (a_books_spare : Nat) (a_books_rowCounts : Nat) (hasPicture : Int32) (queue_length : Int32) (shelves_sorts : Nat → Int32) (shelves_sizes : Nat → Int32) (shelves_elements_e : Nat → (Nat → Int64)) (books_size : Int32) (books_numbers : Nat → Int32) (books_fillings : Nat → Int32) (books_spare : Nat → Int32) (x1 : Int32) (x2 : Int32) (r_ : Int32) (o_books_size : Int32) (o_books_numbers : Nat → Int32) (o_books_fillings : Nat → Int32) (o_books_spare : Nat → Int32) (hf : f_T_ways queue_length shelves_sorts shelves_sizes shelves_elements_e books_size books_numbers books_fillings books_spare x1 x2 = some (r_, o_books_size, o_books_numbers, o_books_fillings, o_books_spare)) : zM l yX11_ways cX11_ways 4 (some .int) 5 143 G [.ref a_this, .int x1, .int x2] (w_T_ways G a_this a_crowd a_queue a_text a_judge a_deeds a_mendings a_picture a_shelves a_books a_thoughts a_heads a_queue_who a_shelves_sorts a_shelves_sizes a_shelves_held a_shelves_elements a_shelves_elements_e a_books_numbers a_books_left a_books_result a_books_fillings a_books_spare a_books_rowCounts hasPicture queue_length shelves_sorts shelves_sizes shelves_elements_e books_size books_numbers books_fillings books_spare) (some (.int r_)) (w_T_ways G a_this a_crowd a_queue a_text a_judge a_deeds a_mendings a_picture a_shelves a_books a_thoughts a_heads a_queue_who a_shelves_sorts a_shelves_sizes a_shelves_held a_shelves_elements a_shelves_elements_e a_books_numbers a_books_left a_books_result a_books_fillings a_books_spare a_books_rowCounts hasPicture queue_length shelves_sorts shelves_sizes shelves_elements_e o_books_size o_books_numbers o_books_fillings o_books_spare) := by
  refine zM.of [(0, .ref a_this), (1, .int x1), (2, .int x2)] (own := RX11) rfl (by decide +kernel) (Nat.le_of_ble_eq_true rfl) rfl rfl fun X hX F => ?_
  subst hX
  replace hf := (f_T_ways.eq_1 ..).symm.trans hf
  refine z_aload_n F 0 dX11_ways_0 rfl rfl ?_
  refine z_get F 0 11 8 inlX11 rfl rfl (by decide) fl_X11_61 rfl dX11_ways_1 ?_
  refine z_iload_n F 1 dX11_ways_4 rfl rfl ?_
  refine z_callVm (rest := []) F 9 (c_Shelves_isShelf (xL X) G a_shelves a_shelves_sorts a_shelves_sizes a_shelves_held a_shelves_elements x1 _ rfl) hy_X9_isShelf ml_X11_102 hd_X9_isShelf ⟨by omega, by omega⟩ rfl [2] rfl rfl 2 rfl rfl (w_T_ways G a_this a_crowd a_queue a_text a_judge a_deeds a_mendings a_picture a_shelves a_books a_thoughts a_heads a_queue_who a_shelves_sorts a_shelves_sizes a_shelves_held a_shelves_elements a_shelves_elements_e a_books_numbers a_books_left a_books_result a_books_fillings a_books_spare a_books_rowCounts hasPicture queue_length shelves_sorts shelves_sizes shelves_elements_e books_size books_numbers books_fillings books_spare) [none, none, some 0, none, none, none, none, none, none, none, none, none, none, none, none, none] rfl (by decide +kernel) rfl rfl (Nat.le_of_ble_eq_true rfl) dX11_ways_5 (fun hz_1 => ?_)
  refine z_if_eq F 23 dX11_ways_8 (by decide) hf (fun hf _ => ?_) (fun hf _ => ?_)
  · refine z_iconst F (-1) dX11_ways_23 rfl ?_
    have eq1 := Option.some.inj hf
    obtain ⟨ee1, eq2⟩ := Prod.mk.inj eq1
    obtain ⟨ee2, eq3⟩ := Prod.mk.inj eq2
    obtain ⟨ee3, eq4⟩ := Prod.mk.inj eq3
    obtain ⟨ee4, ee5⟩ := Prod.mk.inj eq4
    subst ee1
    subst ee2
    subst ee3
    subst ee4
    subst ee5
    exact z_iret F rfl rfl rfl rfl dX11_ways_24
  · refine z_iload_n F 2 dX11_ways_11 rfl rfl ?_
    refine z_iconst F (-1) dX11_ways_12 rfl ?_
    refine z_icmp_eq F 25 dX11_ways_13 (by decide) hf (fun hf _ => ?_) (fun hf _ => ?_)
    · refine z_aload_n F 0 dX11_ways_25 rfl rfl ?_
      refine z_get F 0 11 9 inlX11 rfl rfl (by decide) fl_X11_70 rfl dX11_ways_26 ?_
      refine z_iload_n F 1 dX11_ways_29 rfl rfl ?_
      refine z_aload_n F 0 dX11_ways_30 rfl rfl ?_
      refine z_get F 0 11 1 inlX11 rfl rfl (by decide) fl_X11_19 rfl dX11_ways_31 ?_
      obtain ⟨r_2, books_size_3, books_numbers_4, hg, hf⟩ := zb3_some hf
      refine z_callVm (rest := []) F 0 (c_Books_refusalToFill (xL X) G a_books a_crowd a_shelves a_books_numbers a_books_left a_books_result a_books_fillings a_books_spare a_books_rowCounts a_shelves_sorts a_shelves_sizes a_shelves_held a_shelves_elements a_shelves_elements_e a_queue a_queue_who books_size shelves_sorts shelves_sizes shelves_elements_e books_numbers queue_length x1 r_2 books_size_3 books_numbers_4 hg) hy_X0_refusalToFill ml_X11_224 hd_X0_refusalToFill ⟨by omega, by omega⟩ rfl [12, 2, 3, 4, 5, 6, 7, 8, 9, 10, 11, 13, 1] rfl rfl 12 rfl rfl (w_T_ways G a_this a_crowd a_queue a_text a_judge a_deeds a_mendings a_picture a_shelves a_books a_thoughts a_heads a_queue_who a_shelves_sorts a_shelves_sizes a_shelves_held a_shelves_elements a_shelves_elements_e a_books_numbers a_books_left a_books_result a_books_fillings a_books_spare a_books_rowCounts hasPicture queue_length shelves_sorts shelves_sizes shelves_elements_e books_size_3 books_numbers_4 books_fillings books_spare) [none, some 12, some 1, some 2, some 3, some 4, some 5, some 6, some 7, some 8, some 9, some 10, some 0, some 11, none, none] rfl (by decide +kernel) rfl rfl (Nat.le_of_ble_eq_true rfl) dX11_ways_34 (fun hz_5 => ?_)
      refine z_istore_n F [(3, .int r_2), (0, .ref a_this), (1, .int x1), (2, .int x2)] dX11_ways_37 rfl (by decide) rfl ?_
      refine z_iload_n F 0 dX11_ways_38 rfl rfl ?_
      refine z_if_eq F 44 dX11_ways_39 (by decide) hf (fun hf _ => ?_) (fun hf _ => ?_)
      · refine z_iload_n F 3 dX11_ways_44 rfl rfl ?_
        refine z_if_ge F 58 dX11_ways_45 (by decide) hf (fun hf _ => ?_) (fun hf _ => ?_)
        · refine z_aload_n F 1 dX11_ways_58 rfl rfl ?_
          refine z_get F 0 11 9 inlX11 rfl rfl (by decide) fl_X11_70 rfl dX11_ways_59 ?_
          refine z_iload_n F 3 dX11_ways_62 rfl rfl ?_
          obtain ⟨r_6, books_fillings_7, books_spare_8, hg, hf⟩ := zb3_some hf
          refine z_callVm (rest := []) F 0 (c_Books_fillingsOf (xL X) G a_books a_crowd a_shelves a_books_numbers a_books_left a_books_result a_books_fillings a_books_spare a_books_rowCounts books_size_3 books_numbers_4 books_fillings books_spare x2 r_6 books_fillings_7 books_spare_8 hg) hy_X0_fillingsOf ml_X11_230 hd_X0_fillingsOf ⟨by omega, by omega⟩ rfl [12, 13, 14, 15] rfl rfl 12 rfl rfl (w_T_ways G a_this a_crowd a_queue a_text a_judge a_deeds a_mendings a_picture a_shelves a_books a_thoughts a_heads a_queue_who a_shelves_sorts a_shelves_sizes a_shelves_held a_shelves_elements a_shelves_elements_e a_books_numbers a_books_left a_books_result a_books_fillings a_books_spare a_books_rowCounts hasPicture queue_length shelves_sorts shelves_sizes shelves_elements_e books_size_3 books_numbers_4 books_fillings_7 books_spare_8) [none, none, none, none, none, none, none, none, none, none, none, none, some 0, some 1, some 2, some 3] rfl (by decide +kernel) rfl rfl (Nat.le_of_ble_eq_true rfl) dX11_ways_63 (fun hz_9 => ?_)
          have eq1 := Option.some.inj hf
          obtain ⟨ee1, eq2⟩ := Prod.mk.inj eq1
          obtain ⟨ee2, eq3⟩ := Prod.mk.inj eq2
          obtain ⟨ee3, eq4⟩ := Prod.mk.inj eq3
          obtain ⟨ee4, ee5⟩ := Prod.mk.inj eq4
          subst ee1
          subst ee2
          subst ee3
          subst ee4
          subst ee5
          exact z_iret F rfl rfl rfl rfl dX11_ways_66
        · refine z_aload_n F 1 dX11_ways_48 rfl rfl ?_
          refine z_get F 0 11 9 inlX11 rfl rfl (by decide) fl_X11_70 rfl dX11_ways_49 ?_
          obtain ⟨r_10, hg, hf⟩ := zb1_some hf
          refine z_callVm (rest := []) F 0 (c_Books_allFillings (xL X) G a_books a_crowd a_shelves a_books_numbers a_books_left a_books_result a_books_fillings a_books_spare a_books_rowCounts books_size_3 books_numbers_4 r_10 hg) hy_X0_allFillings ml_X11_227 hd_X0_allFillings ⟨by omega, by omega⟩ rfl [12, 13] rfl rfl 12 rfl rfl (w_T_ways G a_this a_crowd a_queue a_text a_judge a_deeds a_mendings a_picture a_shelves a_books a_thoughts a_heads a_queue_who a_shelves_sorts a_shelves_sizes a_shelves_held a_shelves_elements a_shelves_elements_e a_books_numbers a_books_left a_books_result a_books_fillings a_books_spare a_books_rowCounts hasPicture queue_length shelves_sorts shelves_sizes shelves_elements_e books_size_3 books_numbers_4 books_fillings books_spare) [none, none, none, none, none, none, none, none, none, none, none, none, some 0, some 1, none, none] rfl (by decide +kernel) rfl rfl (Nat.le_of_ble_eq_true rfl) dX11_ways_52 (fun hz_11 => ?_)
          refine z_goto F 66 dX11_ways_55 (by decide) ?_
          have eq1 := Option.some.inj hf
          obtain ⟨ee1, eq2⟩ := Prod.mk.inj eq1
          obtain ⟨ee2, eq3⟩ := Prod.mk.inj eq2
          obtain ⟨ee3, eq4⟩ := Prod.mk.inj eq3
          obtain ⟨ee4, ee5⟩ := Prod.mk.inj eq4
          subst ee1
          subst ee2
          subst ee3
          subst ee4
          subst ee5
          exact z_iret F rfl rfl rfl rfl dX11_ways_66
      · refine z_iload_n F 0 dX11_ways_42 rfl rfl ?_
        have eq1 := Option.some.inj hf
        obtain ⟨ee1, eq2⟩ := Prod.mk.inj eq1
        obtain ⟨ee2, eq3⟩ := Prod.mk.inj eq2
        obtain ⟨ee3, eq4⟩ := Prod.mk.inj eq3
        obtain ⟨ee4, ee5⟩ := Prod.mk.inj eq4
        subst ee1
        subst ee2
        subst ee3
        subst ee4
        subst ee5
        exact z_iret F rfl rfl rfl rfl dX11_ways_43
    · refine z_iload_n F 2 dX11_ways_16 rfl rfl ?_
      refine z_callSm (rest := []) F (c_Books_isDisquiet (xL X) G x2 _ rfl) hy_X0_isDisquiet ml_X11_221 hd_X0_isDisquiet ⟨by omega, by omega⟩ rfl [] rfl rfl (w_T_ways G a_this a_crowd a_queue a_text a_judge a_deeds a_mendings a_picture a_shelves a_books a_thoughts a_heads a_queue_who a_shelves_sorts a_shelves_sizes a_shelves_held a_shelves_elements a_shelves_elements_e a_books_numbers a_books_left a_books_result a_books_fillings a_books_spare a_books_rowCounts hasPicture queue_length shelves_sorts shelves_sizes shelves_elements_e books_size books_numbers books_fillings books_spare) [none, none, none, none, none, none, none, none, none, none, none, none, none, none, none, none] rfl (by decide +kernel) rfl rfl (Nat.le_of_ble_eq_true rfl) dX11_ways_17 (fun hz_12 => ?_)
      refine z_if_ne F 25 dX11_ways_20 (by decide) hf (fun hf _ => ?_) (fun hf _ => ?_)
      · refine z_aload_n F 0 dX11_ways_25 rfl rfl ?_
        refine z_get F 0 11 9 inlX11 rfl rfl (by decide) fl_X11_70 rfl dX11_ways_26 ?_
        refine z_iload_n F 1 dX11_ways_29 rfl rfl ?_
        refine z_aload_n F 0 dX11_ways_30 rfl rfl ?_
        refine z_get F 0 11 1 inlX11 rfl rfl (by decide) fl_X11_19 rfl dX11_ways_31 ?_
        obtain ⟨r_13, books_size_14, books_numbers_15, hg, hf⟩ := zb3_some hf
        refine z_callVm (rest := []) F 0 (c_Books_refusalToFill (xL X) G a_books a_crowd a_shelves a_books_numbers a_books_left a_books_result a_books_fillings a_books_spare a_books_rowCounts a_shelves_sorts a_shelves_sizes a_shelves_held a_shelves_elements a_shelves_elements_e a_queue a_queue_who books_size shelves_sorts shelves_sizes shelves_elements_e books_numbers queue_length x1 r_13 books_size_14 books_numbers_15 hg) hy_X0_refusalToFill ml_X11_224 hd_X0_refusalToFill ⟨by omega, by omega⟩ rfl [12, 2, 3, 4, 5, 6, 7, 8, 9, 10, 11, 13, 1] rfl rfl 12 rfl rfl (w_T_ways G a_this a_crowd a_queue a_text a_judge a_deeds a_mendings a_picture a_shelves a_books a_thoughts a_heads a_queue_who a_shelves_sorts a_shelves_sizes a_shelves_held a_shelves_elements a_shelves_elements_e a_books_numbers a_books_left a_books_result a_books_fillings a_books_spare a_books_rowCounts hasPicture queue_length shelves_sorts shelves_sizes shelves_elements_e books_size_14 books_numbers_15 books_fillings books_spare) [none, some 12, some 1, some 2, some 3, some 4, some 5, some 6, some 7, some 8, some 9, some 10, some 0, some 11, none, none] rfl (by decide +kernel) rfl rfl (Nat.le_of_ble_eq_true rfl) dX11_ways_34 (fun hz_16 => ?_)
        refine z_istore_n F [(3, .int r_13), (0, .ref a_this), (1, .int x1), (2, .int x2)] dX11_ways_37 rfl (by decide) rfl ?_
        refine z_iload_n F 0 dX11_ways_38 rfl rfl ?_
        refine z_if_eq F 44 dX11_ways_39 (by decide) hf (fun hf _ => ?_) (fun hf _ => ?_)
        · refine z_iload_n F 3 dX11_ways_44 rfl rfl ?_
          refine z_if_ge F 58 dX11_ways_45 (by decide) hf (fun hf _ => ?_) (fun hf _ => ?_)
          · refine z_aload_n F 1 dX11_ways_58 rfl rfl ?_
            refine z_get F 0 11 9 inlX11 rfl rfl (by decide) fl_X11_70 rfl dX11_ways_59 ?_
            refine z_iload_n F 3 dX11_ways_62 rfl rfl ?_
            obtain ⟨r_17, books_fillings_18, books_spare_19, hg, hf⟩ := zb3_some hf
            refine z_callVm (rest := []) F 0 (c_Books_fillingsOf (xL X) G a_books a_crowd a_shelves a_books_numbers a_books_left a_books_result a_books_fillings a_books_spare a_books_rowCounts books_size_14 books_numbers_15 books_fillings books_spare x2 r_17 books_fillings_18 books_spare_19 hg) hy_X0_fillingsOf ml_X11_230 hd_X0_fillingsOf ⟨by omega, by omega⟩ rfl [12, 13, 14, 15] rfl rfl 12 rfl rfl (w_T_ways G a_this a_crowd a_queue a_text a_judge a_deeds a_mendings a_picture a_shelves a_books a_thoughts a_heads a_queue_who a_shelves_sorts a_shelves_sizes a_shelves_held a_shelves_elements a_shelves_elements_e a_books_numbers a_books_left a_books_result a_books_fillings a_books_spare a_books_rowCounts hasPicture queue_length shelves_sorts shelves_sizes shelves_elements_e books_size_14 books_numbers_15 books_fillings_18 books_spare_19) [none, none, none, none, none, none, none, none, none, none, none, none, some 0, some 1, some 2, some 3] rfl (by decide +kernel) rfl rfl (Nat.le_of_ble_eq_true rfl) dX11_ways_63 (fun hz_20 => ?_)
            have eq1 := Option.some.inj hf
            obtain ⟨ee1, eq2⟩ := Prod.mk.inj eq1
            obtain ⟨ee2, eq3⟩ := Prod.mk.inj eq2
            obtain ⟨ee3, eq4⟩ := Prod.mk.inj eq3
            obtain ⟨ee4, ee5⟩ := Prod.mk.inj eq4
            subst ee1
            subst ee2
            subst ee3
            subst ee4
            subst ee5
            exact z_iret F rfl rfl rfl rfl dX11_ways_66
          · refine z_aload_n F 1 dX11_ways_48 rfl rfl ?_
            refine z_get F 0 11 9 inlX11 rfl rfl (by decide) fl_X11_70 rfl dX11_ways_49 ?_
            obtain ⟨r_21, hg, hf⟩ := zb1_some hf
            refine z_callVm (rest := []) F 0 (c_Books_allFillings (xL X) G a_books a_crowd a_shelves a_books_numbers a_books_left a_books_result a_books_fillings a_books_spare a_books_rowCounts books_size_14 books_numbers_15 r_21 hg) hy_X0_allFillings ml_X11_227 hd_X0_allFillings ⟨by omega, by omega⟩ rfl [12, 13] rfl rfl 12 rfl rfl (w_T_ways G a_this a_crowd a_queue a_text a_judge a_deeds a_mendings a_picture a_shelves a_books a_thoughts a_heads a_queue_who a_shelves_sorts a_shelves_sizes a_shelves_held a_shelves_elements a_shelves_elements_e a_books_numbers a_books_left a_books_result a_books_fillings a_books_spare a_books_rowCounts hasPicture queue_length shelves_sorts shelves_sizes shelves_elements_e books_size_14 books_numbers_15 books_fillings books_spare) [none, none, none, none, none, none, none, none, none, none, none, none, some 0, some 1, none, none] rfl (by decide +kernel) rfl rfl (Nat.le_of_ble_eq_true rfl) dX11_ways_52 (fun hz_22 => ?_)
            refine z_goto F 66 dX11_ways_55 (by decide) ?_
            have eq1 := Option.some.inj hf
            obtain ⟨ee1, eq2⟩ := Prod.mk.inj eq1
            obtain ⟨ee2, eq3⟩ := Prod.mk.inj eq2
            obtain ⟨ee3, eq4⟩ := Prod.mk.inj eq3
            obtain ⟨ee4, ee5⟩ := Prod.mk.inj eq4
            subst ee1
            subst ee2
            subst ee3
            subst ee4
            subst ee5
            exact z_iret F rfl rfl rfl rfl dX11_ways_66
        · refine z_iload_n F 0 dX11_ways_42 rfl rfl ?_
          have eq1 := Option.some.inj hf
          obtain ⟨ee1, eq2⟩ := Prod.mk.inj eq1
          obtain ⟨ee2, eq3⟩ := Prod.mk.inj eq2
          obtain ⟨ee3, eq4⟩ := Prod.mk.inj eq3
          obtain ⟨ee4, ee5⟩ := Prod.mk.inj eq4
          subst ee1
          subst ee2
          subst ee3
          subst ee4
          subst ee5
          exact z_iret F rfl rfl rfl rfl dX11_ways_43
      · refine z_iconst F (-1) dX11_ways_23 rfl ?_
        have eq1 := Option.some.inj hf
        obtain ⟨ee1, eq2⟩ := Prod.mk.inj eq1
        obtain ⟨ee2, eq3⟩ := Prod.mk.inj eq2
        obtain ⟨ee3, eq4⟩ := Prod.mk.inj eq3
        obtain ⟨ee4, ee5⟩ := Prod.mk.inj eq4
        subst ee1
        subst ee2
        subst ee3
        subst ee4
        subst ee5
        exact z_iret F rfl rfl rfl rfl dX11_ways_24

abbrev w_T_gap (G : zG) (a_this : Nat) (a_crowd : Nat) (a_queue : Nat) (a_text : Nat) (a_judge : Nat) (a_deeds : Nat) (a_mendings : Nat) (a_picture : Nat) (a_shelves : Nat) (a_books : Nat) (a_thoughts : Nat) (a_heads : Nat) (a_crowd_heights : Nat) (a_queue_who : Nat) (a_shelves_sorts : Nat) (a_shelves_sizes : Nat) (a_shelves_held : Nat) (a_shelves_elements : Nat) (a_shelves_elements_e : Nat → Nat) (a_books_numbers : Nat) (a_books_left : Nat) (a_books_result : Nat) (a_books_fillings : Nat) (a_books_spare : Nat) (a_books_rowCounts : Nat) (a_books_left_who : Nat) (a_books_result_who : Nat) (hasPicture : Int32) (crowd_people : Int32) (crowd_heights : Nat → Int32) (queue_length : Int32) (queue_who : Nat → Int32) (shelves_sorts : Nat → Int32) (shelves_sizes : Nat → Int32) (shelves_elements_e : Nat → (Nat → Int64)) (books_size : Int32) (books_numbers : Nat → Int32) (books_left_length : Int32) (books_left_who : Nat → Int32) (books_result_length : Int32) (books_result_who : Nat → Int32) : va_W := [(a_this, cO 11 [.ref a_crowd, .ref a_queue, .ref a_text, .ref a_judge, .ref a_deeds, .ref a_mendings, .ref a_picture, .int hasPicture, .ref a_shelves, .ref a_books, .ref a_thoughts, .ref a_heads]), (a_crowd, cO 1 [.ref a_crowd_heights, .int crowd_people]), (a_crowd_heights, cI G 9 crowd_heights), (a_queue, cO 7 [.ref a_queue_who, .int queue_length]), (a_queue_who, cI G 9 queue_who), (a_shelves, cO 9 [.ref a_shelves_sorts, .ref a_shelves_sizes, .ref a_shelves_held, .ref a_shelves_elements]), (a_shelves_sorts, cI G 6 shelves_sorts), (a_shelves_sizes, cI G 6 shelves_sizes), (a_shelves_elements, cJJ G 6 (fun j => some (a_shelves_elements_e j))), ((a_shelves_elements_e 0), cJ G 60 (shelves_elements_e 0)), ((a_shelves_elements_e 1), cJ G 60 (shelves_elements_e 1)), ((a_shelves_elements_e 2), cJ G 60 (shelves_elements_e 2)), ((a_shelves_elements_e 3), cJ G 60 (shelves_elements_e 3)), ((a_shelves_elements_e 4), cJ G 60 (shelves_elements_e 4)), ((a_shelves_elements_e 5), cJ G 60 (shelves_elements_e 5)), (a_books, cO 0 [.ref a_crowd, .ref a_shelves, .ref a_books_numbers, .int books_size, .ref a_books_left, .ref a_books_result, .ref a_books_fillings, .ref a_books_spare, .ref a_books_rowCounts]), (a_books_numbers, cI G 9 books_numbers), (a_books_left, cO 7 [.ref a_books_left_who, .int books_left_length]), (a_books_left_who, cI G 9 books_left_who), (a_books_result, cO 7 [.ref a_books_result_who, .int books_result_length]), (a_books_result_who, cI G 9 books_result_who)]
def f_T_gap (crowd_people : Int32) (crowd_heights : Nat → Int32) (queue_length : Int32) (queue_who : Nat → Int32) (shelves_sorts : Nat → Int32) (shelves_sizes : Nat → Int32) (shelves_elements_e : Nat → (Nat → Int64)) (books_size : Int32) (books_numbers : Nat → Int32) (books_left_length : Int32) (books_left_who : Nat → Int32) (books_result_length : Int32) (books_result_who : Nat → Int32) (x1 : Int32) (x2 : Int32) (x3 : Int32) : Option (Int32 × Int32 × (Nat → Int32) × Int32 × (Nat → Int32) × Int32 × (Nat → Int32)) := (if (f_Shelves_isShelf x1) = 0 then (some ((-1), books_size, books_numbers, books_left_length, books_left_who, books_result_length, books_result_who)) else (if (f_Books_isDisquiet x2) = 0 then (some ((-1), books_size, books_numbers, books_left_length, books_left_who, books_result_length, books_result_who)) else (if x3 < 0 then (some ((-1), books_size, books_numbers, books_left_length, books_left_who, books_result_length, books_result_who)) else (if x3 ≤ 1 then (zb3 (f_Books_refusalToFill books_size shelves_sorts shelves_sizes shelves_elements_e books_numbers queue_length x1) fun r_3 books_size_4 books_numbers_5 => (if r_3 = 0 then (zb1 (f_Books_smearedOnes books_size_4 books_numbers_5) fun r_7 => (if r_7 = 1 then (zb1 (f_Books_firstSmeared books_size_4 books_numbers_5) fun r_9 => (zb1 (f_Books_sumOfNumbers books_size_4 books_numbers_5) fun r_11 => (if x2 < r_11 then (some ((-2), books_size_4, books_numbers_5, books_left_length, books_left_who, books_result_length, books_result_who)) else (if x2 ≤ (r_11 + r_9) then (if x3 = 0 then (some ((x2 - r_11), books_size_4, books_numbers_5, books_left_length, books_left_who, books_result_length, books_result_who)) else (zb1 (f_Books_fill books_size_4 books_numbers_5 r_9 (x2 - r_11)) fun books_numbers_13 => (zb4 (f_Books_lineRestored books_size_4 crowd_people crowd_heights books_numbers_13 books_left_length books_left_who books_result_length books_result_who queue_length queue_who) fun books_left_length_15 books_left_who_16 books_result_length_17 books_result_who_18 => (zb1 (f_Line_at books_result_length_17 books_result_who_18 r_9) fun r_20 => (some (r_20, books_size_4, books_numbers_13, books_left_length_15, books_left_who_16, books_result_length_17, books_result_who_18)))))) else (some ((-2), books_size_4, books_numbers_5, books_left_length, books_left_who, books_result_length, books_result_who)))))) else (some ((-5), books_size_4, books_numbers_5, books_left_length, books_left_who, books_result_length, books_result_who)))) else (some (r_3, books_size_4, books_numbers_5, books_left_length, books_left_who, books_result_length, books_result_who)))) else (some ((-1), books_size, books_numbers, books_left_length, books_left_who, books_result_length, books_result_who))))))
set_option maxRecDepth 100000 in
set_option maxHeartbeats 4000000 in
theorem c_T_gap (l : Launch) (G : zG) (a_this : Nat) (a_crowd : Nat) (a_queue : Nat) (a_text : Nat) (a_judge : Nat) (a_deeds : Nat) (a_mendings : Nat) (a_picture : Nat) (a_shelves : Nat) (a_books : Nat) (a_thoughts : Nat) (a_heads : Nat) (a_crowd_heights : Nat) (a_queue_who : Nat) (a_shelves_sorts : Nat) (a_shelves_sizes : Nat) (a_shelves_held : Nat) (a_shelves_elements : Nat) (a_shelves_elements_e : Nat → Nat) (a_books_numbers : Nat) (a_books_left : Nat) (a_books_result : Nat) (a_books_fillings : Nat) (a_books_spare : Nat) (a_books_rowCounts : Nat) (a_books_left_who : Nat) (a_books_result_who : Nat) (hasPicture : Int32) (crowd_people : Int32) (crowd_heights : Nat → Int32) (queue_length : Int32) (queue_who : Nat → Int32) (shelves_sorts : Nat → Int32) (shelves_sizes : Nat → Int32) (shelves_elements_e : Nat → (Nat → Int64)) (books_size : Int32) (books_numbers : Nat → Int32) (books_left_length : Int32) (books_left_who : Nat → Int32) (books_result_length : Int32) (books_result_who : Nat → Int32) (x1 : Int32) (x2 : Int32) (x3 : Int32) (r_ : Int32) (o_books_size : Int32) (o_books_numbers : Nat → Int32) (o_books_left_length : Int32) (o_books_left_who : Nat → Int32) (o_books_result_length : Int32) (o_books_result_who : Nat → Int32) (hf : f_T_gap crowd_people crowd_heights queue_length queue_who shelves_sorts shelves_sizes shelves_elements_e books_size books_numbers books_left_length books_left_who books_result_length books_result_who x1 x2 x3 = some (r_, o_books_size, o_books_numbers, o_books_left_length, o_books_left_who, o_books_result_length, o_books_result_who)) : zM l yX11_gap cX11_gap 8 (some .int) 5 163 G [.ref a_this, .int x1, .int x2, .int x3] (w_T_gap G a_this a_crowd a_queue a_text a_judge a_deeds a_mendings a_picture a_shelves a_books a_thoughts a_heads a_crowd_heights a_queue_who a_shelves_sorts a_shelves_sizes a_shelves_held a_shelves_elements a_shelves_elements_e a_books_numbers a_books_left a_books_result a_books_fillings a_books_spare a_books_rowCounts a_books_left_who a_books_result_who hasPicture crowd_people crowd_heights queue_length queue_who shelves_sorts shelves_sizes shelves_elements_e books_size books_numbers books_left_length books_left_who books_result_length books_result_who) (some (.int r_)) (w_T_gap G a_this a_crowd a_queue a_text a_judge a_deeds a_mendings a_picture a_shelves a_books a_thoughts a_heads a_crowd_heights a_queue_who a_shelves_sorts a_shelves_sizes a_shelves_held a_shelves_elements a_shelves_elements_e a_books_numbers a_books_left a_books_result a_books_fillings a_books_spare a_books_rowCounts a_books_left_who a_books_result_who hasPicture crowd_people crowd_heights queue_length queue_who shelves_sorts shelves_sizes shelves_elements_e o_books_size o_books_numbers o_books_left_length o_books_left_who o_books_result_length o_books_result_who) := by
  refine zM.of [(0, .ref a_this), (1, .int x1), (2, .int x2), (3, .int x3)] (own := RX11) rfl (by decide +kernel) (Nat.le_of_ble_eq_true rfl) rfl rfl fun X hX F => ?_
  subst hX
  replace hf := (f_T_gap.eq_1 ..).symm.trans hf
  refine z_aload_n F 0 dX11_gap_0 rfl rfl ?_
  refine z_get F 0 11 8 inlX11 rfl rfl (by decide) fl_X11_61 rfl dX11_gap_1 ?_
  refine z_iload_n F 1 dX11_gap_4 rfl rfl ?_
  refine z_callVm (rest := []) F 9 (c_Shelves_isShelf (xL X) G a_shelves a_shelves_sorts a_shelves_sizes a_shelves_held a_shelves_elements x1 _ rfl) hy_X9_isShelf ml_X11_102 hd_X9_isShelf ⟨by omega, by omega⟩ rfl [5] rfl rfl 5 rfl rfl (w_T_gap G a_this a_crowd a_queue a_text a_judge a_deeds a_mendings a_picture a_shelves a_books a_thoughts a_heads a_crowd_heights a_queue_who a_shelves_sorts a_shelves_sizes a_shelves_held a_shelves_elements a_shelves_elements_e a_books_numbers a_books_left a_books_result a_books_fillings a_books_spare a_books_rowCounts a_books_left_who a_books_result_who hasPicture crowd_people crowd_heights queue_length queue_who shelves_sorts shelves_sizes shelves_elements_e books_size books_numbers books_left_length books_left_who books_result_length books_result_who) [none, none, none, none, none, some 0, none, none, none, none, none, none, none, none, none, none, none, none, none, none, none] rfl (by decide +kernel) rfl rfl (Nat.le_of_ble_eq_true rfl) dX11_gap_5 (fun hz_1 => ?_)
  refine z_if_eq F 27 dX11_gap_8 (by decide) hf (fun hf _ => ?_) (fun hf _ => ?_)
  · refine z_iconst F (-1) dX11_gap_27 rfl ?_
    have eq1 := Option.some.inj hf
    obtain ⟨ee1, eq2⟩ := Prod.mk.inj eq1
    obtain ⟨ee2, eq3⟩ := Prod.mk.inj eq2
    obtain ⟨ee3, eq4⟩ := Prod.mk.inj eq3
    obtain ⟨ee4, eq5⟩ := Prod.mk.inj eq4
    obtain ⟨ee5, eq6⟩ := Prod.mk.inj eq5
    obtain ⟨ee6, ee7⟩ := Prod.mk.inj eq6
    subst ee1
    subst ee2
    subst ee3
    subst ee4
    subst ee5
    subst ee6
    subst ee7
    exact z_iret F rfl rfl rfl rfl dX11_gap_28
  · refine z_iload_n F 2 dX11_gap_11 rfl rfl ?_
    refine z_callSm (rest := []) F (c_Books_isDisquiet (xL X) G x2 _ rfl) hy_X0_isDisquiet ml_X11_221 hd_X0_isDisquiet ⟨by omega, by omega⟩ rfl [] rfl rfl (w_T_gap G a_this a_crowd a_queue a_text a_judge a_deeds a_mendings a_picture a_shelves a_books a_thoughts a_heads a_crowd_heights a_queue_who a_shelves_sorts a_shelves_sizes a_shelves_held a_shelves_elements a_shelves_elements_e a_books_numbers a_books_left a_books_result a_books_fillings a_books_spare a_books_rowCounts a_books_left_who a_books_result_who hasPicture crowd_people crowd_heights queue_length queue_who shelves_sorts shelves_sizes shelves_elements_e books_size books_numbers books_left_length books_left_who books_result_length books_result_who) [none, none, none, none, none, none, none, none, none, none, none, none, none, none, none, none, none, none, none, none, none] rfl (by decide +kernel) rfl rfl (Nat.le_of_ble_eq_true rfl) dX11_gap_12 (fun hz_2 => ?_)
    refine z_if_eq F 27 dX11_gap_15 (by decide) hf (fun hf _ => ?_) (fun hf _ => ?_)
    · refine z_iconst F (-1) dX11_gap_27 rfl ?_
      have eq1 := Option.some.inj hf
      obtain ⟨ee1, eq2⟩ := Prod.mk.inj eq1
      obtain ⟨ee2, eq3⟩ := Prod.mk.inj eq2
      obtain ⟨ee3, eq4⟩ := Prod.mk.inj eq3
      obtain ⟨ee4, eq5⟩ := Prod.mk.inj eq4
      obtain ⟨ee5, eq6⟩ := Prod.mk.inj eq5
      obtain ⟨ee6, ee7⟩ := Prod.mk.inj eq6
      subst ee1
      subst ee2
      subst ee3
      subst ee4
      subst ee5
      subst ee6
      subst ee7
      exact z_iret F rfl rfl rfl rfl dX11_gap_28
    · refine z_iload_n F 3 dX11_gap_18 rfl rfl ?_
      refine z_if_lt F 27 dX11_gap_19 (by decide) hf (fun hf _ => ?_) (fun hf _ => ?_)
      · refine z_iconst F (-1) dX11_gap_27 rfl ?_
        have eq1 := Option.some.inj hf
        obtain ⟨ee1, eq2⟩ := Prod.mk.inj eq1
        obtain ⟨ee2, eq3⟩ := Prod.mk.inj eq2
        obtain ⟨ee3, eq4⟩ := Prod.mk.inj eq3
        obtain ⟨ee4, eq5⟩ := Prod.mk.inj eq4
        obtain ⟨ee5, eq6⟩ := Prod.mk.inj eq5
        obtain ⟨ee6, ee7⟩ := Prod.mk.inj eq6
        subst ee1
        subst ee2
        subst ee3
        subst ee4
        subst ee5
        subst ee6
        subst ee7
        exact z_iret F rfl rfl rfl rfl dX11_gap_28
      · refine z_iload_n F 3 dX11_gap_22 rfl rfl ?_
        refine z_iconst F (1) dX11_gap_23 rfl ?_
        refine z_icmp_le F 29 dX11_gap_24 (by decide) hf (fun hf _ => ?_) (fun hf _ => ?_)
        · refine z_aload_n F 0 dX11_gap_29 rfl rfl ?_
          refine z_get F 0 11 9 inlX11 rfl rfl (by decide) fl_X11_70 rfl dX11_gap_30 ?_
          refine z_iload_n F 1 dX11_gap_33 rfl rfl ?_
          refine z_aload_n F 0 dX11_gap_34 rfl rfl ?_
          refine z_get F 0 11 1 inlX11 rfl rfl (by decide) fl_X11_19 rfl dX11_gap_35 ?_
          obtain ⟨r_3, books_size_4, books_numbers_5, hg, hf⟩ := zb3_some hf
          refine z_callVm (rest := []) F 0 (c_Books_refusalToFill (xL X) G a_books a_crowd a_shelves a_books_numbers a_books_left a_books_result a_books_fillings a_books_spare a_books_rowCounts a_shelves_sorts a_shelves_sizes a_shelves_held a_shelves_elements a_shelves_elements_e a_queue a_queue_who books_size shelves_sorts shelves_sizes shelves_elements_e books_numbers queue_length x1 r_3 books_size_4 books_numbers_5 hg) hy_X0_refusalToFill ml_X11_224 hd_X0_refusalToFill ⟨by omega, by omega⟩ rfl [15, 5, 6, 7, 8, 9, 10, 11, 12, 13, 14, 16, 3] rfl rfl 15 rfl rfl (w_T_gap G a_this a_crowd a_queue a_text a_judge a_deeds a_mendings a_picture a_shelves a_books a_thoughts a_heads a_crowd_heights a_queue_who a_shelves_sorts a_shelves_sizes a_shelves_held a_shelves_elements a_shelves_elements_e a_books_numbers a_books_left a_books_result a_books_fillings a_books_spare a_books_rowCounts a_books_left_who a_books_result_who hasPicture crowd_people crowd_heights queue_length queue_who shelves_sorts shelves_sizes shelves_elements_e books_size_4 books_numbers_5 books_left_length books_left_who books_result_length books_result_who) [none, none, none, some 12, none, some 1, some 2, some 3, some 4, some 5, some 6, some 7, some 8, some 9, some 10, some 0, some 11, none, none, none, none] rfl (by decide +kernel) rfl rfl (Nat.le_of_ble_eq_true rfl) dX11_gap_38 (fun hz_6 => ?_)
          refine z_istore F [(4, .int r_3), (0, .ref a_this), (1, .int x1), (2, .int x2), (3, .int x3)] dX11_gap_41 (by decide) rfl ?_
          refine z_iload F 0 dX11_gap_43 rfl ?_
          refine z_if_eq F 51 dX11_gap_45 (by decide) hf (fun hf _ => ?_) (fun hf _ => ?_)
          · refine z_aload_n F 1 dX11_gap_51 rfl rfl ?_
            refine z_get F 0 11 9 inlX11 rfl rfl (by decide) fl_X11_70 rfl dX11_gap_52 ?_
            obtain ⟨r_7, hg, hf⟩ := zb1_some hf
            refine z_callVm (rest := []) F 0 (c_Books_smearedOnes (xL X) G a_books a_crowd a_shelves a_books_numbers a_books_left a_books_result a_books_fillings a_books_spare a_books_rowCounts books_size_4 books_numbers_5 r_7 hg) hy_X0_smearedOnes ml_X11_233 hd_X0_smearedOnes ⟨by omega, by omega⟩ rfl [15, 16] rfl rfl 15 rfl rfl (w_T_gap G a_this a_crowd a_queue a_text a_judge a_deeds a_mendings a_picture a_shelves a_books a_thoughts a_heads a_crowd_heights a_queue_who a_shelves_sorts a_shelves_sizes a_shelves_held a_shelves_elements a_shelves_elements_e a_books_numbers a_books_left a_books_result a_books_fillings a_books_spare a_books_rowCounts a_books_left_who a_books_result_who hasPicture crowd_people crowd_heights queue_length queue_who shelves_sorts shelves_sizes shelves_elements_e books_size_4 books_numbers_5 books_left_length books_left_who books_result_length books_result_who) [none, none, none, none, none, none, none, none, none, none, none, none, none, none, none, some 0, some 1, none, none, none, none] rfl (by decide +kernel) rfl rfl (Nat.le_of_ble_eq_true rfl) dX11_gap_55 (fun hz_8 => ?_)
            refine z_iconst F (1) dX11_gap_58 rfl ?_
            refine z_icmp_eq F 65 dX11_gap_59 (by decide) hf (fun hf _ => ?_) (fun hf _ => ?_)
            · refine z_aload_n F 1 dX11_gap_65 rfl rfl ?_
              refine z_get F 0 11 9 inlX11 rfl rfl (by decide) fl_X11_70 rfl dX11_gap_66 ?_
              obtain ⟨r_9, hg, hf⟩ := zb1_some hf
              refine z_callVm (rest := []) F 0 (c_Books_firstSmeared (xL X) G a_books a_crowd a_shelves a_books_numbers a_books_left a_books_result a_books_fillings a_books_spare a_books_rowCounts books_size_4 books_numbers_5 r_9 hg) hy_X0_firstSmeared ml_X11_236 hd_X0_firstSmeared ⟨by omega, by omega⟩ rfl [15, 16] rfl rfl 15 rfl rfl (w_T_gap G a_this a_crowd a_queue a_text a_judge a_deeds a_mendings a_picture a_shelves a_books a_thoughts a_heads a_crowd_heights a_queue_who a_shelves_sorts a_shelves_sizes a_shelves_held a_shelves_elements a_shelves_elements_e a_books_numbers a_books_left a_books_result a_books_fillings a_books_spare a_books_rowCounts a_books_left_who a_books_result_who hasPicture crowd_people crowd_heights queue_length queue_who shelves_sorts shelves_sizes shelves_elements_e books_size_4 books_numbers_5 books_left_length books_left_who books_result_length books_result_who) [none, none, none, none, none, none, none, none, none, none, none, none, none, none, none, some 0, some 1, none, none, none, none] rfl (by decide +kernel) rfl rfl (Nat.le_of_ble_eq_true rfl) dX11_gap_69 (fun hz_10 => ?_)
              refine z_istore F [(5, .int r_9), (4, .int r_3), (0, .ref a_this), (1, .int x1), (2, .int x2), (3, .int x3)] dX11_gap_72 (by decide) rfl ?_
              refine z_aload_n F 2 dX11_gap_74 rfl rfl ?_
              refine z_get F 0 11 9 inlX11 rfl rfl (by decide) fl_X11_70 rfl dX11_gap_75 ?_
              obtain ⟨r_11, hg, hf⟩ := zb1_some hf
              refine z_callVm (rest := []) F 0 (c_Books_sumOfNumbers (xL X) G a_books a_crowd a_shelves a_books_numbers a_books_left a_books_result a_books_fillings a_books_spare a_books_rowCounts books_size_4 books_numbers_5 r_11 hg) hy_X0_sumOfNumbers ml_X11_239 hd_X0_sumOfNumbers ⟨by omega, by omega⟩ rfl [15, 16] rfl rfl 15 rfl rfl (w_T_gap G a_this a_crowd a_queue a_text a_judge a_deeds a_mendings a_picture a_shelves a_books a_thoughts a_heads a_crowd_heights a_queue_who a_shelves_sorts a_shelves_sizes a_shelves_held a_shelves_elements a_shelves_elements_e a_books_numbers a_books_left a_books_result a_books_fillings a_books_spare a_books_rowCounts a_books_left_who a_books_result_who hasPicture crowd_people crowd_heights queue_length queue_who shelves_sorts shelves_sizes shelves_elements_e books_size_4 books_numbers_5 books_left_length books_left_who books_result_length books_result_who) [none, none, none, none, none, none, none, none, none, none, none, none, none, none, none, some 0, some 1, none, none, none, none] rfl (by decide +kernel) rfl rfl (Nat.le_of_ble_eq_true rfl) dX11_gap_78 (fun hz_12 => ?_)
              refine z_istore F [(6, .int r_11), (5, .int r_9), (4, .int r_3), (0, .ref a_this), (1, .int x1), (2, .int x2), (3, .int x3)] dX11_gap_81 (by decide) rfl ?_
              refine z_iload_n F 5 dX11_gap_83 rfl rfl ?_
              refine z_iload F 0 dX11_gap_84 rfl ?_
              refine z_icmp_lt F 98 dX11_gap_86 (by decide) hf (fun hf _ => ?_) (fun hf _ => ?_)
              · refine z_bipush F (-2) dX11_gap_98 rfl ?_
                have eq1 := Option.some.inj hf
                obtain ⟨ee1, eq2⟩ := Prod.mk.inj eq1
                obtain ⟨ee2, eq3⟩ := Prod.mk.inj eq2
                obtain ⟨ee3, eq4⟩ := Prod.mk.inj eq3
                obtain ⟨ee4, eq5⟩ := Prod.mk.inj eq4
                obtain ⟨ee5, eq6⟩ := Prod.mk.inj eq5
                obtain ⟨ee6, ee7⟩ := Prod.mk.inj eq6
                subst ee1
                subst ee2
                subst ee3
                subst ee4
                subst ee5
                subst ee6
                subst ee7
                exact z_iret F rfl rfl rfl rfl dX11_gap_100
              · refine z_iload_n F 5 dX11_gap_89 rfl rfl ?_
                refine z_iload F 0 dX11_gap_90 rfl ?_
                refine z_iload F 1 dX11_gap_92 rfl ?_
                refine z_iadd F dX11_gap_94 ?_
                refine z_icmp_le F 101 dX11_gap_95 (by decide) hf (fun hf _ => ?_) (fun hf _ => ?_)
                · refine z_iload_n F 5 dX11_gap_101 rfl rfl ?_
                  refine z_iload F 0 dX11_gap_102 rfl ?_
                  refine z_isub F dX11_gap_104 ?_
                  refine z_istore F [(7, .int (x2 - r_11)), (6, .int r_11), (5, .int r_9), (4, .int r_3), (0, .ref a_this), (1, .int x1), (2, .int x2), (3, .int x3)] dX11_gap_105 (by decide) rfl ?_
                  refine z_iload_n F 7 dX11_gap_107 rfl rfl ?_
                  refine z_if_ne F 114 dX11_gap_108 (by decide) hf (fun hf _ => ?_) (fun hf _ => ?_)
                  · refine z_aload_n F 4 dX11_gap_114 rfl rfl ?_
                    refine z_get F 0 11 9 inlX11 rfl rfl (by decide) fl_X11_70 rfl dX11_gap_115 ?_
                    refine z_iload F 2 dX11_gap_118 rfl ?_
                    refine z_iload F 0 dX11_gap_120 rfl ?_
                    obtain ⟨books_numbers_13, hg, hf⟩ := zb1_some hf
                    refine z_callVm (rest := []) F 0 (c_Books_fill (xL X) G a_books a_crowd a_shelves a_books_numbers a_books_left a_books_result a_books_fillings a_books_spare a_books_rowCounts books_size_4 books_numbers_5 r_9 (x2 - r_11) books_numbers_13 hg) hy_X0_fill ml_X11_242 hd_X0_fill ⟨by omega, by omega⟩ rfl [15, 16] rfl rfl 15 rfl rfl (w_T_gap G a_this a_crowd a_queue a_text a_judge a_deeds a_mendings a_picture a_shelves a_books a_thoughts a_heads a_crowd_heights a_queue_who a_shelves_sorts a_shelves_sizes a_shelves_held a_shelves_elements a_shelves_elements_e a_books_numbers a_books_left a_books_result a_books_fillings a_books_spare a_books_rowCounts a_books_left_who a_books_result_who hasPicture crowd_people crowd_heights queue_length queue_who shelves_sorts shelves_sizes shelves_elements_e books_size_4 books_numbers_13 books_left_length books_left_who books_result_length books_result_who) [none, none, none, none, none, none, none, none, none, none, none, none, none, none, none, some 0, some 1, none, none, none, none] rfl (by decide +kernel) rfl rfl (Nat.le_of_ble_eq_true rfl) dX11_gap_122 (fun hz_14 => ?_)
                    refine z_aload_n F 4 dX11_gap_125 rfl rfl ?_
                    refine z_get F 0 11 9 inlX11 rfl rfl (by decide) fl_X11_70 rfl dX11_gap_126 ?_
                    refine z_aload_n F 4 dX11_gap_129 rfl rfl ?_
                    refine z_get F 0 11 1 inlX11 rfl rfl (by decide) fl_X11_19 rfl dX11_gap_130 ?_
                    obtain ⟨books_left_length_15, books_left_who_16, books_result_length_17, books_result_who_18, hg, hf⟩ := zb4_some hf
                    refine z_callVm (rest := []) F 0 (c_Books_lineRestored (xL X) G a_books a_crowd a_shelves a_books_numbers a_books_left a_books_result a_books_fillings a_books_spare a_books_rowCounts a_crowd_heights a_books_left_who a_books_result_who a_queue a_queue_who books_size_4 crowd_people crowd_heights books_numbers_13 books_left_length books_left_who books_result_length books_result_who queue_length queue_who books_left_length_15 books_left_who_16 books_result_length_17 books_result_who_18 hg) hy_X0_lineRestored ml_X11_188 hd_X0_lineRestored ⟨by omega, by omega⟩ rfl [15, 1, 2, 16, 17, 18, 19, 20, 3, 4] rfl rfl 15 rfl rfl (w_T_gap G a_this a_crowd a_queue a_text a_judge a_deeds a_mendings a_picture a_shelves a_books a_thoughts a_heads a_crowd_heights a_queue_who a_shelves_sorts a_shelves_sizes a_shelves_held a_shelves_elements a_shelves_elements_e a_books_numbers a_books_left a_books_result a_books_fillings a_books_spare a_books_rowCounts a_books_left_who a_books_result_who hasPicture crowd_people crowd_heights queue_length queue_who shelves_sorts shelves_sizes shelves_elements_e books_size_4 books_numbers_13 books_left_length_15 books_left_who_16 books_result_length_17 books_result_who_18) [none, some 1, some 2, some 8, some 9, none, none, none, none, none, none, none, none, none, none, some 0, some 3, some 4, some 5, some 6, some 7] rfl (by decide +kernel) rfl rfl (Nat.le_of_ble_eq_true rfl) dX11_gap_133 (fun hz_19 => ?_)
                    refine z_iload F 2 dX11_gap_136 rfl ?_
                    obtain ⟨r_20, hg, hf⟩ := zb1_some hf
                    refine z_callVm (rest := []) F 7 (c_Line_at (xL X) G a_books_result a_books_result_who books_result_length_17 books_result_who_18 r_9 r_20 hg) hy_X7_at ml_X11_202 hd_X7_at ⟨by omega, by omega⟩ rfl [19, 20] rfl rfl 19 rfl rfl (w_T_gap G a_this a_crowd a_queue a_text a_judge a_deeds a_mendings a_picture a_shelves a_books a_thoughts a_heads a_crowd_heights a_queue_who a_shelves_sorts a_shelves_sizes a_shelves_held a_shelves_elements a_shelves_elements_e a_books_numbers a_books_left a_books_result a_books_fillings a_books_spare a_books_rowCounts a_books_left_who a_books_result_who hasPicture crowd_people crowd_heights queue_length queue_who shelves_sorts shelves_sizes shelves_elements_e books_size_4 books_numbers_13 books_left_length_15 books_left_who_16 books_result_length_17 books_result_who_18) [none, none, none, none, none, none, none, none, none, none, none, none, none, none, none, none, none, none, none, some 0, some 1] rfl (by decide +kernel) rfl rfl (Nat.le_of_ble_eq_true rfl) dX11_gap_138 (fun hz_21 => ?_)
                    have eq1 := Option.some.inj hf
                    obtain ⟨ee1, eq2⟩ := Prod.mk.inj eq1
                    obtain ⟨ee2, eq3⟩ := Prod.mk.inj eq2
                    obtain ⟨ee3, eq4⟩ := Prod.mk.inj eq3
                    obtain ⟨ee4, eq5⟩ := Prod.mk.inj eq4
                    obtain ⟨ee5, eq6⟩ := Prod.mk.inj eq5
                    obtain ⟨ee6, ee7⟩ := Prod.mk.inj eq6
                    subst ee1
                    subst ee2
                    subst ee3
                    subst ee4
                    subst ee5
                    subst ee6
                    subst ee7
                    exact z_iret F rfl rfl rfl rfl dX11_gap_141
                  · refine z_iload F 0 dX11_gap_111 rfl ?_
                    have eq1 := Option.some.inj hf
                    obtain ⟨ee1, eq2⟩ := Prod.mk.inj eq1
                    obtain ⟨ee2, eq3⟩ := Prod.mk.inj eq2
                    obtain ⟨ee3, eq4⟩ := Prod.mk.inj eq3
                    obtain ⟨ee4, eq5⟩ := Prod.mk.inj eq4
                    obtain ⟨ee5, eq6⟩ := Prod.mk.inj eq5
                    obtain ⟨ee6, ee7⟩ := Prod.mk.inj eq6
                    subst ee1
                    subst ee2
                    subst ee3
                    subst ee4
                    subst ee5
                    subst ee6
                    subst ee7
                    exact z_iret F rfl rfl rfl rfl dX11_gap_113
                · refine z_bipush F (-2) dX11_gap_98 rfl ?_
                  have eq1 := Option.some.inj hf
                  obtain ⟨ee1, eq2⟩ := Prod.mk.inj eq1
                  obtain ⟨ee2, eq3⟩ := Prod.mk.inj eq2
                  obtain ⟨ee3, eq4⟩ := Prod.mk.inj eq3
                  obtain ⟨ee4, eq5⟩ := Prod.mk.inj eq4
                  obtain ⟨ee5, eq6⟩ := Prod.mk.inj eq5
                  obtain ⟨ee6, ee7⟩ := Prod.mk.inj eq6
                  subst ee1
                  subst ee2
                  subst ee3
                  subst ee4
                  subst ee5
                  subst ee6
                  subst ee7
                  exact z_iret F rfl rfl rfl rfl dX11_gap_100
            · refine z_bipush F (-5) dX11_gap_62 rfl ?_
              have eq1 := Option.some.inj hf
              obtain ⟨ee1, eq2⟩ := Prod.mk.inj eq1
              obtain ⟨ee2, eq3⟩ := Prod.mk.inj eq2
              obtain ⟨ee3, eq4⟩ := Prod.mk.inj eq3
              obtain ⟨ee4, eq5⟩ := Prod.mk.inj eq4
              obtain ⟨ee5, eq6⟩ := Prod.mk.inj eq5
              obtain ⟨ee6, ee7⟩ := Prod.mk.inj eq6
              subst ee1
              subst ee2
              subst ee3
              subst ee4
              subst ee5
              subst ee6
              subst ee7
              exact z_iret F rfl rfl rfl rfl dX11_gap_64
          · refine z_iload F 0 dX11_gap_48 rfl ?_
            have eq1 := Option.some.inj hf
            obtain ⟨ee1, eq2⟩ := Prod.mk.inj eq1
            obtain ⟨ee2, eq3⟩ := Prod.mk.inj eq2
            obtain ⟨ee3, eq4⟩ := Prod.mk.inj eq3
            obtain ⟨ee4, eq5⟩ := Prod.mk.inj eq4
            obtain ⟨ee5, eq6⟩ := Prod.mk.inj eq5
            obtain ⟨ee6, ee7⟩ := Prod.mk.inj eq6
            subst ee1
            subst ee2
            subst ee3
            subst ee4
            subst ee5
            subst ee6
            subst ee7
            exact z_iret F rfl rfl rfl rfl dX11_gap_50
        · refine z_iconst F (-1) dX11_gap_27 rfl ?_
          have eq1 := Option.some.inj hf
          obtain ⟨ee1, eq2⟩ := Prod.mk.inj eq1
          obtain ⟨ee2, eq3⟩ := Prod.mk.inj eq2
          obtain ⟨ee3, eq4⟩ := Prod.mk.inj eq3
          obtain ⟨ee4, eq5⟩ := Prod.mk.inj eq4
          obtain ⟨ee5, eq6⟩ := Prod.mk.inj eq5
          obtain ⟨ee6, ee7⟩ := Prod.mk.inj eq6
          subst ee1
          subst ee2
          subst ee3
          subst ee4
          subst ee5
          subst ee6
          subst ee7
          exact z_iret F rfl rfl rfl rfl dX11_gap_28

