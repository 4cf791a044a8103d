/-! by program (wip/whole/gen.py): pure functions and contracts -/
theorem dX11_was_0 : decode cX11_was 0 = .ok (.aload_n 0, 1) := by decide +kernel
theorem dX11_was_1 : decode cX11_was 1 = .ok (.getfield 44, 3) := by decide +kernel
theorem dX11_was_4 : decode cX11_was 4 = .ok (.iload_n 1, 1) := by decide +kernel
theorem dX11_was_5 : decode cX11_was 5 = .ok (.invokevirtual 195, 3) := by decide +kernel
theorem dX11_was_8 : decode cX11_was 8 = .ok (.ifCond .eq 18, 3) := by decide +kernel
theorem dX11_was_11 : decode cX11_was 11 = .ok (.aload_n 0, 1) := by decide +kernel
theorem dX11_was_12 : decode cX11_was 12 = .ok (.getfield 44, 3) := by decide +kernel
theorem dX11_was_15 : decode cX11_was 15 = .ok (.iload_n 1, 1) := by decide +kernel
theorem dX11_was_16 : decode cX11_was 16 = .ok (.invokevirtual 198, 3) := by decide +kernel
theorem dX11_was_19 : decode cX11_was 19 = .ok (.iload_n 2, 1) := by decide +kernel
theorem dX11_was_20 : decode cX11_was 20 = .ok (.invokevirtual 140, 3) := by decide +kernel
theorem dX11_was_23 : decode cX11_was 23 = .ok (.ifCond .ne 5, 3) := by decide +kernel
theorem dX11_was_26 : decode cX11_was 26 = .ok (.iconst (-1), 1) := by decide +kernel
theorem dX11_was_27 : decode cX11_was 27 = .ok (.ireturn, 1) := by decide +kernel
theorem dX11_was_28 : decode cX11_was 28 = .ok (.aload_n 0, 1) := by decide +kernel
theorem dX11_was_29 : decode cX11_was 29 = .ok (.getfield 44, 3) := by decide +kernel
theorem dX11_was_32 : decode cX11_was 32 = .ok (.iload_n 1, 1) := by decide +kernel
theorem dX11_was_33 : decode cX11_was 33 = .ok (.invokevirtual 198, 3) := by decide +kernel
theorem dX11_was_36 : decode cX11_was 36 = .ok (.iload_n 2, 1) := by decide +kernel
theorem dX11_was_37 : decode cX11_was 37 = .ok (.invokevirtual 202, 3) := by decide +kernel
theorem dX11_was_40 : decode cX11_was 40 = .ok (.ireturn, 1) := by decide +kernel
theorem dX11_again_0 : decode cX11_again 0 = .ok (.aload_n 0, 1) := by decide +kernel
theorem dX11_again_1 : decode cX11_again 1 = .ok (.getfield 44, 3) := by decide +kernel
theorem dX11_again_4 : decode cX11_again 4 = .ok (.iload_n 1, 1) := by decide +kernel
theorem dX11_again_5 : decode cX11_again 5 = .ok (.invokevirtual 195, 3) := by decide +kernel
theorem dX11_again_8 : decode cX11_again 8 = .ok (.ifCond .ne 5, 3) := by decide +kernel
theorem dX11_again_11 : decode cX11_again 11 = .ok (.iconst (-1), 1) := by decide +kernel
theorem dX11_again_12 : decode cX11_again 12 = .ok (.ireturn, 1) := by decide +kernel
theorem dX11_again_13 : decode cX11_again 13 = .ok (.aload_n 0, 1) := by decide +kernel
theorem dX11_again_14 : decode cX11_again 14 = .ok (.getfield 19, 3) := by decide +kernel
theorem dX11_again_17 : decode cX11_again 17 = .ok (.aload_n 0, 1) := by decide +kernel
theorem dX11_again_18 : decode cX11_again 18 = .ok (.getfield 44, 3) := by decide +kernel
theorem dX11_again_21 : decode cX11_again 21 = .ok (.iload_n 1, 1) := by decide +kernel
theorem dX11_again_22 : decode cX11_again 22 = .ok (.invokevirtual 198, 3) := by decide +kernel
theorem dX11_again_25 : decode cX11_again 25 = .ok (.invokevirtual 192, 3) := by decide +kernel
theorem dX11_again_28 : decode cX11_again 28 = .ok (.aload_n 0, 1) := by decide +kernel
theorem dX11_again_29 : decode cX11_again 29 = .ok (.getfield 44, 3) := by decide +kernel
theorem dX11_again_32 : decode cX11_again 32 = .ok (.iload_n 1, 1) := by decide +kernel
theorem dX11_again_33 : decode cX11_again 33 = .ok (.invokevirtual 205, 3) := by decide +kernel
theorem dX11_again_36 : decode cX11_again 36 = .ok (.aload_n 0, 1) := by decide +kernel
theorem dX11_again_37 : decode cX11_again 37 = .ok (.getfield 44, 3) := by decide +kernel
theorem dX11_again_40 : decode cX11_again 40 = .ok (.invokevirtual 209, 3) := by decide +kernel
theorem dX11_again_43 : decode cX11_again 43 = .ok (.ireturn, 1) := by decide +kernel
theorem dX11_book_0 : decode cX11_book 0 = .ok (.aload_n 0, 1) := by decide +kernel
theorem dX11_book_1 : decode cX11_book 1 = .ok (.getfield 61, 3) := by decide +kernel
theorem dX11_book_4 : decode cX11_book 4 = .ok (.iload_n 1, 1) := by decide +kernel
theorem dX11_book_5 : decode cX11_book 5 = .ok (.invokevirtual 102, 3) := by decide +kernel
theorem dX11_book_8 : decode cX11_book 8 = .ok (.ifCond .eq 12, 3) := by decide +kernel
theorem dX11_book_11 : decode cX11_book 11 = .ok (.iload_n 2, 1) := by decide +kernel
theorem dX11_book_12 : decode cX11_book 12 = .ok (.ifCond .lt 8, 3) := by decide +kernel
theorem dX11_book_15 : decode cX11_book 15 = .ok (.iload_n 2, 1) := by decide +kernel
theorem dX11_book_16 : decode cX11_book 16 = .ok (.iconst 1, 1) := by decide +kernel
theorem dX11_book_17 : decode cX11_book 17 = .ok (.if_icmp .le 5, 3) := by decide +kernel
theorem dX11_book_20 : decode cX11_book 20 = .ok (.iconst (-1), 1) := by decide +kernel
theorem dX11_book_21 : decode cX11_book 21 = .ok (.ireturn, 1) := by decide +kernel
theorem dX11_book_22 : decode cX11_book 22 = .ok (.aload_n 0, 1) := by decide +kernel
theorem dX11_book_23 : decode cX11_book 23 = .ok (.getfield 61, 3) := by decide +kernel
theorem dX11_book_26 : decode cX11_book 26 = .ok (.iload_n 1, 1) := by decide +kernel
theorem dX11_book_27 : decode cX11_book 27 = .ok (.invokevirtual 106, 3) := by decide +kernel
theorem dX11_book_30 : decode cX11_book 30 = .ok (.istore_n 3, 1) := by decide +kernel
theorem dX11_book_31 : decode cX11_book 31 = .ok (.iload_n 3, 1) := by decide +kernel
theorem dX11_book_32 : decode cX11_book 32 = .ok (.ifCond .eq 5, 3) := by decide +kernel
theorem dX11_book_35 : decode cX11_book 35 = .ok (.iload_n 3, 1) := by decide +kernel
theorem dX11_book_36 : decode cX11_book 36 = .ok (.ireturn, 1) := by decide +kernel
theorem dX11_book_37 : decode cX11_book 37 = .ok (.aload_n 0, 1) := by decide +kernel
theorem dX11_book_38 : decode cX11_book 38 = .ok (.getfield 70, 3) := by decide +kernel
theorem dX11_book_41 : decode cX11_book 41 = .ok (.iload_n 1, 1) := by decide +kernel
theorem dX11_book_42 : decode cX11_book 42 = .ok (.aload_n 0, 1) := by decide +kernel
theorem dX11_book_43 : decode cX11_book 43 = .ok (.getfield 19, 3) := by decide +kernel
theorem dX11_book_46 : decode cX11_book 46 = .ok (.invokevirtual 210, 3) := by decide +kernel
theorem dX11_book_49 : decode cX11_book 49 = .ok (.iload_n 2, 1) := by decide +kernel
theorem dX11_book_50 : decode cX11_book 50 = .ok (.ifCond .ne 13, 3) := by decide +kernel
theorem dX11_book_53 : decode cX11_book 53 = .ok (.aload_n 0, 1) := by decide +kernel
theorem dX11_book_54 : decode cX11_book 54 = .ok (.getfield 70, 3) := by decide +kernel
theorem dX11_book_57 : decode cX11_book 57 = .ok (.invokevirtual 214, 3) := by decide +kernel
theorem dX11_book_60 : decode cX11_book 60 = .ok (.goto 18, 3) := by decide +kernel
theorem dX11_book_63 : decode cX11_book 63 = .ok (.aload_n 0, 1) := by decide +kernel
theorem dX11_book_64 : decode cX11_book 64 = .ok (.getfield 70, 3) := by decide +kernel
theorem dX11_book_67 : decode cX11_book 67 = .ok (.aload_n 0, 1) := by decide +kernel
theorem dX11_book_68 : decode cX11_book 68 = .ok (.getfield 35, 3) := by decide +kernel
theorem dX11_book_71 : decode cX11_book 71 = .ok (.aload_n 0, 1) := by decide +kernel
theorem dX11_book_72 : decode cX11_book 72 = .ok (.getfield 19, 3) := by decide +kernel
theorem dX11_book_75 : decode cX11_book 75 = .ok (.invokevirtual 217, 3) := by decide +kernel
theorem dX11_book_78 : decode cX11_book 78 = .ok (.ireturn, 1) := by decide +kernel
theorem dX11_restored_0 : decode cX11_restored 0 = .ok (.aload_n 0, 1) := by decide +kernel
theorem dX11_restored_1 : decode cX11_restored 1 = .ok (.getfield 61, 3) := by decide +kernel
theorem dX11_restored_4 : decode cX11_restored 4 = .ok (.iload_n 1, 1) := by decide +kernel
theorem dX11_restored_5 : decode cX11_restored 5 = .ok (.invokevirtual 102, 3) := by decide +kernel
theorem dX11_restored_8 : decode cX11_restored 8 = .ok (.ifCond .eq 14, 3) := by decide +kernel
theorem dX11_restored_11 : decode cX11_restored 11 = .ok (.aload_n 0, 1) := by decide +kernel
theorem dX11_restored_12 : decode cX11_restored 12 = .ok (.getfield 19, 3) := by decide +kernel
theorem dX11_restored_15 : decode cX11_restored 15 = .ok (.iload_n 2, 1) := by decide +kernel
theorem dX11_restored_16 : decode cX11_restored 16 = .ok (.invokevirtual 140, 3) := by decide +kernel
theorem dX11_restored_19 : decode cX11_restored 19 = .ok (.ifCond .ne 5, 3) := by decide +kernel
theorem dX11_restored_22 : decode cX11_restored 22 = .ok (.iconst (-1), 1) := by decide +kernel
theorem dX11_restored_23 : decode cX11_restored 23 = .ok (.ireturn, 1) := by decide +kernel
theorem dX11_restored_24 : decode cX11_restored 24 = .ok (.aload_n 0, 1) := by decide +kernel
theorem dX11_restored_25 : decode cX11_restored 25 = .ok (.getfield 70, 3) := by decide +kernel
theorem dX11_restored_28 : decode cX11_restored 28 = .ok (.iload_n 1, 1) := by decide +kernel
theorem dX11_restored_29 : decode cX11_restored 29 = .ok (.aload_n 0, 1) := by decide +kernel
theorem dX11_restored_30 : decode cX11_restored 30 = .ok (.getfield 19, 3) := by decide +kernel
theorem dX11_restored_33 : decode cX11_restored 33 = .ok (.invokevirtual 184, 3) := by decide +kernel
theorem dX11_restored_36 : decode cX11_restored 36 = .ok (.istore_n 3, 1) := by decide +kernel
theorem dX11_restored_37 : decode cX11_restored 37 = .ok (.iload_n 3, 1) := by decide +kernel
theorem dX11_restored_38 : decode cX11_restored 38 = .ok (.ifCond .eq 7, 3) := by decide +kernel
theorem dX11_restored_41 : decode cX11_restored 41 = .ok (.iload_n 3, 1) := by decide +kernel
theorem dX11_restored_42 : decode cX11_restored 42 = .ok (.goto 18, 3) := by decide +kernel
theorem dX11_restored_45 : decode cX11_restored 45 = .ok (.aload_n 0, 1) := by decide +kernel
theorem dX11_restored_46 : decode cX11_restored 46 = .ok (.getfield 70, 3) := by decide +kernel
theorem dX11_restored_49 : decode cX11_restored 49 = .ok (.aload_n 0, 1) := by decide +kernel
theorem dX11_restored_50 : decode cX11_restored 50 = .ok (.getfield 19, 3) := by decide +kernel
theorem dX11_restored_53 : decode cX11_restored 53 = .ok (.invokevirtual 188, 3) := by decide +kernel
theorem dX11_restored_56 : decode cX11_restored 56 = .ok (.iload_n 2, 1) := by decide +kernel
theorem dX11_restored_57 : decode cX11_restored 57 = .ok (.invokevirtual 202, 3) := by decide +kernel
theorem dX11_restored_60 : decode cX11_restored 60 = .ok (.ireturn, 1) := by decide +kernel
theorem hy_X0_firstUnlike : Cond.code yX0_firstUnlike cX0_firstUnlike 4 (some .int) ∈ wsL_law ∧ Cond.initialized yX0_firstUnlike.cls ∈ wsL_law ∧ Cond.instanceMethod yX0_firstUnlike ∈ wsL_law ∧ Cond.selects yX0_firstUnlike.cls yX0_firstUnlike yX0_firstUnlike ∈ wsL_law := ⟨(uw36 _ (List.mem_of_getElem? (i := 21) rfl)), (uw2 _ (List.mem_of_getElem? (i := 20) rfl)), (uw36 _ (List.mem_of_getElem? (i := 19) rfl)), (uw36 _ (List.mem_of_getElem? (i := 20) rfl))⟩
theorem hd_X0_firstUnlike : yX0_firstUnlike.cls ≠ "java/lang/invoke/MethodHandle" ∧ yX0_firstUnlike.cls ≠ "java/lang/invoke/VarHandle" ∧ (parseMethodDescriptor yX0_firstUnlike.desc).map (fun d => d.parameters.length) = some 2 := ⟨by decide +kernel, by decide +kernel, by decide +kernel⟩
theorem hy_X2_forget : Cond.code yX2_forget cX2_forget 2 none ∈ wsL_law ∧ Cond.initialized yX2_forget.cls ∈ wsL_law ∧ Cond.instanceMethod yX2_forget ∈ wsL_law ∧ Cond.selects yX2_forget.cls yX2_forget yX2_forget ∈ wsL_law := ⟨(uw36 _ (List.mem_of_getElem? (i := 2) rfl)), (uw2 _ (List.mem_of_getElem? (i := 7) rfl)), (uw36 _ (List.mem_of_getElem? (i := 0) rfl)), (uw36 _ (List.mem_of_getElem? (i := 1) rfl))⟩
theorem hd_X2_forget : yX2_forget.cls ≠ "java/lang/invoke/MethodHandle" ∧ yX2_forget.cls ≠ "java/lang/invoke/VarHandle" ∧ (parseMethodDescriptor yX2_forget.desc).map (fun d => d.parameters.length) = some 1 := ⟨by decide +kernel, by decide +kernel, by decide +kernel⟩
theorem hy_X2_size : Cond.code yX2_size cX2_size 1 (some .int) ∈ wsL_law ∧ Cond.initialized yX2_size.cls ∈ wsL_law ∧ Cond.instanceMethod yX2_size ∈ wsL_law ∧ Cond.selects yX2_size.cls yX2_size yX2_size ∈ wsL_law := ⟨(uw36 _ (List.mem_of_getElem? (i := 7) rfl)), (uw2 _ (List.mem_of_getElem? (i := 7) rfl)), (uw36 _ (List.mem_of_getElem? (i := 5) rfl)), (uw36 _ (List.mem_of_getElem? (i := 6) rfl))⟩
theorem hd_X2_size : yX2_size.cls ≠ "java/lang/invoke/MethodHandle" ∧ yX2_size.cls ≠ "java/lang/invoke/VarHandle" ∧ (parseMethodDescriptor yX2_size.desc).map (fun d => d.parameters.length) = some 0 := ⟨by decide +kernel, by decide +kernel, by decide +kernel⟩
theorem ml_X11_195 : Cond.methodLink RX11 195 yX2_isKept ∈ wsL_law := (uw35 _ (List.mem_of_getElem? (i := 10) rfl))
theorem ml_X11_198 : Cond.methodLink RX11 198 yX2_lineAhead ∈ wsL_law := (uw35 _ (List.mem_of_getElem? (i := 14) rfl))
theorem ml_X11_205 : Cond.methodLink RX11 205 yX2_forget ∈ wsL_law := (uw35 _ (List.mem_of_getElem? (i := 23) rfl))
theorem ml_X11_209 : Cond.methodLink RX11 209 yX2_size ∈ wsL_law := (uw36 _ (List.mem_of_getElem? (i := 4) rfl))
theorem ml_X11_210 : Cond.methodLink RX11 210 yX0_open ∈ wsL_law := (uw36 _ (List.mem_of_getElem? (i := 16) rfl))
theorem ml_X11_214 : Cond.methodLink RX11 214 yX0_firstFalse ∈ wsL_law := (uw36 _ (List.mem_of_getElem? (i := 17) rfl))
theorem ml_X11_217 : Cond.methodLink RX11 217 yX0_firstUnlike ∈ wsL_law := (uw36 _ (List.mem_of_getElem? (i := 18) rfl))
abbrev w_T_was (G : zG) (a_this : Nat) (a_crowd : Nat) (a_queue : Nat) (a_text : Nat) (a_judge : Nat) (a_deeds : Nat) (a_mendings : Nat) (a_picture : Nat) (a_shelves : Nat) (a_books : Nat) (a_thoughts : Nat) (a_heads : Nat) (a_deeds_kept : Nat) (a_deeds_numbers : Nat) (a_deeds_changes : Nat) (a_deeds_greatest : Nat) (a_deeds_kept_e : Nat → Nat) (a_deeds_kept_e_who : Nat → Nat) (hasPicture : Int32) (deeds_first : Int32) (deeds_size : Int32) (deeds_kept_e_length : Nat → Int32) (deeds_kept_e_who : Nat → (Nat → Int32)) : va_W := [(a_this, cO 11 [.ref a_crowd, .ref a_queue, .ref a_text, .ref a_judge, .ref a_deeds, .ref a_mendings, .ref a_picture, .int hasPicture, .ref a_shelves, .ref a_books, .ref a_thoughts, .ref a_heads]), (a_deeds, cO 2 [.ref a_judge, .ref a_deeds_kept, .int deeds_first, .int deeds_size, .ref a_deeds_numbers, .ref a_deeds_changes, .ref a_deeds_greatest]), (a_deeds_kept, cL G 12 (fun j => some (a_deeds_kept_e j))), ((a_deeds_kept_e 0), cO 7 [.ref (a_deeds_kept_e_who 0), .int (deeds_kept_e_length 0)]), ((a_deeds_kept_e_who 0), cI G 9 (deeds_kept_e_who 0)), ((a_deeds_kept_e 1), cO 7 [.ref (a_deeds_kept_e_who 1), .int (deeds_kept_e_length 1)]), ((a_deeds_kept_e_who 1), cI G 9 (deeds_kept_e_who 1)), ((a_deeds_kept_e 2), cO 7 [.ref (a_deeds_kept_e_who 2), .int (deeds_kept_e_length 2)]), ((a_deeds_kept_e_who 2), cI G 9 (deeds_kept_e_who 2)), ((a_deeds_kept_e 3), cO 7 [.ref (a_deeds_kept_e_who 3), .int (deeds_kept_e_length 3)]), ((a_deeds_kept_e_who 3), cI G 9 (deeds_kept_e_who 3)), ((a_deeds_kept_e 4), cO 7 [.ref (a_deeds_kept_e_who 4), .int (deeds_kept_e_length 4)]), ((a_deeds_kept_e_who 4), cI G 9 (deeds_kept_e_who 4)), ((a_deeds_kept_e 5), cO 7 [.ref (a_deeds_kept_e_who 5), .int (deeds_kept_e_length 5)]), ((a_deeds_kept_e_who 5), cI G 9 (deeds_kept_e_who 5)), ((a_deeds_kept_e 6), cO 7 [.ref (a_deeds_kept_e_who 6), .int (deeds_kept_e_length 6)]), ((a_deeds_kept_e_who 6), cI G 9 (deeds_kept_e_who 6)), ((a_deeds_kept_e 7), cO 7 [.ref (a_deeds_kept_e_who 7), .int (deeds_kept_e_length 7)]), ((a_deeds_kept_e_who 7), cI G 9 (deeds_kept_e_who 7)), ((a_deeds_kept_e 8), cO 7 [.ref (a_deeds_kept_e_who 8), .int (deeds_kept_e_length 8)]), ((a_deeds_kept_e_who 8), cI G 9 (deeds_kept_e_who 8)), ((a_deeds_kept_e 9), cO 7 [.ref (a_deeds_kept_e_who 9), .int (deeds_kept_e_length 9)]), ((a_deeds_kept_e_who 9), cI G 9 (deeds_kept_e_who 9)), ((a_deeds_kept_e 10), cO 7 [.ref (a_deeds_kept_e_who 10), .int (deeds_kept_e_length 10)]), ((a_deeds_kept_e_who 10), cI G 9 (deeds_kept_e_who 10)), ((a_deeds_kept_e 11), cO 7 [.ref (a_deeds_kept_e_who 11), .int (deeds_kept_e_length 11)]), ((a_deeds_kept_e_who 11), cI G 9 (deeds_kept_e_who 11))]
def f_T_was (deeds_first : Int32) (deeds_size : Int32) (deeds_kept_e_length : Nat → Int32) (deeds_kept_e_who : Nat → (Nat → Int32)) (x1 : Int32) (x2 : Int32) : Option Int32 := (if (f_Deeds_isKept deeds_size x1) = 0 then (some (-1)) else (zb1 (f_Deeds_lineAhead deeds_first deeds_size x1) fun j_2 => (zgd (j_2 < 12) (if (f_Line_isPlace (deeds_kept_e_length j_2) x2) = 0 then (some (-1)) else (zb1 (f_Deeds_lineAhead deeds_first deeds_size x1) fun j_5 => (zgd (j_5 < 12) (zb1 (f_Line_at (deeds_kept_e_length j_5) (deeds_kept_e_who j_5) x2) fun r_7 => (some r_7))))))))
set_option maxRecDepth 100000 in
set_option maxHeartbeats 4000000 in
theorem c_T_was (l : Launch) (G : zG) (a_this : Nat) (a_crowd : Nat) (a_queue : Nat) (a_text : Nat) (a_judge : Nat) (a_deeds : Nat) (a_mendings : Nat) (a_picture : Nat) (a_shelves : Nat) (a_books : Nat) (a_thoughts : Nat) (a_heads : Nat) (a_deeds_kept : Nat) (a_deeds_numbers : Nat) (a_deeds_changes : Nat) (a_deeds_greatest : Nat) (a_deeds_kept_e : Nat → Nat) (a_deeds_kept_e_who : Nat → Nat) (hasPicture : Int32) (deeds_first : Int32) (deeds_size : Int32) (deeds_kept_e_length : Nat → Int32) (deeds_kept_e_who : Nat → (Nat → Int32)) (x1 : Int32) (x2 : Int32) (r_ : Int32) (hf : f_T_was deeds_first deeds_size deeds_kept_e_length deeds_kept_e_who x1 x2 = some r_) : zM l yX11_was cX11_was 3 (some .int) 2 43 G [.ref a_this, .int x1, .int x2] (w_T_was G a_this a_crowd a_queue a_text a_judge a_deeds a_mendings a_picture a_shelves a_books a_thoughts a_heads a_deeds_kept a_deeds_numbers a_deeds_changes a_deeds_greatest a_deeds_kept_e a_deeds_kept_e_who hasPicture deeds_first deeds_size deeds_kept_e_length deeds_kept_e_who) (some (.int r_)) (w_T_was G a_this a_crowd a_queue a_text a_judge a_deeds a_mendings a_picture a_shelves a_books a_thoughts a_heads a_deeds_kept a_deeds_numbers a_deeds_changes a_deeds_greatest a_deeds_kept_e a_deeds_kept_e_who hasPicture deeds_first deeds_size deeds_kept_e_length deeds_kept_e_who) := by
  refine zM.of [(0, .ref a_this), (1, .int x1), (2, .int x2)] (own := RX11) rfl (by decide +kernel) (Nat.le_of_ble_eq_true rfl) rfl rfl fun X hX F => ?_
  subst hX
  replace hf := (f_T_was.eq_1 ..).symm.trans hf
  refine z_aload_n F 0 dX11_was_0 rfl rfl ?_
  refine z_get F 0 11 4 inlX11 rfl rfl (by decide) fl_X11_44 rfl dX11_was_1 ?_
  refine z_iload_n F 1 dX11_was_4 rfl rfl ?_
  refine z_callVm (rest := []) F 2 (c_Deeds_isKept (xL X) G a_deeds a_judge a_deeds_kept a_deeds_numbers a_deeds_changes a_deeds_greatest deeds_first deeds_size x1 _ rfl) hy_X2_isKept ml_X11_195 hd_X2_isKept ⟨by omega, by omega⟩ rfl [1] rfl rfl 1 rfl rfl (w_T_was G a_this a_crowd a_queue a_text a_judge a_deeds a_mendings a_picture a_shelves a_books a_thoughts a_heads a_deeds_kept a_deeds_numbers a_deeds_changes a_deeds_greatest a_deeds_kept_e a_deeds_kept_e_who hasPicture deeds_first deeds_size deeds_kept_e_length deeds_kept_e_who) [none, some 0, none, none, none, none, none, none, none, none, none, none, none, none, none, none, none, none, none, none, none, none, none, none, none, none, none] rfl (by decide +kernel) rfl rfl (Nat.le_of_ble_eq_true rfl) dX11_was_5 (fun hz_1 => ?_)
  refine z_if_eq F 26 dX11_was_8 (by decide) hf (fun hf _ => ?_) (fun hf _ => ?_)
  · refine z_iconst F (-1) dX11_was_26 rfl ?_
    have ee1 := Option.some.inj hf
    subst ee1
    exact z_iret F rfl rfl rfl rfl dX11_was_27
  · refine z_aload_n F 0 dX11_was_11 rfl rfl ?_
    refine z_get F 0 11 4 inlX11 rfl rfl (by decide) fl_X11_44 rfl dX11_was_12 ?_
    refine z_iload_n F 1 dX11_was_15 rfl rfl ?_
    obtain ⟨j_2, hg, hf⟩ := zb1_some hf
    refine z_callVm (rest := []) F 2 (c_Deeds_lineAhead (xL X) G a_deeds a_judge a_deeds_kept a_deeds_numbers a_deeds_changes a_deeds_greatest a_deeds_kept_e deeds_first deeds_size x1 j_2 hg) hy_X2_lineAhead ml_X11_198 hd_X2_lineAhead ⟨by omega, by omega⟩ rfl [1, 2] rfl rfl 1 rfl rfl (w_T_was G a_this a_crowd a_queue a_text a_judge a_deeds a_mendings a_picture a_shelves a_books a_thoughts a_heads a_deeds_kept a_deeds_numbers a_deeds_changes a_deeds_greatest a_deeds_kept_e a_deeds_kept_e_who hasPicture deeds_first deeds_size deeds_kept_e_length deeds_kept_e_who) [none, some 0, some 1, none, none, none, none, none, none, none, none, none, none, none, none, none, none, none, none, none, none, none, none, none, none, none, none] rfl (by decide +kernel) rfl rfl (Nat.le_of_ble_eq_true rfl) dX11_was_16 (fun hz_3 => ?_)
    obtain ⟨hj_2, hf⟩ := zgd_some hf
    refine z_iload_n F 2 dX11_was_19 rfl rfl ?_
    refine z_callV (rest := []) (fs := [.ref (a_deeds_kept_e_who j_2), .int (deeds_kept_e_length j_2)]) F 7 (c_Line_isPlace (xL X) G (a_deeds_kept_e j_2) (a_deeds_kept_e_who j_2) (deeds_kept_e_length j_2) x2 _ rfl) hy_X7_isPlace ml_X11_140 hd_X7_isPlace ⟨by omega, by omega⟩ rfl [3 + 2 * j_2] (by match j_2, hj_2 with | 0, _ => exact rfl | 1, _ => exact rfl | 2, _ => exact rfl | 3, _ => exact rfl | 4, _ => exact rfl | 5, _ => exact rfl | 6, _ => exact rfl | 7, _ => exact rfl | 8, _ => exact rfl | 9, _ => exact rfl | 10, _ => exact rfl | 11, _ => exact rfl) (by match j_2, hj_2 with | 0, _ => exact rfl | 1, _ => exact rfl | 2, _ => exact rfl | 3, _ => exact rfl | 4, _ => exact rfl | 5, _ => exact rfl | 6, _ => exact rfl | 7, _ => exact rfl | 8, _ => exact rfl | 9, _ => exact rfl | 10, _ => exact rfl | 11, _ => exact rfl) (3 + 2 * j_2) (by match j_2, hj_2 with | 0, _ => exact rfl | 1, _ => exact rfl | 2, _ => exact rfl | 3, _ => exact rfl | 4, _ => exact rfl | 5, _ => exact rfl | 6, _ => exact rfl | 7, _ => exact rfl | 8, _ => exact rfl | 9, _ => exact rfl | 10, _ => exact rfl | 11, _ => exact rfl) rfl (w_T_was G a_this a_crowd a_queue a_text a_judge a_deeds a_mendings a_picture a_shelves a_books a_thoughts a_heads a_deeds_kept a_deeds_numbers a_deeds_changes a_deeds_greatest a_deeds_kept_e a_deeds_kept_e_who hasPicture deeds_first deeds_size deeds_kept_e_length deeds_kept_e_who) (by match j_2, hj_2 with | 0, _ => exact rfl | 1, _ => exact rfl | 2, _ => exact rfl | 3, _ => exact rfl | 4, _ => exact rfl | 5, _ => exact rfl | 6, _ => exact rfl | 7, _ => exact rfl | 8, _ => exact rfl | 9, _ => exact rfl | 10, _ => exact rfl | 11, _ => exact rfl) rfl (Nat.le_of_ble_eq_true rfl) dX11_was_20 (fun hz_4 => ?_)
    refine z_if_ne F 28 dX11_was_23 (by decide) hf (fun hf _ => ?_) (fun hf _ => ?_)
    · refine z_aload_n F 0 dX11_was_28 rfl rfl ?_
      refine z_get F 0 11 4 inlX11 rfl rfl (by decide) fl_X11_44 rfl dX11_was_29 ?_
      refine z_iload_n F 1 dX11_was_32 rfl rfl ?_
      obtain ⟨j_5, hg, hf⟩ := zb1_some hf
      refine z_callVm (rest := []) F 2 (c_Deeds_lineAhead (xL X) G a_deeds a_judge a_deeds_kept a_deeds_numbers a_deeds_changes a_deeds_greatest a_deeds_kept_e deeds_first deeds_size x1 j_5 hg) hy_X2_lineAhead ml_X11_198 hd_X2_lineAhead ⟨by omega, by omega⟩ rfl [1, 2] rfl rfl 1 rfl rfl (w_T_was G a_this a_crowd a_queue a_text a_judge a_deeds a_mendings a_picture a_shelves a_books a_thoughts a_heads a_deeds_kept a_deeds_numbers a_deeds_changes a_deeds_greatest a_deeds_kept_e a_deeds_kept_e_who hasPicture deeds_first deeds_size deeds_kept_e_length deeds_kept_e_who) [none, some 0, some 1, none, none, none, none, none, none, none, none, none, none, none, none, none, none, none, none, none, none, none, none, none, none, none, none] rfl (by decide +kernel) rfl rfl (Nat.le_of_ble_eq_true rfl) dX11_was_33 (fun hz_6 => ?_)
      obtain ⟨hj_5, hf⟩ := zgd_some hf
      refine z_iload_n F 2 dX11_was_36 rfl rfl ?_
      obtain ⟨r_7, hg, hf⟩ := zb1_some hf
      refine z_callV (rest := []) (fs := [.ref (a_deeds_kept_e_who j_5), .int (deeds_kept_e_length j_5)]) F 7 (c_Line_at (xL X) G (a_deeds_kept_e j_5) (a_deeds_kept_e_who j_5) (deeds_kept_e_length j_5) (deeds_kept_e_who j_5) x2 r_7 hg) hy_X7_at ml_X11_202 hd_X7_at ⟨by omega, by omega⟩ rfl [3 + 2 * j_5, 4 + 2 * j_5] (by match j_5, hj_5 with | 0, _ => exact rfl | 1, _ => exact rfl | 2, _ => exact rfl | 3, _ => exact rfl | 4, _ => exact rfl | 5, _ => exact rfl | 6, _ => exact rfl | 7, _ => exact rfl | 8, _ => exact rfl | 9, _ => exact rfl | 10, _ => exact rfl | 11, _ => exact rfl) (by match j_5, hj_5 with | 0, _ => exact rfl | 1, _ => exact rfl | 2, _ => exact rfl | 3, _ => exact rfl | 4, _ => exact rfl | 5, _ => exact rfl | 6, _ => exact rfl | 7, _ => exact rfl | 8, _ => exact rfl | 9, _ => exact rfl | 10, _ => exact rfl | 11, _ => exact rfl) (3 + 2 * j_5) (by match j_5, hj_5 with | 0, _ => exact rfl | 1, _ => exact rfl | 2, _ => exact rfl | 3, _ => exact rfl | 4, _ => exact rfl | 5, _ => exact rfl | 6, _ => exact rfl | 7, _ => exact rfl | 8, _ => exact rfl | 9, _ => exact rfl | 10, _ => exact rfl | 11, _ => exact rfl) rfl (w_T_was G a_this a_crowd a_queue a_text a_judge a_deeds a_mendings a_picture a_shelves a_books a_thoughts a_heads a_deeds_kept a_deeds_numbers a_deeds_changes a_deeds_greatest a_deeds_kept_e a_deeds_kept_e_who hasPicture deeds_first deeds_size deeds_kept_e_length deeds_kept_e_who) (by match j_5, hj_5 with | 0, _ => exact rfl | 1, _ => exact rfl | 2, _ => exact rfl | 3, _ => exact rfl | 4, _ => exact rfl | 5, _ => exact rfl | 6, _ => exact rfl | 7, _ => exact rfl | 8, _ => exact rfl | 9, _ => exact rfl | 10, _ => exact rfl | 11, _ => exact rfl) rfl (Nat.le_of_ble_eq_true rfl) dX11_was_37 (fun hz_8 => ?_)
      have ee1 := Option.some.inj hf
      subst ee1
      exact z_iret F rfl rfl rfl rfl dX11_was_40
    · refine z_iconst F (-1) dX11_was_26 rfl ?_
      have ee1 := Option.some.inj hf
      subst ee1
      exact z_iret F rfl rfl rfl rfl dX11_was_27

abbrev w_T_again (G : zG) (a_this : Nat) (a_crowd : Nat) (a_queue : Nat) (a_text : Nat) (a_judge : Nat) (a_deeds : Nat) (a_mendings : Nat) (a_picture : Nat) (a_shelves : Nat) (a_books : Nat) (a_thoughts : Nat) (a_heads : Nat) (a_queue_who : Nat) (a_deeds_kept : Nat) (a_deeds_numbers : Nat) (a_deeds_changes : Nat) (a_deeds_greatest : Nat) (a_deeds_kept_e : Nat → Nat) (a_deeds_kept_e_who : Nat → Nat) (hasPicture : Int32) (queue_length : Int32) (queue_who : Nat → Int32) (deeds_first : Int32) (deeds_size : Int32) (deeds_kept_e_length : Nat → Int32) (deeds_kept_e_who : Nat → (Nat → Int32)) : va_W := [(a_this, cO 11 [.ref a_crowd, .ref a_queue, .ref a_text, .ref a_judge, .ref a_deeds, .ref a_mendings, .ref a_picture, .int hasPicture, .ref a_shelves, .ref a_books, .ref a_thoughts, .ref a_heads]), (a_queue, cO 7 [.ref a_queue_who, .int queue_length]), (a_queue_who, cI G 9 queue_who), (a_deeds, cO 2 [.ref a_judge, .ref a_deeds_kept, .int deeds_first, .int deeds_size, .ref a_deeds_numbers, .ref a_deeds_changes, .ref a_deeds_greatest]), (a_deeds_kept, cL G 12 (fun j => some (a_deeds_kept_e j))), ((a_deeds_kept_e 0), cO 7 [.ref (a_deeds_kept_e_who 0), .int (deeds_kept_e_length 0)]), ((a_deeds_kept_e_who 0), cI G 9 (deeds_kept_e_who 0)), ((a_deeds_kept_e 1), cO 7 [.ref (a_deeds_kept_e_who 1), .int (deeds_kept_e_length 1)]), ((a_deeds_kept_e_who 1), cI G 9 (deeds_kept_e_who 1)), ((a_deeds_kept_e 2), cO 7 [.ref (a_deeds_kept_e_who 2), .int (deeds_kept_e_length 2)]), ((a_deeds_kept_e_who 2), cI G 9 (deeds_kept_e_who 2)), ((a_deeds_kept_e 3), cO 7 [.ref (a_deeds_kept_e_who 3), .int (deeds_kept_e_length 3)]), ((a_deeds_kept_e_who 3), cI G 9 (deeds_kept_e_who 3)), ((a_deeds_kept_e 4), cO 7 [.ref (a_deeds_kept_e_who 4), .int (deeds_kept_e_length 4)]), ((a_deeds_kept_e_who 4), cI G 9 (deeds_kept_e_who 4)), ((a_deeds_kept_e 5), cO 7 [.ref (a_deeds_kept_e_who 5), .int (deeds_kept_e_length 5)]), ((a_deeds_kept_e_who 5), cI G 9 (deeds_kept_e_who 5)), ((a_deeds_kept_e 6), cO 7 [.ref (a_deeds_kept_e_who 6), .int (deeds_kept_e_length 6)]), ((a_deeds_kept_e_who 6), cI G 9 (deeds_kept_e_who 6)), ((a_deeds_kept_e 7), cO 7 [.ref (a_deeds_kept_e_who 7), .int (deeds_kept_e_length 7)]), ((a_deeds_kept_e_who 7), cI G 9 (deeds_kept_e_who 7)), ((a_deeds_kept_e 8), cO 7 [.ref (a_deeds_kept_e_who 8), .int (deeds_kept_e_length 8)]), ((a_deeds_kept_e_who 8), cI G 9 (deeds_kept_e_who 8)), ((a_deeds_kept_e 9), cO 7 [.ref (a_deeds_kept_e_who 9), .int (deeds_kept_e_length 9)]), ((a_deeds_kept_e_who 9), cI G 9 (deeds_kept_e_who 9)), ((a_deeds_kept_e 10), cO 7 [.ref (a_deeds_kept_e_who 10), .int (deeds_kept_e_length 10)]), ((a_deeds_kept_e_who 10), cI G 9 (deeds_kept_e_who 10)), ((a_deeds_kept_e 11), cO 7 [.ref (a_deeds_kept_e_who 11), .int (deeds_kept_e_length 11)]), ((a_deeds_kept_e_who 11), cI G 9 (deeds_kept_e_who 11))]
def f_T_again (queue_length : Int32) (queue_who : Nat → Int32) (deeds_first : Int32) (deeds_size : Int32) (deeds_kept_e_length : Nat → Int32) (deeds_kept_e_who : Nat → (Nat → Int32)) (x1 : Int32) : Option (Int32 × Int32 × (Nat → Int32) × Int32) := (if (f_Deeds_isKept deeds_size x1) = 0 then (some ((-1), queue_length, queue_who, deeds_size)) else (zb1 (f_Deeds_lineAhead deeds_first deeds_size x1) fun j_2 => (zgd (j_2 < 12) (zb2 (f_Line_copyFrom queue_length queue_who (deeds_kept_e_length j_2) (deeds_kept_e_who j_2)) fun queue_length_4 queue_who_5 => (zb1 (f_Deeds_forget deeds_size x1) fun deeds_size_7 => (some ((f_Deeds_size deeds_size_7), queue_length_4, queue_who_5, deeds_size_7)))))))
set_option maxRecDepth 100000 in
set_option maxHeartbeats 4000000 in
theorem c_T_again (l : Launch) (G : zG) (a_this : Nat) (a_crowd : Nat) (a_queue : Nat) (a_text : Nat) (a_judge : Nat) (a_deeds : Nat) (a_mendings : Nat) (a_picture : Nat) (a_shelves : Nat) (a_books : Nat) (a_thoughts : Nat) (a_heads : Nat) (a_queue_who : Nat) (a_deeds_kept : Nat) (a_deeds_numbers : Nat) (a_deeds_changes : Nat) (a_deeds_greatest : Nat) (a_deeds_kept_e : Nat → Nat) (a_deeds_kept_e_who : Nat → Nat) (hasPicture : Int32) (queue_length : Int32) (queue_who : Nat → Int32) (deeds_first : Int32) (deeds_size : Int32) (deeds_kept_e_length : Nat → Int32) (deeds_kept_e_who : Nat → (Nat → Int32)) (x1 : Int32) (r_ : Int32) (o_queue_length : Int32) (o_queue_who : Nat → Int32) (o_deeds_size : Int32) (hf : f_T_again queue_length queue_who deeds_first deeds_size deeds_kept_e_length deeds_kept_e_who x1 = some (r_, o_queue_length, o_queue_who, o_deeds_size)) : zM l yX11_again cX11_again 2 (some .int) 2 141 G [.ref a_this, .int x1] (w_T_again G a_this a_crowd a_queue a_text a_judge a_deeds a_mendings a_picture a_shelves a_books a_thoughts a_heads a_queue_who a_deeds_kept a_deeds_numbers a_deeds_changes a_deeds_greatest a_deeds_kept_e a_deeds_kept_e_who hasPicture queue_length queue_who deeds_first deeds_size deeds_kept_e_length deeds_kept_e_who) (some (.int r_)) (w_T_again G a_this a_crowd a_queue a_text a_judge a_deeds a_mendings a_picture a_shelves a_books a_thoughts a_heads a_queue_who a_deeds_kept a_deeds_numbers a_deeds_changes a_deeds_greatest a_deeds_kept_e a_deeds_kept_e_who hasPicture o_queue_length o_queue_who deeds_first o_deeds_size deeds_kept_e_length deeds_kept_e_who) := by
  refine zM.of [(0, .ref a_this), (1, .int x1)] (own := RX11) rfl (by decide +kernel) (Nat.le_of_ble_eq_true rfl) rfl rfl fun X hX F => ?_
  subst hX
  replace hf := (f_T_again.eq_1 ..).symm.trans hf
  refine z_aload_n F 0 dX11_again_0 rfl rfl ?_
  refine z_get F 0 11 4 inlX11 rfl rfl (by decide) fl_X11_44 rfl dX11_again_1 ?_
  refine z_iload_n F 1 dX11_again_4 rfl rfl ?_
  refine z_callVm (rest := []) F 2 (c_Deeds_isKept (xL X) G a_deeds a_judge a_deeds_kept a_deeds_numbers a_deeds_changes a_deeds_greatest deeds_first deeds_size x1 _ rfl) hy_X2_isKept ml_X11_195 hd_X2_isKept ⟨by omega, by omega⟩ rfl [3] rfl rfl 3 rfl rfl (w_T_again G a_this a_crowd a_queue a_text a_judge a_deeds a_mendings a_picture a_shelves a_books a_thoughts a_heads a_queue_who a_deeds_kept a_deeds_numbers a_deeds_changes a_deeds_greatest a_deeds_kept_e a_deeds_kept_e_who hasPicture queue_length queue_who deeds_first deeds_size deeds_kept_e_length deeds_kept_e_who) [none, none, none, some 0, none, none, none, none, none, none, none, none, none, none, none, none, none, none, none, none, none, none, none, none, none, none, none, none, none] rfl (by decide +kernel) rfl rfl (Nat.le_of_ble_eq_true rfl) dX11_again_5 (fun hz_1 => ?_)
  refine z_if_ne F 13 dX11_again_8 (by decide) hf (fun hf _ => ?_) (fun hf _ => ?_)
  · refine z_aload_n F 0 dX11_again_13 rfl rfl ?_
    refine z_get F 0 11 1 inlX11 rfl rfl (by decide) fl_X11_19 rfl dX11_again_14 ?_
    refine z_aload_n F 0 dX11_again_17 rfl rfl ?_
    refine z_get F 0 11 4 inlX11 rfl rfl (by decide) fl_X11_44 rfl dX11_again_18 ?_
    refine z_iload_n F 1 dX11_again_21 rfl rfl ?_
    obtain ⟨j_2, hg, hf⟩ := zb1_some hf
    refine z_callVm (rest := [.ref a_queue]) F 2 (c_Deeds_lineAhead (xL X) G a_deeds a_judge a_deeds_kept a_deeds_numbers a_deeds_changes a_deeds_greatest a_deeds_kept_e deeds_first deeds_size x1 j_2 hg) hy_X2_lineAhead ml_X11_198 hd_X2_lineAhead ⟨by omega, by omega⟩ rfl [3, 4] rfl rfl 3 rfl rfl (w_T_again G a_this a_crowd a_queue a_text a_judge a_deeds a_mendings a_picture a_shelves a_books a_thoughts a_heads a_queue_who a_deeds_kept a_deeds_numbers a_deeds_changes a_deeds_greatest a_deeds_kept_e a_deeds_kept_e_who hasPicture queue_length queue_who deeds_first deeds_size deeds_kept_e_length deeds_kept_e_who) [none, none, none, some 0, some 1, none, none, none, none, none, none, none, none, none, none, none, none, none, none, none, none, none, none, none, none, none, none, none, none] rfl (by decide +kernel) rfl rfl (Nat.le_of_ble_eq_true rfl) dX11_again_22 (fun hz_3 => ?_)
    obtain ⟨hj_2, hf⟩ := zgd_some hf
    obtain ⟨queue_length_4, queue_who_5, hg, hf⟩ := zb2_some hf
    refine z_callV (rest := []) F 7 (c_Line_copyFrom (xL X) G a_queue a_queue_who (a_deeds_kept_e j_2) (a_deeds_kept_e_who j_2) queue_length queue_who (deeds_kept_e_length j_2) (deeds_kept_e_who j_2) queue_length_4 queue_who_5 hg) hy_X7_copyFrom ml_X11_192 hd_X7_copyFrom ⟨by omega, by omega⟩ rfl [1, 2, 5 + 2 * j_2, 6 + 2 * j_2] (by match j_2, hj_2 with | 0, _ => exact rfl | 1, _ => exact rfl | 2, _ => exact rfl | 3, _ => exact rfl | 4, _ => exact rfl | 5, _ => exact rfl | 6, _ => exact rfl | 7, _ => exact rfl | 8, _ => exact rfl | 9, _ => exact rfl | 10, _ => exact rfl | 11, _ => exact rfl) (by match j_2, hj_2 with | 0, _ => exact rfl | 1, _ => exact rfl | 2, _ => exact rfl | 3, _ => exact rfl | 4, _ => exact rfl | 5, _ => exact rfl | 6, _ => exact rfl | 7, _ => exact rfl | 8, _ => exact rfl | 9, _ => exact rfl | 10, _ => exact rfl | 11, _ => exact rfl) 1 rfl rfl (w_T_again G a_this a_crowd a_queue a_text a_judge a_deeds a_mendings a_picture a_shelves a_books a_thoughts a_heads a_queue_who a_deeds_kept a_deeds_numbers a_deeds_changes a_deeds_greatest a_deeds_kept_e a_deeds_kept_e_who hasPicture queue_length_4 queue_who_5 deeds_first deeds_size deeds_kept_e_length deeds_kept_e_who) (by match j_2, hj_2 with | 0, _ => exact rfl | 1, _ => exact rfl | 2, _ => exact rfl | 3, _ => exact rfl | 4, _ => exact rfl | 5, _ => exact rfl | 6, _ => exact rfl | 7, _ => exact rfl | 8, _ => exact rfl | 9, _ => exact rfl | 10, _ => exact rfl | 11, _ => exact rfl) rfl (Nat.le_of_ble_eq_true rfl) dX11_again_25 (fun hz_6 => ?_)
    refine z_aload_n F 0 dX11_again_28 rfl rfl ?_
    refine z_get F 0 11 4 inlX11 rfl rfl (by decide) fl_X11_44 rfl dX11_again_29 ?_
    refine z_iload_n F 1 dX11_again_32 rfl rfl ?_
    obtain ⟨deeds_size_7, hg, hf⟩ := zb1_some hf
    refine z_callVm (rest := []) F 2 (c_Deeds_forget (xL X) G a_deeds a_judge a_deeds_kept a_deeds_numbers a_deeds_changes a_deeds_greatest deeds_first deeds_size x1 deeds_size_7 hg) hy_X2_forget ml_X11_205 hd_X2_forget ⟨by omega, by omega⟩ rfl [3] rfl rfl 3 rfl rfl (w_T_again G a_this a_crowd a_queue a_text a_judge a_deeds a_mendings a_picture a_shelves a_books a_thoughts a_heads a_queue_who a_deeds_kept a_deeds_numbers a_deeds_changes a_deeds_greatest a_deeds_kept_e a_deeds_kept_e_who hasPicture queue_length_4 queue_who_5 deeds_first deeds_size_7 deeds_kept_e_length deeds_kept_e_who) [none, none, none, some 0, none, none, none, none, none, none, none, none, none, none, none, none, none, none, none, none, none, none, none, none, none, none, none, none, none] rfl (by decide +kernel) rfl rfl (Nat.le_of_ble_eq_true rfl) dX11_again_33 (fun hz_8 => ?_)
    refine z_aload_n F 0 dX11_again_36 rfl rfl ?_
    refine z_get F 0 11 4 inlX11 rfl rfl (by decide) fl_X11_44 rfl dX11_again_37 ?_
    refine z_callVm (rest := []) F 2 (c_Deeds_size (xL X) G a_deeds a_judge a_deeds_kept a_deeds_numbers a_deeds_changes a_deeds_greatest deeds_first deeds_size_7 _ rfl) hy_X2_size ml_X11_209 hd_X2_size ⟨by omega, by omega⟩ rfl [3] rfl rfl 3 rfl rfl (w_T_again G a_this a_crowd a_queue a_text a_judge a_deeds a_mendings a_picture a_shelves a_books a_thoughts a_heads a_queue_who a_deeds_kept a_deeds_numbers a_deeds_changes a_deeds_greatest a_deeds_kept_e a_deeds_kept_e_who hasPicture queue_length_4 queue_who_5 deeds_first deeds_size_7 deeds_kept_e_length deeds_kept_e_who) [none, none, none, some 0, none, none, none, none, none, none, none, none, none, none, none, none, none, none, none, none, none, none, none, none, none, none, none, none, none] rfl (by decide +kernel) rfl rfl (Nat.le_of_ble_eq_true rfl) dX11_again_40 (fun hz_9 => ?_)
    have eq1 := Option.some.inj hf
    obtain ⟨ee1, eq2⟩ := Prod.mk.inj eq1
    obtain ⟨ee2, eq3⟩ := Prod.mk.inj eq2
    obtain ⟨ee3, ee4⟩ := Prod.mk.inj eq3
    subst ee1
    subst ee2
    subst ee3
    subst ee4
    exact z_iret F rfl rfl rfl rfl dX11_again_43
  · refine z_iconst F (-1) dX11_again_11 rfl ?_
    have eq1 := Option.some.inj hf
    obtain ⟨ee1, eq2⟩ := Prod.mk.inj eq1
    obtain ⟨ee2, eq3⟩ := Prod.mk.inj eq2
    obtain ⟨ee3, ee4⟩ := Prod.mk.inj eq3
    subst ee1
    subst ee2
    subst ee3
    subst ee4
    exact z_iret F rfl rfl rfl rfl dX11_again_12

abbrev w_T_book (G : zG) (a_this : Nat) (a_crowd : Nat) (a_queue : Nat) (a_text : Nat) (a_judge : Nat) (a_deeds : Nat) (a_mendings : Nat) (a_picture : Nat) (a_shelves : Nat) (a_books : Nat) (a_thoughts : Nat) (a_heads : Nat) (a_crowd_heights : Nat) (a_queue_who : Nat) (a_text_tape : Nat) (a_text_reader : Nat) (a_text_steps : Nat) (a_text_worked : Nat) (a_judge_known : Nat) (a_shelves_sorts : Nat) (a_shelves_sizes : Nat) (a_shelves_held : Nat) (a_shelves_elements : Nat) (a_shelves_elements_e : Nat → Nat) (a_books_numbers : Nat) (a_books_left : Nat) (a_books_result : Nat) (a_books_fillings : Nat) (a_books_spare : Nat) (a_books_rowCounts : Nat) (hasPicture : Int32) (crowd_people : Int32) (crowd_heights : Nat → Int32) (queue_length : Int32) (queue_who : Nat → Int32) (text_fed : Int32) (text_length : Int32) (text_top : Int32) (text_steps : Nat → Int32) (text_worked : Nat → Int32) (judge_known : Nat → Int32) (shelves_sorts : Nat → Int32) (shelves_sizes : Nat → Int32) (shelves_elements_e : Nat → (Nat → Int64)) (books_size : Int32) (books_numbers : Nat → Int32) : va_W := [(a_this, cO 11 [.ref a_crowd, .ref a_queue, .ref a_text, .ref a_judge, .ref a_deeds, .ref a_mendings, .ref a_picture, .int hasPicture, .ref a_shelves, .ref a_books, .ref a_thoughts, .ref a_heads]), (a_crowd, cO 1 [.ref a_crowd_heights, .int crowd_people]), (a_crowd_heights, cI G 9 crowd_heights), (a_queue, cO 7 [.ref a_queue_who, .int queue_length]), (a_queue_who, cI G 9 queue_who), (a_text, cO 5 [.ref a_text_tape, .int text_fed, .ref a_text_reader, .ref a_text_steps, .int text_length, .ref a_text_worked, .int text_top]), (a_text_steps, cI G 121 text_steps), (a_text_worked, cI G 121 text_worked), (a_judge, cO 4 [.ref a_crowd, .ref a_text, .ref a_judge_known]), (a_judge_known, cB G 729 judge_known), (a_shelves, cO 9 [.ref a_shelves_sorts, .ref a_shelves_sizes, .ref a_shelves_held, .ref a_shelves_elements]), (a_shelves_sorts, cI G 6 shelves_sorts), (a_shelves_sizes, cI G 6 shelves_sizes), (a_shelves_elements, cJJ G 6 (fun j => some (a_shelves_elements_e j))), ((a_shelves_elements_e 0), cJ G 60 (shelves_elements_e 0)), ((a_shelves_elements_e 1), cJ G 60 (shelves_elements_e 1)), ((a_shelves_elements_e 2), cJ G 60 (shelves_elements_e 2)), ((a_shelves_elements_e 3), cJ G 60 (shelves_elements_e 3)), ((a_shelves_elements_e 4), cJ G 60 (shelves_elements_e 4)), ((a_shelves_elements_e 5), cJ G 60 (shelves_elements_e 5)), (a_books, cO 0 [.ref a_crowd, .ref a_shelves, .ref a_books_numbers, .int books_size, .ref a_books_left, .ref a_books_result, .ref a_books_fillings, .ref a_books_spare, .ref a_books_rowCounts]), (a_books_numbers, cI G 9 books_numbers)]
def f_T_book (crowd_people : Int32) (crowd_heights : Nat → Int32) (queue_length : Int32) (queue_who : Nat → Int32) (text_length : Int32) (text_top : Int32) (text_steps : Nat → Int32) (text_worked : Nat → Int32) (judge_known : Nat → Int32) (shelves_sorts : Nat → Int32) (shelves_sizes : Nat → Int32) (shelves_elements_e : Nat → (Nat → Int64)) (books_size : Int32) (books_numbers : Nat → Int32) (x1 : Int32) (x2 : Int32) : Option (Int32 × Int32 × (Nat → Int32) × (Nat → Int32) × Int32 × (Nat → Int32)) := (if (f_Shelves_isShelf x1) = 0 then (some ((-1), text_top, text_worked, judge_known, books_size, books_numbers)) else (if x2 < 0 then (some ((-1), text_top, text_worked, judge_known, books_size, books_numbers)) else (if x2 ≤ 1 then (zb1 (f_Shelves_refusalOfBytes shelves_sorts x1) fun r_2 => (if r_2 = 0 then (zb2 (f_Books_open books_size shelves_sizes shelves_elements_e books_numbers queue_length x1) fun books_size_4 books_numbers_5 => (if x2 = 0 then (zb1 (f_Books_firstFalse books_size_4 books_numbers_5) fun r_12 => (some (r_12, text_top, text_worked, judge_known, books_size_4, books_numbers_5))) else (zb4 (f_Books_firstUnlike books_size_4 crowd_people crowd_heights books_numbers_5 text_length text_top text_steps text_worked judge_known queue_length queue_who) fun r_7 text_top_8 text_worked_9 judge_known_10 => (some (r_7, text_top_8, text_worked_9, judge_known_10, books_size_4, books_numbers_5))))) else (some (r_2, text_top, text_worked, judge_known, books_size, books_numbers)))) else (some ((-1), text_top, text_worked, judge_known, books_size, books_numbers)))))
set_option maxRecDepth 100000 in
set_option maxHeartbeats 4000000 in
theorem c_T_book (l : Launch) (G : zG) (a_this : Nat) (a_crowd : Nat) (a_queue : Nat) (a_text : Nat) (a_judge : Nat) (a_deeds : Nat) (a_mendings : Nat) (a_picture : Nat) (a_shelves : Nat) (a_books : Nat) (a_thoughts : Nat) (a_heads : Nat) (a_crowd_heights : Nat) (a_queue_who : Nat) (a_text_tape : Nat) (a_text_reader : Nat) (a_text_steps : Nat) (a_text_worked : Nat) (a_judge_known : Nat) (a_shelves_sorts : Nat) (a_shelves_sizes : Nat) (a_shelves_held : Nat) (a_shelves_elements : Nat) (a_shelves_elements_e : Nat → Nat) (a_books_numbers : Nat) (a_books_left : Nat) (a_books_result : Nat) (a_books_fillings : Nat) (a_books_spare : Nat) (a_books_rowCounts : Nat) (hasPicture : Int32) (crowd_people : Int32) (crowd_heights : Nat → Int32) (queue_length : Int32) (queue_who : Nat → Int32) (text_fed : Int32) (text_length : Int32) (text_top : Int32) (text_steps : Nat → Int32) (text_worked : Nat → Int32) (judge_known : Nat → Int32) (shelves_sorts : Nat → Int32) (shelves_sizes : Nat → Int32) (shelves_elements_e : Nat → (Nat → Int64)) (books_size : Int32) (books_numbers : Nat → Int32) (x1 : Int32) (x2 : Int32) (r_ : Int32) (o_text_top : Int32) (o_text_worked : Nat → Int32) (o_judge_known : Nat → Int32) (o_books_size : Int32) (o_books_numbers : Nat → Int32) (hf : f_T_book crowd_people crowd_heights queue_length queue_who text_length text_top text_steps text_worked judge_known shelves_sorts shelves_sizes shelves_elements_e books_size books_numbers x1 x2 = some (r_, o_text_top, o_text_worked, o_judge_known, o_books_size, o_books_numbers)) : zM l yX11_book cX11_book 4 (some .int) 5 127 G [.ref a_this, .int x1, .int x2] (w_T_book G a_this a_crowd a_queue a_text a_judge a_deeds a_mendings a_picture a_shelves a_books a_thoughts a_heads a_crowd_heights a_queue_who a_text_tape a_text_reader a_text_steps a_text_worked a_judge_known a_shelves_sorts a_shelves_sizes a_shelves_held a_shelves_elements a_shelves_elements_e a_books_numbers a_books_left a_books_result a_books_fillings a_books_spare a_books_rowCounts hasPicture crowd_people crowd_heights queue_length queue_who text_fed text_length text_top text_steps text_worked judge_known shelves_sorts shelves_sizes shelves_elements_e books_size books_numbers) (some (.int r_)) (w_T_book G a_this a_crowd a_queue a_text a_judge a_deeds a_mendings a_picture a_shelves a_books a_thoughts a_heads a_crowd_heights a_queue_who a_text_tape a_text_reader a_text_steps a_text_worked a_judge_known a_shelves_sorts a_shelves_sizes a_shelves_held a_shelves_elements a_shelves_elements_e a_books_numbers a_books_left a_books_result a_books_fillings a_books_spare a_books_rowCounts hasPicture crowd_people crowd_heights queue_length queue_who text_fed text_length o_text_top text_steps o_text_worked o_judge_known shelves_sorts shelves_sizes shelves_elements_e o_books_size o_books_numbers) := by
  refine zM.of [(0, .ref a_this), (1, .int x1), (2, .int x2)] (own := RX11) rfl (by decide +kernel) (Nat.le_of_ble_eq_true rfl) rfl rfl fun X hX F => ?_
  subst hX
  replace hf := (f_T_book.eq_1 ..).symm.trans hf
  refine z_aload_n F 0 dX11_book_0 rfl rfl ?_
  refine z_get F 0 11 8 inlX11 rfl rfl (by decide) fl_X11_61 rfl dX11_book_1 ?_
  refine z_iload_n F 1 dX11_book_4 rfl rfl ?_
  refine z_callVm (rest := []) F 9 (c_Shelves_isShelf (xL X) G a_shelves a_shelves_sorts a_shelves_sizes a_shelves_held a_shelves_elements x1 _ rfl) hy_X9_isShelf ml_X11_102 hd_X9_isShelf ⟨by omega, by omega⟩ rfl [10] rfl rfl 10 rfl rfl (w_T_book G a_this a_crowd a_queue a_text a_judge a_deeds a_mendings a_picture a_shelves a_books a_thoughts a_heads a_crowd_heights a_queue_who a_text_tape a_text_reader a_text_steps a_text_worked a_judge_known a_shelves_sorts a_shelves_sizes a_shelves_held a_shelves_elements a_shelves_elements_e a_books_numbers a_books_left a_books_result a_books_fillings a_books_spare a_books_rowCounts hasPicture crowd_people crowd_heights queue_length queue_who text_fed text_length text_top text_steps text_worked judge_known shelves_sorts shelves_sizes shelves_elements_e books_size books_numbers) [none, none, none, none, none, none, none, none, none, none, some 0, none, none, none, none, none, none, none, none, none, none, none] rfl (by decide +kernel) rfl rfl (Nat.le_of_ble_eq_true rfl) dX11_book_5 (fun hz_1 => ?_)
  refine z_if_eq F 20 dX11_book_8 (by decide) hf (fun hf _ => ?_) (fun hf _ => ?_)
  · refine z_iconst F (-1) dX11_book_20 rfl ?_
    have eq1 := Option.some.inj hf
    obtain ⟨ee1, eq2⟩ := Prod.mk.inj eq1
    obtain ⟨ee2, eq3⟩ := Prod.mk.inj eq2
    obtain ⟨ee3, eq4⟩ := Prod.mk.inj eq3
    obtain ⟨ee4, eq5⟩ := Prod.mk.inj eq4
    obtain ⟨ee5, ee6⟩ := Prod.mk.inj eq5
    subst ee1
    subst ee2
    subst ee3
    subst ee4
    subst ee5
    subst ee6
    exact z_iret F rfl rfl rfl rfl dX11_book_21
  · refine z_iload_n F 2 dX11_book_11 rfl rfl ?_
    refine z_if_lt F 20 dX11_book_12 (by decide) hf (fun hf _ => ?_) (fun hf _ => ?_)
    · refine z_iconst F (-1) dX11_book_20 rfl ?_
      have eq1 := Option.some.inj hf
      obtain ⟨ee1, eq2⟩ := Prod.mk.inj eq1
      obtain ⟨ee2, eq3⟩ := Prod.mk.inj eq2
      obtain ⟨ee3, eq4⟩ := Prod.mk.inj eq3
      obtain ⟨ee4, eq5⟩ := Prod.mk.inj eq4
      obtain ⟨ee5, ee6⟩ := Prod.mk.inj eq5
      subst ee1
      subst ee2
      subst ee3
      subst ee4
      subst ee5
      subst ee6
      exact z_iret F rfl rfl rfl rfl dX11_book_21
    · refine z_iload_n F 2 dX11_book_15 rfl rfl ?_
      refine z_iconst F (1) dX11_book_16 rfl ?_
      refine z_icmp_le F 22 dX11_book_17 (by decide) hf (fun hf _ => ?_) (fun hf _ => ?_)
      · refine z_aload_n F 0 dX11_book_22 rfl rfl ?_
        refine z_get F 0 11 8 inlX11 rfl rfl (by decide) fl_X11_61 rfl dX11_book_23 ?_
        refine z_iload_n F 1 dX11_book_26 rfl rfl ?_
        obtain ⟨r_2, hg, hf⟩ := zb1_some hf
        refine z_callVm (rest := []) F 9 (c_Shelves_refusalOfBytes (xL X) G a_shelves a_shelves_sorts a_shelves_sizes a_shelves_held a_shelves_elements shelves_sorts x1 r_2 hg) hy_X9_refusalOfBytes ml_X11_106 hd_X9_refusalOfBytes ⟨by omega, by omega⟩ rfl [10, 11] rfl rfl 10 rfl rfl (w_T_book G a_this a_crowd a_queue a_text a_judge a_deeds a_mendings a_picture a_shelves a_books a_thoughts a_heads a_crowd_heights a_queue_who a_text_tape a_text_reader a_text_steps a_text_worked a_judge_known a_shelves_sorts a_shelves_sizes a_shelves_held a_shelves_elements a_shelves_elements_e a_books_numbers a_books_left a_books_result a_books_fillings a_books_spare a_books_rowCounts hasPicture crowd_people crowd_heights queue_length queue_who text_fed text_length text_top text_steps text_worked judge_known shelves_sorts shelves_sizes shelves_elements_e books_size books_numbers) [none, none, none, none, none, none, none, none, none, none, some 0, some 1, none, none, none, none, none, none, none, none, none, none] rfl (by decide +kernel) rfl rfl (Nat.le_of_ble_eq_true rfl) dX11_book_27 (fun hz_3 => ?_)
        refine z_istore_n F [(3, .int r_2), (0, .ref a_this), (1, .int x1), (2, .int x2)] dX11_book_30 rfl (by decide) rfl ?_
        refine z_iload_n F 0 dX11_book_31 rfl rfl ?_
        refine z_if_eq F 37 dX11_book_32 (by decide) hf (fun hf _ => ?_) (fun hf _ => ?_)
        · refine z_aload_n F 1 dX11_book_37 rfl rfl ?_
          refine z_get F 0 11 9 inlX11 rfl rfl (by decide) fl_X11_70 rfl dX11_book_38 ?_
          refine z_iload_n F 2 dX11_book_41 rfl rfl ?_
          refine z_aload_n F 1 dX11_book_42 rfl rfl ?_
          refine z_get F 0 11 1 inlX11 rfl rfl (by decide) fl_X11_19 rfl dX11_book_43 ?_
          obtain ⟨books_size_4, books_numbers_5, hg, hf⟩ := zb2_some hf
          refine z_callVm (rest := []) F 0 (c_Books_open (xL X) G a_books a_crowd a_shelves a_books_numbers a_books_left a_books_result a_books_fillings a_books_spare a_books_rowCounts a_shelves_sorts a_shelves_sizes a_shelves_held a_shelves_elements a_shelves_elements_e a_queue a_queue_who books_size shelves_sizes shelves_elements_e books_numbers queue_length x1 books_size_4 books_numbers_5 hg) hy_X0_open ml_X11_210 hd_X0_open ⟨by omega, by omega⟩ rfl [20, 10, 12, 13, 14, 15, 16, 17, 18, 19, 21, 3] rfl rfl 20 rfl rfl (w_T_book G a_this a_crowd a_queue a_text a_judge a_deeds a_mendings a_picture a_shelves a_books a_thoughts a_heads a_crowd_heights a_queue_who a_text_tape a_text_reader a_text_steps a_text_worked a_judge_known a_shelves_sorts a_shelves_sizes a_shelves_held a_shelves_elements a_shelves_elements_e a_books_numbers a_books_left a_books_result a_books_fillings a_books_spare a_books_rowCounts hasPicture crowd_people crowd_heights queue_length queue_who text_fed text_length text_top text_steps text_worked judge_known shelves_sorts shelves_sizes shelves_elements_e books_size_4 books_numbers_5) [none, none, none, some 11, none, none, none, none, none, none, some 1, none, some 2, some 3, some 4, some 5, some 6, some 7, some 8, some 9, some 0, some 10] rfl (by decide +kernel) rfl rfl (Nat.le_of_ble_eq_true rfl) dX11_book_46 (fun hz_6 => ?_)
          refine z_iload_n F 3 dX11_book_49 rfl rfl ?_
          refine z_if_ne F 63 dX11_book_50 (by decide) hf (fun hf _ => ?_) (fun hf _ => ?_)
          · refine z_aload_n F 1 dX11_book_63 rfl rfl ?_
            refine z_get F 0 11 9 inlX11 rfl rfl (by decide) fl_X11_70 rfl dX11_book_64 ?_
            refine z_aload_n F 1 dX11_book_67 rfl rfl ?_
            refine z_get F 0 11 3 inlX11 rfl rfl (by decide) fl_X11_35 rfl dX11_book_68 ?_
            refine z_aload_n F 1 dX11_book_71 rfl rfl ?_
            refine z_get F 0 11 1 inlX11 rfl rfl (by decide) fl_X11_19 rfl dX11_book_72 ?_
            obtain ⟨r_7, text_top_8, text_worked_9, judge_known_10, hg, hf⟩ := zb4_some hf
            refine z_callVm (rest := []) F 0 (c_Books_firstUnlike (xL X) G a_books a_crowd a_shelves a_books_numbers a_books_left a_books_result a_books_fillings a_books_spare a_books_rowCounts a_crowd_heights a_judge a_text a_judge_known a_text_tape a_text_reader a_text_steps a_text_worked a_queue a_queue_who books_size_4 crowd_people crowd_heights books_numbers_5 text_fed text_length text_top text_steps text_worked judge_known queue_length queue_who r_7 text_top_8 text_worked_9 judge_known_10 hg) hy_X0_firstUnlike ml_X11_217 hd_X0_firstUnlike ⟨by omega, by omega⟩ rfl [20, 1, 2, 21, 8, 5, 6, 7, 9, 3, 4] rfl rfl 20 rfl rfl (w_T_book G a_this a_crowd a_queue a_text a_judge a_deeds a_mendings a_picture a_shelves a_books a_thoughts a_heads a_crowd_heights a_queue_who a_text_tape a_text_reader a_text_steps a_text_worked a_judge_known a_shelves_sorts a_shelves_sizes a_shelves_held a_shelves_elements a_shelves_elements_e a_books_numbers a_books_left a_books_result a_books_fillings a_books_spare a_books_rowCounts hasPicture crowd_people crowd_heights queue_length queue_who text_fed text_length text_top_8 text_steps text_worked_9 judge_known_10 shelves_sorts shelves_sizes shelves_elements_e books_size_4 books_numbers_5) [none, some 1, some 2, some 9, some 10, some 5, some 6, some 7, some 4, some 8, none, none, none, none, none, none, none, none, none, none, some 0, some 3] rfl (by decide +kernel) rfl rfl (Nat.le_of_ble_eq_true rfl) dX11_book_75 (fun hz_11 => ?_)
            have eq1 := Option.some.inj hf
            obtain ⟨ee1, eq2⟩ := Prod.mk.inj eq1
            obtain ⟨ee2, eq3⟩ := Prod.mk.inj eq2
            obtain ⟨ee3, eq4⟩ := Prod.mk.inj eq3
            obtain ⟨ee4, eq5⟩ := Prod.mk.inj eq4
            obtain ⟨ee5, ee6⟩ := Prod.mk.inj eq5
            subst ee1
            subst ee2
            subst ee3
            subst ee4
            subst ee5
            subst ee6
            exact z_iret F rfl rfl rfl rfl dX11_book_78
          · refine z_aload_n F 1 dX11_book_53 rfl rfl ?_
            refine z_get F 0 11 9 inlX11 rfl rfl (by decide) fl_X11_70 rfl dX11_book_54 ?_
            obtain ⟨r_12, hg, hf⟩ := zb1_some hf
            refine z_callVm (rest := []) F 0 (c_Books_firstFalse (xL X) G a_books a_crowd a_shelves a_books_numbers a_books_left a_books_result a_books_fillings a_books_spare a_books_rowCounts books_size_4 books_numbers_5 r_12 hg) hy_X0_firstFalse ml_X11_214 hd_X0_firstFalse ⟨by omega, by omega⟩ rfl [20, 21] rfl rfl 20 rfl rfl (w_T_book G a_this a_crowd a_queue a_text a_judge a_deeds a_mendings a_picture a_shelves a_books a_thoughts a_heads a_crowd_heights a_queue_who a_text_tape a_text_reader a_text_steps a_text_worked a_judge_known a_shelves_sorts a_shelves_sizes a_shelves_held a_shelves_elements a_shelves_elements_e a_books_numbers a_books_left a_books_result a_books_fillings a_books_spare a_books_rowCounts hasPicture crowd_people crowd_heights queue_length queue_who text_fed text_length text_top text_steps text_worked judge_known shelves_sorts shelves_sizes shelves_elements_e books_size_4 books_numbers_5) [none, none, none, none, none, none, none, none, none, none, none, none, none, none, none, none, none, none, none, none, some 0, some 1] rfl (by decide +kernel) rfl rfl (Nat.le_of_ble_eq_true rfl) dX11_book_57 (fun hz_13 => ?_)
            refine z_goto F 78 dX11_book_60 (by decide) ?_
            have eq1 := Option.some.inj hf
            obtain ⟨ee1, eq2⟩ := Prod.mk.inj eq1
            obtain ⟨ee2, eq3⟩ := Prod.mk.inj eq2
            obtain ⟨ee3, eq4⟩ := Prod.mk.inj eq3
            obtain ⟨ee4, eq5⟩ := Prod.mk.inj eq4
            obtain ⟨ee5, ee6⟩ := Prod.mk.inj eq5
            subst ee1
            subst ee2
            subst ee3
            subst ee4
            subst ee5
            subst ee6
            exact z_iret F rfl rfl rfl rfl dX11_book_78
        · refine z_iload_n F 0 dX11_book_35 rfl rfl ?_
          have eq1 := Option.some.inj hf
          obtain ⟨ee1, eq2⟩ := Prod.mk.inj eq1
          obtain ⟨ee2, eq3⟩ := Prod.mk.inj eq2
          obtain ⟨ee3, eq4⟩ := Prod.mk.inj eq3
          obtain ⟨ee4, eq5⟩ := Prod.mk.inj eq4
          obtain ⟨ee5, ee6⟩ := Prod.mk.inj eq5
          subst ee1
          subst ee2
          subst ee3
          subst ee4
          subst ee5
          subst ee6
          exact z_iret F rfl rfl rfl rfl dX11_book_36
      · refine z_iconst F (-1) dX11_book_20 rfl ?_
        have eq1 := Option.some.inj hf
        obtain ⟨ee1, eq2⟩ := Prod.mk.inj eq1
        obtain ⟨ee2, eq3⟩ := Prod.mk.inj eq2
        obtain ⟨ee3, eq4⟩ := Prod.mk.inj eq3
        obtain ⟨ee4, eq5⟩ := Prod.mk.inj eq4
        obtain ⟨ee5, ee6⟩ := Prod.mk.inj eq5
        subst ee1
        subst ee2
        subst ee3
        subst ee4
        subst ee5
        subst ee6
        exact z_iret F rfl rfl rfl rfl dX11_book_21

abbrev w_T_restored (G : zG) (a_this : Nat) (a_crowd : Nat) (a_queue : Nat) (a_text : Nat) (a_judge : Nat) (a_deeds : Nat) (a_mendings : Nat) (a_picture : Nat) (a_shelves : Nat) (a_books : Nat) (a_thoughts : Nat) (a_heads : Nat) (a_crowd_heights : Nat) (a_queue_who : Nat) (a_shelves_sorts : Nat) (a_shelves_sizes : Nat) (a_shelves_held : Nat) (a_shelves_elements : Nat) (a_shelves_elements_e : Nat → Nat) (a_books_numbers : Nat) (a_books_left : Nat) (a_books_result : Nat) (a_books_fillings : Nat) (a_books_spare : Nat) (a_books_rowCounts : Nat) (a_books_left_who : Nat) (a_books_result_who : Nat) (hasPicture : Int32) (crowd_people : Int32) (crowd_heights : Nat → Int32) (queue_length : Int32) (queue_who : Nat → Int32) (shelves_sorts : Nat → Int32) (shelves_sizes : Nat → Int32) (shelves_elements_e : Nat → (Nat → Int64)) (books_size : Int32) (books_numbers : Nat → Int32) (books_left_length : Int32) (books_left_who : Nat → Int32) (books_result_length : Int32) (books_result_who : Nat → Int32) : va_W := [(a_this, cO 11 [.ref a_crowd, .ref a_queue, .ref a_text, .ref a_judge, .ref a_deeds, .ref a_mendings, .ref a_picture, .int hasPicture, .ref a_shelves, .ref a_books, .ref a_thoughts, .ref a_heads]), (a_crowd, cO 1 [.ref a_crowd_heights, .int crowd_people]), (a_crowd_heights, cI G 9 crowd_heights), (a_queue, cO 7 [.ref a_queue_who, .int queue_length]), (a_queue_who, cI G 9 queue_who), (a_shelves, cO 9 [.ref a_shelves_sorts, .ref a_shelves_sizes, .ref a_shelves_held, .ref a_shelves_elements]), (a_shelves_sorts, cI G 6 shelves_sorts), (a_shelves_sizes, cI G 6 shelves_sizes), (a_shelves_elements, cJJ G 6 (fun j => some (a_shelves_elements_e j))), ((a_shelves_elements_e 0), cJ G 60 (shelves_elements_e 0)), ((a_shelves_elements_e 1), cJ G 60 (shelves_elements_e 1)), ((a_shelves_elements_e 2), cJ G 60 (shelves_elements_e 2)), ((a_shelves_elements_e 3), cJ G 60 (shelves_elements_e 3)), ((a_shelves_elements_e 4), cJ G 60 (shelves_elements_e 4)), ((a_shelves_elements_e 5), cJ G 60 (shelves_elements_e 5)), (a_books, cO 0 [.ref a_crowd, .ref a_shelves, .ref a_books_numbers, .int books_size, .ref a_books_left, .ref a_books_result, .ref a_books_fillings, .ref a_books_spare, .ref a_books_rowCounts]), (a_books_numbers, cI G 9 books_numbers), (a_books_left, cO 7 [.ref a_books_left_who, .int books_left_length]), (a_books_left_who, cI G 9 books_left_who), (a_books_result, cO 7 [.ref a_books_result_who, .int books_result_length]), (a_books_result_who, cI G 9 books_result_who)]
def f_T_restored (crowd_people : Int32) (crowd_heights : Nat → Int32) (queue_length : Int32) (queue_who : Nat → Int32) (shelves_sorts : Nat → Int32) (shelves_sizes : Nat → Int32) (shelves_elements_e : Nat → (Nat → Int64)) (books_size : Int32) (books_numbers : Nat → Int32) (books_left_length : Int32) (books_left_who : Nat → Int32) (books_result_length : Int32) (books_result_who : Nat → Int32) (x1 : Int32) (x2 : Int32) : Option (Int32 × Int32 × (Nat → Int32) × Int32 × (Nat → Int32) × Int32 × (Nat → Int32)) := (if (f_Shelves_isShelf x1) = 0 then (some ((-1), books_size, books_numbers, books_left_length, books_left_who, books_result_length, books_result_who)) else (if (f_Line_isPlace queue_length x2) = 0 then (some ((-1), books_size, books_numbers, books_left_length, books_left_who, books_result_length, books_result_who)) else (zb3 (f_Books_refusalToRestore books_size shelves_sorts shelves_sizes shelves_elements_e books_numbers queue_length x1) fun r_3 books_size_4 books_numbers_5 => (if r_3 = 0 then (zb4 (f_Books_lineRestored books_size_4 crowd_people crowd_heights books_numbers_5 books_left_length books_left_who books_result_length books_result_who queue_length queue_who) fun books_left_length_7 books_left_who_8 books_result_length_9 books_result_who_10 => (zb1 (f_Line_at books_result_length_9 books_result_who_10 x2) fun r_12 => (some (r_12, books_size_4, books_numbers_5, books_left_length_7, books_left_who_8, books_result_length_9, books_result_who_10)))) else (some (r_3, books_size_4, books_numbers_5, books_left_length, books_left_who, books_result_length, books_result_who))))))
set_option maxRecDepth 100000 in
set_option maxHeartbeats 4000000 in
theorem c_T_restored (l : Launch) (G : zG) (a_this : Nat) (a_crowd : Nat) (a_queue : Nat) (a_text : Nat) (a_judge : Nat) (a_deeds : Nat) (a_mendings : Nat) (a_picture : Nat) (a_shelves : Nat) (a_books : Nat) (a_thoughts : Nat) (a_heads : Nat) (a_crowd_heights : Nat) (a_queue_who : Nat) (a_shelves_sorts : Nat) (a_shelves_sizes : Nat) (a_shelves_held : Nat) (a_shelves_elements : Nat) (a_shelves_elements_e : Nat → Nat) (a_books_numbers : Nat) (a_books_left : Nat) (a_books_result : Nat) (a_books_fillings : Nat) (a_books_spare : Nat) (a_books_rowCounts : Nat) (a_books_left_who : Nat) (a_books_result_who : Nat) (hasPicture : Int32) (crowd_people : Int32) (crowd_heights : Nat → Int32) (queue_length : Int32) (queue_who : Nat → Int32) (shelves_sorts : Nat → Int32) (shelves_sizes : Nat → Int32) (shelves_elements_e : Nat → (Nat → Int64)) (books_size : Int32) (books_numbers : Nat → Int32) (books_left_length : Int32) (books_left_who : Nat → Int32) (books_result_length : Int32) (books_result_who : Nat → Int32) (x1 : Int32) (x2 : Int32) (r_ : Int32) (o_books_size : Int32) (o_books_numbers : Nat → Int32) (o_books_left_length : Int32) (o_books_left_who : Nat → Int32) (o_books_result_length : Int32) (o_books_result_who : Nat → Int32) (hf : f_T_restored crowd_people crowd_heights queue_length queue_who shelves_sorts shelves_sizes shelves_elements_e books_size books_numbers books_left_length books_left_who books_result_length books_result_who x1 x2 = some (r_, o_books_size, o_books_numbers, o_books_left_length, o_books_left_who, o_books_result_length, o_books_result_who)) : zM l yX11_restored cX11_restored 4 (some .int) 6 163 G [.ref a_this, .int x1, .int x2] (w_T_restored G a_this a_crowd a_queue a_text a_judge a_deeds a_mendings a_picture a_shelves a_books a_thoughts a_heads a_crowd_heights a_queue_who a_shelves_sorts a_shelves_sizes a_shelves_held a_shelves_elements a_shelves_elements_e a_books_numbers a_books_left a_books_result a_books_fillings a_books_spare a_books_rowCounts a_books_left_who a_books_result_who hasPicture crowd_people crowd_heights queue_length queue_who shelves_sorts shelves_sizes shelves_elements_e books_size books_numbers books_left_length books_left_who books_result_length books_result_who) (some (.int r_)) (w_T_restored G a_this a_crowd a_queue a_text a_judge a_deeds a_mendings a_picture a_shelves a_books a_thoughts a_heads a_crowd_heights a_queue_who a_shelves_sorts a_shelves_sizes a_shelves_held a_shelves_elements a_shelves_elements_e a_books_numbers a_books_left a_books_result a_books_fillings a_books_spare a_books_rowCounts a_books_left_who a_books_result_who hasPicture crowd_people crowd_heights queue_length queue_who shelves_sorts shelves_sizes shelves_elements_e o_books_size o_books_numbers o_books_left_length o_books_left_who o_books_result_length o_books_result_who) := by
  refine zM.of [(0, .ref a_this), (1, .int x1), (2, .int x2)] (own := RX11) rfl (by decide +kernel) (Nat.le_of_ble_eq_true rfl) rfl rfl fun X hX F => ?_
  subst hX
  replace hf := (f_T_restored.eq_1 ..).symm.trans hf
  refine z_aload_n F 0 dX11_restored_0 rfl rfl ?_
  refine z_get F 0 11 8 inlX11 rfl rfl (by decide) fl_X11_61 rfl dX11_restored_1 ?_
  refine z_iload_n F 1 dX11_restored_4 rfl rfl ?_
  refine z_callVm (rest := []) F 9 (c_Shelves_isShelf (xL X) G a_shelves a_shelves_sorts a_shelves_sizes a_shelves_held a_shelves_elements x1 _ rfl) hy_X9_isShelf ml_X11_102 hd_X9_isShelf ⟨by omega, by omega⟩ rfl [5] rfl rfl 5 rfl rfl (w_T_restored G a_this a_crowd a_queue a_text a_judge a_deeds a_mendings a_picture a_shelves a_books a_thoughts a_heads a_crowd_heights a_queue_who a_shelves_sorts a_shelves_sizes a_shelves_held a_shelves_elements a_shelves_elements_e a_books_numbers a_books_left a_books_result a_books_fillings a_books_spare a_books_rowCounts a_books_left_who a_books_result_who hasPicture crowd_people crowd_heights queue_length queue_who shelves_sorts shelves_sizes shelves_elements_e books_size books_numbers books_left_length books_left_who books_result_length books_result_who) [none, none, none, none, none, some 0, none, none, none, none, none, none, none, none, none, none, none, none, none, none, none] rfl (by decide +kernel) rfl rfl (Nat.le_of_ble_eq_true rfl) dX11_restored_5 (fun hz_1 => ?_)
  refine z_if_eq F 22 dX11_restored_8 (by decide) hf (fun hf _ => ?_) (fun hf _ => ?_)
  · refine z_iconst F (-1) dX11_restored_22 rfl ?_
    have eq1 := Option.some.inj hf
    obtain ⟨ee1, eq2⟩ := Prod.mk.inj eq1
    obtain ⟨ee2, eq3⟩ := Prod.mk.inj eq2
    obtain ⟨ee3, eq4⟩ := Prod.mk.inj eq3
    obtain ⟨ee4, eq5⟩ := Prod.mk.inj eq4
    obtain ⟨ee5, eq6⟩ := Prod.mk.inj eq5
    obtain ⟨ee6, ee7⟩ := Prod.mk.inj eq6
    subst ee1
    subst ee2
    subst ee3
    subst ee4
    subst ee5
    subst ee6
    subst ee7
    exact z_iret F rfl rfl rfl rfl dX11_restored_23
  · refine z_aload_n F 0 dX11_restored_11 rfl rfl ?_
    refine z_get F 0 11 1 inlX11 rfl rfl (by decide) fl_X11_19 rfl dX11_restored_12 ?_
    refine z_iload_n F 2 dX11_restored_15 rfl rfl ?_
    refine z_callVm (rest := []) F 7 (c_Line_isPlace (xL X) G a_queue a_queue_who queue_length x2 _ rfl) hy_X7_isPlace ml_X11_140 hd_X7_isPlace ⟨by omega, by omega⟩ rfl [3] rfl rfl 3 rfl rfl (w_T_restored G a_this a_crowd a_queue a_text a_judge a_deeds a_mendings a_picture a_shelves a_books a_thoughts a_heads a_crowd_heights a_queue_who a_shelves_sorts a_shelves_sizes a_shelves_held a_shelves_elements a_shelves_elements_e a_books_numbers a_books_left a_books_result a_books_fillings a_books_spare a_books_rowCounts a_books_left_who a_books_result_who hasPicture crowd_people crowd_heights queue_length queue_who shelves_sorts shelves_sizes shelves_elements_e books_size books_numbers books_left_length books_left_who books_result_length books_result_who) [none, none, none, some 0, none, none, none, none, none, none, none, none, none, none, none, none, none, none, none, none, none] rfl (by decide +kernel) rfl rfl (Nat.le_of_ble_eq_true rfl) dX11_restored_16 (fun hz_2 => ?_)
    refine z_if_ne F 24 dX11_restored_19 (by decide) hf (fun hf _ => ?_) (fun hf _ => ?_)
    · refine z_aload_n F 0 dX11_restored_24 rfl rfl ?_
      refine z_get F 0 11 9 inlX11 rfl rfl (by decide) fl_X11_70 rfl dX11_restored_25 ?_
      refine z_iload_n F 1 dX11_restored_28 rfl rfl ?_
      refine z_aload_n F 0 dX11_restored_29 rfl rfl ?_
      refine z_get F 0 11 1 inlX11 rfl rfl (by decide) fl_X11_19 rfl dX11_restored_30 ?_
      obtain ⟨r_3, books_size_4, books_numbers_5, hg, hf⟩ := zb3_some hf
      refine z_callVm (rest := []) F 0 (c_Books_refusalToRestore (xL X) G a_books a_crowd a_shelves a_books_numbers a_books_left a_books_result a_books_fillings a_books_spare a_books_rowCounts a_shelves_sorts a_shelves_sizes a_shelves_held a_shelves_elements a_shelves_elements_e a_queue a_queue_who books_size shelves_sorts shelves_sizes shelves_elements_e books_numbers queue_length x1 r_3 books_size_4 books_numbers_5 hg) hy_X0_refusalToRestore ml_X11_184 hd_X0_refusalToRestore ⟨by omega, by omega⟩ rfl [15, 5, 6, 7, 8, 9, 10, 11, 12, 13, 14, 16, 3] rfl rfl 15 rfl rfl (w_T_restored G a_this a_crowd a_queue a_text a_judge a_deeds a_mendings a_picture a_shelves a_books a_thoughts a_heads a_crowd_heights a_queue_who a_shelves_sorts a_shelves_sizes a_shelves_held a_shelves_elements a_shelves_elements_e a_books_numbers a_books_left a_books_result a_books_fillings a_books_spare a_books_rowCounts a_books_left_who a_books_result_who hasPicture crowd_people crowd_heights queue_length queue_who shelves_sorts shelves_sizes shelves_elements_e books_size_4 books_numbers_5 books_left_length books_left_who books_result_length books_result_who) [none, none, none, some 12, none, some 1, some 2, some 3, some 4, some 5, some 6, some 7, some 8, some 9, some 10, some 0, some 11, none, none, none, none] rfl (by decide +kernel) rfl rfl (Nat.le_of_ble_eq_true rfl) dX11_restored_33 (fun hz_6 => ?_)
      refine z_istore_n F [(3, .int r_3), (0, .ref a_this), (1, .int x1), (2, .int x2)] dX11_restored_36 rfl (by decide) rfl ?_
      refine z_iload_n F 0 dX11_restored_37 rfl rfl ?_
      refine z_if_eq F 45 dX11_restored_38 (by decide) hf (fun hf _ => ?_) (fun hf _ => ?_)
      · refine z_aload_n F 1 dX11_restored_45 rfl rfl ?_
        refine z_get F 0 11 9 inlX11 rfl rfl (by decide) fl_X11_70 rfl dX11_restored_46 ?_
        refine z_aload_n F 1 dX11_restored_49 rfl rfl ?_
        refine z_get F 0 11 1 inlX11 rfl rfl (by decide) fl_X11_19 rfl dX11_restored_50 ?_
        obtain ⟨books_left_length_7, books_left_who_8, books_result_length_9, books_result_who_10, hg, hf⟩ := zb4_some hf
        refine z_callVm (rest := []) F 0 (c_Books_lineRestored (xL X) G a_books a_crowd a_shelves a_books_numbers a_books_left a_books_result a_books_fillings a_books_spare a_books_rowCounts a_crowd_heights a_books_left_who a_books_result_who a_queue a_queue_who books_size_4 crowd_people crowd_heights books_numbers_5 books_left_length books_left_who books_result_length books_result_who queue_length queue_who books_left_length_7 books_left_who_8 books_result_length_9 books_result_who_10 hg) hy_X0_lineRestored ml_X11_188 hd_X0_lineRestored ⟨by omega, by omega⟩ rfl [15, 1, 2, 16, 17, 18, 19, 20, 3, 4] rfl rfl 15 rfl rfl (w_T_restored G a_this a_crowd a_queue a_text a_judge a_deeds a_mendings a_picture a_shelves a_books a_thoughts a_heads a_crowd_heights a_queue_who a_shelves_sorts a_shelves_sizes a_shelves_held a_shelves_elements a_shelves_elements_e a_books_numbers a_books_left a_books_result a_books_fillings a_books_spare a_books_rowCounts a_books_left_who a_books_result_who hasPicture crowd_people crowd_heights queue_length queue_who shelves_sorts shelves_sizes shelves_elements_e books_size_4 books_numbers_5 books_left_length_7 books_left_who_8 books_result_length_9 books_result_who_10) [none, some 1, some 2, some 8, some 9, none, none, none, none, none, none, none, none, none, none, some 0, some 3, some 4, some 5, some 6, some 7] rfl (by decide +kernel) rfl rfl (Nat.le_of_ble_eq_true rfl) dX11_restored_53 (fun hz_11 => ?_)
        refine z_iload_n F 3 dX11_restored_56 rfl rfl ?_
        obtain ⟨r_12, hg, hf⟩ := zb1_some hf
        refine z_callVm (rest := []) F 7 (c_Line_at (xL X) G a_books_result a_books_result_who books_result_length_9 books_result_who_10 x2 r_12 hg) hy_X7_at ml_X11_202 hd_X7_at ⟨by omega, by omega⟩ rfl [19, 20] rfl rfl 19 rfl rfl (w_T_restored G a_this a_crowd a_queue a_text a_judge a_deeds a_mendings a_picture a_shelves a_books a_thoughts a_heads a_crowd_heights a_queue_who a_shelves_sorts a_shelves_sizes a_shelves_held a_shelves_elements a_shelves_elements_e a_books_numbers a_books_left a_books_result a_books_fillings a_books_spare a_books_rowCounts a_books_left_who a_books_result_who hasPicture crowd_people crowd_heights queue_length queue_who shelves_sorts shelves_sizes shelves_elements_e books_size_4 books_numbers_5 books_left_length_7 books_left_who_8 books_result_length_9 books_result_who_10) [none, none, none, none, none, none, none, none, none, none, none, none, none, none, none, none, none, none, none, some 0, some 1] rfl (by decide +kernel) rfl rfl (Nat.le_of_ble_eq_true rfl) dX11_restored_57 (fun hz_13 => ?_)
        have eq1 := Option.some.inj hf
        obtain ⟨ee1, eq2⟩ := Prod.mk.inj eq1
        obtain ⟨ee2, eq3⟩ := Prod.mk.inj eq2
        obtain ⟨ee3, eq4⟩ := Prod.mk.inj eq3
        obtain ⟨ee4, eq5⟩ := Prod.mk.inj eq4
        obtain ⟨ee5, eq6⟩ := Prod.mk.inj eq5
        obtain ⟨ee6, ee7⟩ := Prod.mk.inj eq6
        subst ee1
        subst ee2
        subst ee3
        subst ee4
        subst ee5
        subst ee6
        subst ee7
        exact z_iret F rfl rfl rfl rfl dX11_restored_60
      · refine z_iload_n F 0 dX11_restored_41 rfl rfl ?_
        refine z_goto F 60 dX11_restored_42 (by decide) ?_
        have eq1 := Option.some.inj hf
        obtain ⟨ee1, eq2⟩ := Prod.mk.inj eq1
        obtain ⟨ee2, eq3⟩ := Prod.mk.inj eq2
        obtain ⟨ee3, eq4⟩ := Prod.mk.inj eq3
        obtain ⟨ee4, eq5⟩ := Prod.mk.inj eq4
        obtain ⟨ee5, eq6⟩ := Prod.mk.inj eq5
        obtain ⟨ee6, ee7⟩ := Prod.mk.inj eq6
        subst ee1
        subst ee2
        subst ee3
        subst ee4
        subst ee5
        subst ee6
        subst ee7
        exact z_iret F rfl rfl rfl rfl dX11_restored_60
    · refine z_iconst F (-1) dX11_restored_22 rfl ?_
      have eq1 := Option.some.inj hf
      obtain ⟨ee1, eq2⟩ := Prod.mk.inj eq1
      obtain ⟨ee2, eq3⟩ := Prod.mk.inj eq2
      obtain ⟨ee3, eq4⟩ := Prod.mk.inj eq3
      obtain ⟨ee4, eq5⟩ := Prod.mk.inj eq4
      obtain ⟨ee5, eq6⟩ := Prod.mk.inj eq5
      obtain ⟨ee6, ee7⟩ := Prod.mk.inj eq6
      subst ee1
      subst ee2
      subst ee3
      subst ee4
      subst ee5
      subst ee6
      subst ee7
      exact z_iret F rfl rfl rfl rfl dX11_restored_23

