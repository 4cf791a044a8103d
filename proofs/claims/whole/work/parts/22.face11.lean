/-! by program (wip/whole/gen.py): pure functions and contracts -/
theorem dX11_taken_0 : decode cX11_taken 0 = .ok (.aload_n 0, 1) := by decide +kernel
theorem dX11_taken_1 : decode cX11_taken 1 = .ok (.getfield 61, 3) := by decide +kernel
theorem dX11_taken_4 : decode cX11_taken 4 = .ok (.iload_n 1, 1) := by decide +kernel
theorem dX11_taken_5 : decode cX11_taken 5 = .ok (.invokevirtual 102, 3) := by decide +kernel
theorem dX11_taken_8 : decode cX11_taken 8 = .ok (.ifCond .eq 10, 3) := by decide +kernel
theorem dX11_taken_11 : decode cX11_taken 11 = .ok (.iload_n 2, 1) := by decide +kernel
theorem dX11_taken_12 : decode cX11_taken 12 = .ok (.invokestatic 356, 3) := by decide +kernel
theorem dX11_taken_15 : decode cX11_taken 15 = .ok (.ifCond .ne 5, 3) := by decide +kernel
theorem dX11_taken_18 : decode cX11_taken 18 = .ok (.iconst (-1), 1) := by decide +kernel
theorem dX11_taken_19 : decode cX11_taken 19 = .ok (.ireturn, 1) := by decide +kernel
theorem dX11_taken_20 : decode cX11_taken 20 = .ok (.aload_n 0, 1) := by decide +kernel
theorem dX11_taken_21 : decode cX11_taken 21 = .ok (.getfield 61, 3) := by decide +kernel
theorem dX11_taken_24 : decode cX11_taken 24 = .ok (.iload_n 1, 1) := by decide +kernel
theorem dX11_taken_25 : decode cX11_taken 25 = .ok (.invokevirtual 339, 3) := by decide +kernel
theorem dX11_taken_28 : decode cX11_taken 28 = .ok (.ifCond .eq 6, 3) := by decide +kernel
theorem dX11_taken_31 : decode cX11_taken 31 = .ok (.bipush (-11), 2) := by decide +kernel
theorem dX11_taken_33 : decode cX11_taken 33 = .ok (.ireturn, 1) := by decide +kernel
theorem dX11_taken_34 : decode cX11_taken 34 = .ok (.aload_n 0, 1) := by decide +kernel
theorem dX11_taken_35 : decode cX11_taken 35 = .ok (.getfield 61, 3) := by decide +kernel
theorem dX11_taken_38 : decode cX11_taken 38 = .ok (.iload_n 1, 1) := by decide +kernel
theorem dX11_taken_39 : decode cX11_taken 39 = .ok (.invokevirtual 342, 3) := by decide +kernel
theorem dX11_taken_42 : decode cX11_taken 42 = .ok (.ifCond .eq 6, 3) := by decide +kernel
theorem dX11_taken_45 : decode cX11_taken 45 = .ok (.bipush (-12), 2) := by decide +kernel
theorem dX11_taken_47 : decode cX11_taken 47 = .ok (.ireturn, 1) := by decide +kernel
theorem dX11_taken_48 : decode cX11_taken 48 = .ok (.aload_n 0, 1) := by decide +kernel
theorem dX11_taken_49 : decode cX11_taken 49 = .ok (.getfield 86, 3) := by decide +kernel
theorem dX11_taken_52 : decode cX11_taken 52 = .ok (.aload_n 0, 1) := by decide +kernel
theorem dX11_taken_53 : decode cX11_taken 53 = .ok (.getfield 61, 3) := by decide +kernel
theorem dX11_taken_56 : decode cX11_taken 56 = .ok (.iload_n 1, 1) := by decide +kernel
theorem dX11_taken_57 : decode cX11_taken 57 = .ok (.invokevirtual 359, 3) := by decide +kernel
theorem dX11_taken_60 : decode cX11_taken 60 = .ok (.invokevirtual 362, 3) := by decide +kernel
theorem dX11_taken_63 : decode cX11_taken 63 = .ok (.istore_n 3, 1) := by decide +kernel
theorem dX11_taken_64 : decode cX11_taken 64 = .ok (.iload_n 3, 1) := by decide +kernel
theorem dX11_taken_65 : decode cX11_taken 65 = .ok (.iload_n 2, 1) := by decide +kernel
theorem dX11_taken_66 : decode cX11_taken 66 = .ok (.invokestatic 365, 3) := by decide +kernel
theorem dX11_taken_69 : decode cX11_taken 69 = .ok (.ifCond .eq 7, 3) := by decide +kernel
theorem dX11_taken_72 : decode cX11_taken 72 = .ok (.iload_n 3, 1) := by decide +kernel
theorem dX11_taken_73 : decode cX11_taken 73 = .ok (.goto 5, 3) := by decide +kernel
theorem dX11_taken_76 : decode cX11_taken 76 = .ok (.bipush (-12), 2) := by decide +kernel
theorem dX11_taken_78 : decode cX11_taken 78 = .ok (.ireturn, 1) := by decide +kernel
theorem dX11_count_0 : decode cX11_count 0 = .ok (.iload_n 1, 1) := by decide +kernel
theorem dX11_count_1 : decode cX11_count 1 = .ok (.tableswitch 99 0 6 #[43, 51, 59, 67, 75, 83, 91], 43) := by decide +kernel
theorem dX11_count_44 : decode cX11_count 44 = .ok (.aload_n 0, 1) := by decide +kernel
theorem dX11_count_45 : decode cX11_count 45 = .ok (.getfield 10, 3) := by decide +kernel
theorem dX11_count_48 : decode cX11_count 48 = .ok (.invokevirtual 368, 3) := by decide +kernel
theorem dX11_count_51 : decode cX11_count 51 = .ok (.ireturn, 1) := by decide +kernel
theorem dX11_count_52 : decode cX11_count 52 = .ok (.aload_n 0, 1) := by decide +kernel
theorem dX11_count_53 : decode cX11_count 53 = .ok (.getfield 19, 3) := by decide +kernel
theorem dX11_count_56 : decode cX11_count 56 = .ok (.invokevirtual 94, 3) := by decide +kernel
theorem dX11_count_59 : decode cX11_count 59 = .ok (.ireturn, 1) := by decide +kernel
theorem dX11_count_60 : decode cX11_count 60 = .ok (.aload_n 0, 1) := by decide +kernel
theorem dX11_count_61 : decode cX11_count 61 = .ok (.getfield 44, 3) := by decide +kernel
theorem dX11_count_64 : decode cX11_count 64 = .ok (.invokevirtual 209, 3) := by decide +kernel
theorem dX11_count_67 : decode cX11_count 67 = .ok (.ireturn, 1) := by decide +kernel
theorem dX11_count_68 : decode cX11_count 68 = .ok (.aload_n 0, 1) := by decide +kernel
theorem dX11_count_69 : decode cX11_count 69 = .ok (.getfield 26, 3) := by decide +kernel
theorem dX11_count_72 : decode cX11_count 72 = .ok (.invokevirtual 369, 3) := by decide +kernel
theorem dX11_count_75 : decode cX11_count 75 = .ok (.ireturn, 1) := by decide +kernel
theorem dX11_count_76 : decode cX11_count 76 = .ok (.aload_n 0, 1) := by decide +kernel
theorem dX11_count_77 : decode cX11_count 77 = .ok (.getfield 51, 3) := by decide +kernel
theorem dX11_count_80 : decode cX11_count 80 = .ok (.invokevirtual 286, 3) := by decide +kernel
theorem dX11_count_83 : decode cX11_count 83 = .ok (.ireturn, 1) := by decide +kernel
theorem dX11_count_84 : decode cX11_count 84 = .ok (.aload_n 0, 1) := by decide +kernel
theorem dX11_count_85 : decode cX11_count 85 = .ok (.getfield 86, 3) := by decide +kernel
theorem dX11_count_88 : decode cX11_count 88 = .ok (.invokevirtual 372, 3) := by decide +kernel
theorem dX11_count_91 : decode cX11_count 91 = .ok (.ireturn, 1) := by decide +kernel
theorem dX11_count_92 : decode cX11_count 92 = .ok (.aload_n 0, 1) := by decide +kernel
theorem dX11_count_93 : decode cX11_count 93 = .ok (.getfield 86, 3) := by decide +kernel
theorem dX11_count_96 : decode cX11_count 96 = .ok (.invokevirtual 373, 3) := by decide +kernel
theorem dX11_count_99 : decode cX11_count 99 = .ok (.ireturn, 1) := by decide +kernel
theorem dX11_count_100 : decode cX11_count 100 = .ok (.iconst (-1), 1) := by decide +kernel
theorem dX11_count_101 : decode cX11_count 101 = .ok (.ireturn, 1) := by decide +kernel
theorem hy_X1_size : Cond.code yX1_size cX1_size 1 (some .int) ∈ wsL_law ∧ Cond.initialized yX1_size.cls ∈ wsL_law ∧ Cond.instanceMethod yX1_size ∈ wsL_law ∧ Cond.selects yX1_size.cls yX1_size yX1_size ∈ wsL_law := ⟨(uw59 _ (List.mem_of_getElem? (i := 6) rfl)), (uw1 _ (List.mem_of_getElem? (i := 15) rfl)), (uw59 _ (List.mem_of_getElem? (i := 4) rfl)), (uw59 _ (List.mem_of_getElem? (i := 5) rfl))⟩
theorem hd_X1_size : yX1_size.cls ≠ "java/lang/invoke/MethodHandle" ∧ yX1_size.cls ≠ "java/lang/invoke/VarHandle" ∧ (parseMethodDescriptor yX1_size.desc).map (fun d => d.parameters.length) = some 0 := ⟨by decide +kernel, by decide +kernel, by decide +kernel⟩
theorem hy_X3_isUnder : Cond.code yX3_isUnder cX3_isUnder 4 (some .boolean) ∈ wsL_law ∧ Cond.initialized yX3_isUnder.cls ∈ wsL_law ∧ Cond.static yX3_isUnder ∈ wsL_law := ⟨(uw58 _ (List.mem_of_getElem? (i := 11) rfl)), (uw3 _ (List.mem_of_getElem? (i := 4) rfl)), (uw58 _ (List.mem_of_getElem? (i := 10) rfl))⟩
theorem hd_X3_isUnder : yX3_isUnder.cls ≠ "java/lang/invoke/MethodHandle" ∧ yX3_isUnder.cls ≠ "java/lang/invoke/VarHandle" ∧ (parseMethodDescriptor yX3_isUnder.desc).map (fun d => d.parameters.length) = some 2 := ⟨by decide +kernel, by decide +kernel, by decide +kernel⟩
theorem hy_X3_kindOf : Cond.code yX3_kindOf cX3_kindOf 2 (some .int) ∈ wsL_law ∧ Cond.initialized yX3_kindOf.cls ∈ wsL_law ∧ Cond.instanceMethod yX3_kindOf ∈ wsL_law ∧ Cond.selects yX3_kindOf.cls yX3_kindOf yX3_kindOf ∈ wsL_law := ⟨(uw58 _ (List.mem_of_getElem? (i := 8) rfl)), (uw3 _ (List.mem_of_getElem? (i := 4) rfl)), (uw58 _ (List.mem_of_getElem? (i := 6) rfl)), (uw58 _ (List.mem_of_getElem? (i := 7) rfl))⟩
theorem hd_X3_kindOf : yX3_kindOf.cls ≠ "java/lang/invoke/MethodHandle" ∧ yX3_kindOf.cls ≠ "java/lang/invoke/VarHandle" ∧ (parseMethodDescriptor yX3_kindOf.desc).map (fun d => d.parameters.length) = some 1 := ⟨by decide +kernel, by decide +kernel, by decide +kernel⟩
theorem hy_X3_ran : Cond.code yX3_ran cX3_ran 1 (some .int) ∈ wsL_law ∧ Cond.initialized yX3_ran.cls ∈ wsL_law ∧ Cond.instanceMethod yX3_ran ∈ wsL_law ∧ Cond.selects yX3_ran.cls yX3_ran yX3_ran ∈ wsL_law := ⟨(uw59 _ (List.mem_of_getElem? (i := 18) rfl)), (uw3 _ (List.mem_of_getElem? (i := 4) rfl)), (uw59 _ (List.mem_of_getElem? (i := 16) rfl)), (uw59 _ (List.mem_of_getElem? (i := 17) rfl))⟩
theorem hd_X3_ran : yX3_ran.cls ≠ "java/lang/invoke/MethodHandle" ∧ yX3_ran.cls ≠ "java/lang/invoke/VarHandle" ∧ (parseMethodDescriptor yX3_ran.desc).map (fun d => d.parameters.length) = some 0 := ⟨by decide +kernel, by decide +kernel, by decide +kernel⟩
theorem hy_X3_size : Cond.code yX3_size cX3_size 1 (some .int) ∈ wsL_law ∧ Cond.initialized yX3_size.cls ∈ wsL_law ∧ Cond.instanceMethod yX3_size ∈ wsL_law ∧ Cond.selects yX3_size.cls yX3_size yX3_size ∈ wsL_law := ⟨(uw59 _ (List.mem_of_getElem? (i := 14) rfl)), (uw3 _ (List.mem_of_getElem? (i := 4) rfl)), (uw59 _ (List.mem_of_getElem? (i := 12) rfl)), (uw59 _ (List.mem_of_getElem? (i := 13) rfl))⟩
theorem hd_X3_size : yX3_size.cls ≠ "java/lang/invoke/MethodHandle" ∧ yX3_size.cls ≠ "java/lang/invoke/VarHandle" ∧ (parseMethodDescriptor yX3_size.desc).map (fun d => d.parameters.length) = some 0 := ⟨by decide +kernel, by decide +kernel, by decide +kernel⟩
theorem hy_X5_bytes : Cond.code yX5_bytes cX5_bytes 1 (some .int) ∈ wsL_law ∧ Cond.initialized yX5_bytes.cls ∈ wsL_law ∧ Cond.instanceMethod yX5_bytes ∈ wsL_law ∧ Cond.selects yX5_bytes.cls yX5_bytes yX5_bytes ∈ wsL_law := ⟨(uw59 _ (List.mem_of_getElem? (i := 10) rfl)), (uw1 _ (List.mem_of_getElem? (i := 23) rfl)), (uw59 _ (List.mem_of_getElem? (i := 8) rfl)), (uw59 _ (List.mem_of_getElem? (i := 9) rfl))⟩
theorem hd_X5_bytes : yX5_bytes.cls ≠ "java/lang/invoke/MethodHandle" ∧ yX5_bytes.cls ≠ "java/lang/invoke/VarHandle" ∧ (parseMethodDescriptor yX5_bytes.desc).map (fun d => d.parameters.length) = some 0 := ⟨by decide +kernel, by decide +kernel, by decide +kernel⟩
theorem hy_X9_headOn : Cond.code yX9_headOn cX9_headOn 2 (some .int) ∈ wsL_law ∧ Cond.initialized yX9_headOn.cls ∈ wsL_law ∧ Cond.instanceMethod yX9_headOn ∈ wsL_law ∧ Cond.selects yX9_headOn.cls yX9_headOn yX9_headOn ∈ wsL_law := ⟨(uw58 _ (List.mem_of_getElem? (i := 4) rfl)), (uw2 _ (List.mem_of_getElem? (i := 16) rfl)), (uw58 _ (List.mem_of_getElem? (i := 2) rfl)), (uw58 _ (List.mem_of_getElem? (i := 3) rfl))⟩
theorem hd_X9_headOn : yX9_headOn.cls ≠ "java/lang/invoke/MethodHandle" ∧ yX9_headOn.cls ≠ "java/lang/invoke/VarHandle" ∧ (parseMethodDescriptor yX9_headOn.desc).map (fun d => d.parameters.length) = some 1 := ⟨by decide +kernel, by decide +kernel, by decide +kernel⟩
theorem ml_X11_356 : Cond.methodLink RX11 356 yX3_isKind ∈ wsL_law := (uw58 _ (List.mem_of_getElem? (i := 0) rfl))
theorem ml_X11_359 : Cond.methodLink RX11 359 yX9_headOn ∈ wsL_law := (uw58 _ (List.mem_of_getElem? (i := 1) rfl))
theorem ml_X11_362 : Cond.methodLink RX11 362 yX3_kindOf ∈ wsL_law := (uw58 _ (List.mem_of_getElem? (i := 5) rfl))
theorem ml_X11_365 : Cond.methodLink RX11 365 yX3_isUnder ∈ wsL_law := (uw58 _ (List.mem_of_getElem? (i := 9) rfl))
theorem ml_X11_368 : Cond.methodLink RX11 368 yX1_size ∈ wsL_law := (uw59 _ (List.mem_of_getElem? (i := 3) rfl))
theorem ml_X11_369 : Cond.methodLink RX11 369 yX5_bytes ∈ wsL_law := (uw59 _ (List.mem_of_getElem? (i := 7) rfl))
theorem ml_X11_372 : Cond.methodLink RX11 372 yX3_size ∈ wsL_law := (uw59 _ (List.mem_of_getElem? (i := 11) rfl))
theorem ml_X11_373 : Cond.methodLink RX11 373 yX3_ran ∈ wsL_law := (uw59 _ (List.mem_of_getElem? (i := 15) rfl))
abbrev w_T_taken (G : zG) (a_this : Nat) (a_crowd : Nat) (a_queue : Nat) (a_text : Nat) (a_judge : Nat) (a_deeds : Nat) (a_mendings : Nat) (a_picture : Nat) (a_shelves : Nat) (a_books : Nat) (a_thoughts : Nat) (a_heads : Nat) (a_shelves_sorts : Nat) (a_shelves_sizes : Nat) (a_shelves_held : Nat) (a_shelves_elements : Nat) (a_heads_kinds : Nat) (a_heads_trace : Nat) (hasPicture : Int32) (shelves_sorts : Nat → Int32) (shelves_held : Nat → Int32) (heads_size : Int32) (heads_ran : Int32) (heads_number : Int32) (heads_ownKind : Int32) (heads_kinds : Nat → Int32) : va_W := [(a_this, cO 11 [.ref a_crowd, .ref a_queue, .ref a_text, .ref a_judge, .ref a_deeds, .ref a_mendings, .ref a_picture, .int hasPicture, .ref a_shelves, .ref a_books, .ref a_thoughts, .ref a_heads]), (a_shelves, cO 9 [.ref a_shelves_sorts, .ref a_shelves_sizes, .ref a_shelves_held, .ref a_shelves_elements]), (a_shelves_sorts, cI G 6 shelves_sorts), (a_shelves_held, cI G 6 shelves_held), (a_heads, cO 3 [.ref a_heads_kinds, .int heads_size, .ref a_heads_trace, .int heads_ran, .int heads_number, .int heads_ownKind]), (a_heads_kinds, cI G 50 heads_kinds)]
def f_T_taken (shelves_sorts : Nat → Int32) (shelves_held : Nat → Int32) (heads_size : Int32) (heads_kinds : Nat → Int32) (x1 : Int32) (x2 : Int32) : Option Int32 := (if (f_Shelves_isShelf x1) = 0 then (some (-1)) else (if (f_Heads_isKind x2) = 0 then (some (-1)) else (zb1 (f_Shelves_isBare shelves_sorts x1) fun r_3 => (if r_3 = 0 then (zb1 (f_Shelves_isRow shelves_sorts x1) fun r_5 => (if r_5 = 0 then (zb1 (f_Shelves_headOn shelves_sorts shelves_held x1) fun r_7 => (zb1 (f_Heads_kindOf heads_size heads_kinds r_7) fun r_9 => (zb1 (f_Heads_isUnder r_9 x2) fun r_11 => (if r_11 = 0 then (some (-12)) else (some r_9))))) else (some (-12)))) else (some (-11))))))
set_option maxRecDepth 100000 in
set_option maxHeartbeats 4000000 in
theorem c_T_taken (l : Launch) (G : zG) (a_this : Nat) (a_crowd : Nat) (a_queue : Nat) (a_text : Nat) (a_judge : Nat) (a_deeds : Nat) (a_mendings : Nat) (a_picture : Nat) (a_shelves : Nat) (a_books : Nat) (a_thoughts : Nat) (a_heads : Nat) (a_shelves_sorts : Nat) (a_shelves_sizes : Nat) (a_shelves_held : Nat) (a_shelves_elements : Nat) (a_heads_kinds : Nat) (a_heads_trace : Nat) (hasPicture : Int32) (shelves_sorts : Nat → Int32) (shelves_held : Nat → Int32) (heads_size : Int32) (heads_ran : Int32) (heads_number : Int32) (heads_ownKind : Int32) (heads_kinds : Nat → Int32) (x1 : Int32) (x2 : Int32) (r_ : Int32) (hf : f_T_taken shelves_sorts shelves_held heads_size heads_kinds x1 x2 = some r_) : zM l yX11_taken cX11_taken 4 (some .int) 3 63 G [.ref a_this, .int x1, .int x2] (w_T_taken G a_this a_crowd a_queue a_text a_judge a_deeds a_mendings a_picture a_shelves a_books a_thoughts a_heads a_shelves_sorts a_shelves_sizes a_shelves_held a_shelves_elements a_heads_kinds a_heads_trace hasPicture shelves_sorts shelves_held heads_size heads_ran heads_number heads_ownKind heads_kinds) (some (.int r_)) (w_T_taken G a_this a_crowd a_queue a_text a_judge a_deeds a_mendings a_picture a_shelves a_books a_thoughts a_heads a_shelves_sorts a_shelves_sizes a_shelves_held a_shelves_elements a_heads_kinds a_heads_trace hasPicture shelves_sorts shelves_held heads_size heads_ran heads_number heads_ownKind heads_kinds) := by
  refine zM.of [(0, .ref a_this), (1, .int x1), (2, .int x2)] (own := RX11) rfl (by decide +kernel) (Nat.le_of_ble_eq_true rfl) rfl rfl fun X hX F => ?_
  subst hX
  replace hf := (f_T_taken.eq_1 ..).symm.trans hf
  refine z_aload_n F 0 dX11_taken_0 rfl rfl ?_
  refine z_get F 0 11 8 inlX11 rfl rfl (by decide) fl_X11_61 rfl dX11_taken_1 ?_
  refine z_iload_n F 1 dX11_taken_4 rfl rfl ?_
  refine z_callVm (rest := []) F 9 (c_Shelves_isShelf (xL X) G a_shelves a_shelves_sorts a_shelves_sizes a_shelves_held a_shelves_elements x1 _ rfl) hy_X9_isShelf ml_X11_102 hd_X9_isShelf ⟨by omega, by omega⟩ rfl [1] rfl rfl 1 rfl rfl (w_T_taken G a_this a_crowd a_queue a_text a_judge a_deeds a_mendings a_picture a_shelves a_books a_thoughts a_heads a_shelves_sorts a_shelves_sizes a_shelves_held a_shelves_elements a_heads_kinds a_heads_trace hasPicture shelves_sorts shelves_held heads_size heads_ran heads_number heads_ownKind heads_kinds) [none, some 0, none, none, none, none] rfl (by decide +kernel) rfl rfl (Nat.le_of_ble_eq_true rfl) dX11_taken_5 (fun hz_1 => ?_)
  refine z_if_eq F 18 dX11_taken_8 (by decide) hf (fun hf _ => ?_) (fun hf _ => ?_)
  · refine z_iconst F (-1) dX11_taken_18 rfl ?_
    have ee1 := Option.some.inj hf
    subst ee1
    exact z_iret F rfl rfl rfl rfl dX11_taken_19
  · refine z_iload_n F 2 dX11_taken_11 rfl rfl ?_
    refine z_callSm (rest := []) F (c_Heads_isKind (xL X) G x2 _ rfl) hy_X3_isKind ml_X11_356 hd_X3_isKind ⟨by omega, by omega⟩ rfl [] rfl rfl (w_T_taken G a_this a_crowd a_queue a_text a_judge a_deeds a_mendings a_picture a_shelves a_books a_thoughts a_heads a_shelves_sorts a_shelves_sizes a_shelves_held a_shelves_elements a_heads_kinds a_heads_trace hasPicture shelves_sorts shelves_held heads_size heads_ran heads_number heads_ownKind heads_kinds) [none, none, none, none, none, none] rfl (by decide +kernel) rfl rfl (Nat.le_of_ble_eq_true rfl) dX11_taken_12 (fun hz_2 => ?_)
    refine z_if_ne F 20 dX11_taken_15 (by decide) hf (fun hf _ => ?_) (fun hf _ => ?_)
    · refine z_aload_n F 0 dX11_taken_20 rfl rfl ?_
      refine z_get F 0 11 8 inlX11 rfl rfl (by decide) fl_X11_61 rfl dX11_taken_21 ?_
      refine z_iload_n F 1 dX11_taken_24 rfl rfl ?_
      obtain ⟨r_3, hg, hf⟩ := zb1_some hf
      refine z_callVm (rest := []) F 9 (c_Shelves_isBare (xL X) G a_shelves a_shelves_sorts a_shelves_sizes a_shelves_held a_shelves_elements shelves_sorts x1 r_3 hg) hy_X9_isBare ml_X11_339 hd_X9_isBare ⟨by omega, by omega⟩ rfl [1, 2] rfl rfl 1 rfl rfl (w_T_taken G a_this a_crowd a_queue a_text a_judge a_deeds a_mendings a_picture a_shelves a_books a_thoughts a_heads a_shelves_sorts a_shelves_sizes a_shelves_held a_shelves_elements a_heads_kinds a_heads_trace hasPicture shelves_sorts shelves_held heads_size heads_ran heads_number heads_ownKind heads_kinds) [none, some 0, some 1, none, none, none] rfl (by decide +kernel) rfl rfl (Nat.le_of_ble_eq_true rfl) dX11_taken_25 (fun hz_4 => ?_)
      refine z_if_eq F 34 dX11_taken_28 (by decide) hf (fun hf _ => ?_) (fun hf _ => ?_)
      · refine z_aload_n F 0 dX11_taken_34 rfl rfl ?_
        refine z_get F 0 11 8 inlX11 rfl rfl (by decide) fl_X11_61 rfl dX11_taken_35 ?_
        refine z_iload_n F 1 dX11_taken_38 rfl rfl ?_
        obtain ⟨r_5, hg, hf⟩ := zb1_some hf
        refine z_callVm (rest := []) F 9 (c_Shelves_isRow (xL X) G a_shelves a_shelves_sorts a_shelves_sizes a_shelves_held a_shelves_elements shelves_sorts x1 r_5 hg) hy_X9_isRow ml_X11_342 hd_X9_isRow ⟨by omega, by omega⟩ rfl [1, 2] rfl rfl 1 rfl rfl (w_T_taken G a_this a_crowd a_queue a_text a_judge a_deeds a_mendings a_picture a_shelves a_books a_thoughts a_heads a_shelves_sorts a_shelves_sizes a_shelves_held a_shelves_elements a_heads_kinds a_heads_trace hasPicture shelves_sorts shelves_held heads_size heads_ran heads_number heads_ownKind heads_kinds) [none, some 0, some 1, none, none, none] rfl (by decide +kernel) rfl rfl (Nat.le_of_ble_eq_true rfl) dX11_taken_39 (fun hz_6 => ?_)
        refine z_if_eq F 48 dX11_taken_42 (by decide) hf (fun hf _ => ?_) (fun hf _ => ?_)
        · refine z_aload_n F 0 dX11_taken_48 rfl rfl ?_
          refine z_get F 0 11 11 inlX11 rfl rfl (by decide) fl_X11_86 rfl dX11_taken_49 ?_
          refine z_aload_n F 0 dX11_taken_52 rfl rfl ?_
          refine z_get F 0 11 8 inlX11 rfl rfl (by decide) fl_X11_61 rfl dX11_taken_53 ?_
          refine z_iload_n F 1 dX11_taken_56 rfl rfl ?_
          obtain ⟨r_7, hg, hf⟩ := zb1_some hf
          refine z_callVm (rest := [.ref a_heads]) F 9 (c_Shelves_headOn (xL X) G a_shelves a_shelves_sorts a_shelves_sizes a_shelves_held a_shelves_elements shelves_sorts shelves_held x1 r_7 hg) hy_X9_headOn ml_X11_359 hd_X9_headOn ⟨by omega, by omega⟩ rfl [1, 2, 3] rfl rfl 1 rfl rfl (w_T_taken G a_this a_crowd a_queue a_text a_judge a_deeds a_mendings a_picture a_shelves a_books a_thoughts a_heads a_shelves_sorts a_shelves_sizes a_shelves_held a_shelves_elements a_heads_kinds a_heads_trace hasPicture shelves_sorts shelves_held heads_size heads_ran heads_number heads_ownKind heads_kinds) [none, some 0, some 1, some 2, none, none] rfl (by decide +kernel) rfl rfl (Nat.le_of_ble_eq_true rfl) dX11_taken_57 (fun hz_8 => ?_)
          obtain ⟨r_9, hg, hf⟩ := zb1_some hf
          refine z_callVm (rest := []) F 3 (c_Heads_kindOf (xL X) G a_heads a_heads_kinds a_heads_trace heads_size heads_ran heads_number heads_ownKind heads_kinds r_7 r_9 hg) hy_X3_kindOf ml_X11_362 hd_X3_kindOf ⟨by omega, by omega⟩ rfl [4, 5] rfl rfl 4 rfl rfl (w_T_taken G a_this a_crowd a_queue a_text a_judge a_deeds a_mendings a_picture a_shelves a_books a_thoughts a_heads a_shelves_sorts a_shelves_sizes a_shelves_held a_shelves_elements a_heads_kinds a_heads_trace hasPicture shelves_sorts shelves_held heads_size heads_ran heads_number heads_ownKind heads_kinds) [none, none, none, none, some 0, some 1] rfl (by decide +kernel) rfl rfl (Nat.le_of_ble_eq_true rfl) dX11_taken_60 (fun hz_10 => ?_)
          refine z_istore_n F [(3, .int r_9), (0, .ref a_this), (1, .int x1), (2, .int x2)] dX11_taken_63 rfl (by decide) rfl ?_
          refine z_iload_n F 0 dX11_taken_64 rfl rfl ?_
          refine z_iload_n F 3 dX11_taken_65 rfl rfl ?_
          obtain ⟨r_11, hg, hf⟩ := zb1_some hf
          refine z_callSm (rest := []) F (c_Heads_isUnder (xL X) G r_9 x2 r_11 hg) hy_X3_isUnder ml_X11_365 hd_X3_isUnder ⟨by omega, by omega⟩ rfl [] rfl rfl (w_T_taken G a_this a_crowd a_queue a_text a_judge a_deeds a_mendings a_picture a_shelves a_books a_thoughts a_heads a_shelves_sorts a_shelves_sizes a_shelves_held a_shelves_elements a_heads_kinds a_heads_trace hasPicture shelves_sorts shelves_held heads_size heads_ran heads_number heads_ownKind heads_kinds) [none, none, none, none, none, none] rfl (by decide +kernel) rfl rfl (Nat.le_of_ble_eq_true rfl) dX11_taken_66 (fun hz_12 => ?_)
          refine z_if_eq F 76 dX11_taken_69 (by decide) hf (fun hf _ => ?_) (fun hf _ => ?_)
          · refine z_bipush F (-12) dX11_taken_76 rfl ?_
            have ee1 := Option.some.inj hf
            subst ee1
            exact z_iret F rfl rfl rfl rfl dX11_taken_78
          · refine z_iload_n F 0 dX11_taken_72 rfl rfl ?_
            refine z_goto F 78 dX11_taken_73 (by decide) ?_
            have ee1 := Option.some.inj hf
            subst ee1
            exact z_iret F rfl rfl rfl rfl dX11_taken_78
        · refine z_bipush F (-12) dX11_taken_45 rfl ?_
          have ee1 := Option.some.inj hf
          subst ee1
          exact z_iret F rfl rfl rfl rfl dX11_taken_47
      · refine z_bipush F (-11) dX11_taken_31 rfl ?_
        have ee1 := Option.some.inj hf
        subst ee1
        exact z_iret F rfl rfl rfl rfl dX11_taken_33
    · refine z_iconst F (-1) dX11_taken_18 rfl ?_
      have ee1 := Option.some.inj hf
      subst ee1
      exact z_iret F rfl rfl rfl rfl dX11_taken_19

abbrev w_T_count (G : zG) (a_this : Nat) (a_crowd : Nat) (a_queue : Nat) (a_text : Nat) (a_judge : Nat) (a_deeds : Nat) (a_mendings : Nat) (a_picture : Nat) (a_shelves : Nat) (a_books : Nat) (a_thoughts : Nat) (a_heads : Nat) (a_crowd_heights : Nat) (a_queue_who : Nat) (a_text_tape : Nat) (a_text_reader : Nat) (a_text_steps : Nat) (a_text_worked : Nat) (a_deeds_kept : Nat) (a_deeds_numbers : Nat) (a_deeds_changes : Nat) (a_deeds_greatest : Nat) (a_mendings_whose : Nat) (a_mendings_before : Nat) (a_mendings_after : Nat) (a_heads_kinds : Nat) (a_heads_trace : Nat) (hasPicture : Int32) (crowd_people : Int32) (queue_length : Int32) (text_fed : Int32) (text_length : Int32) (text_top : Int32) (deeds_first : Int32) (deeds_size : Int32) (mendings_done : Int32) (mendings_all : Int32) (heads_size : Int32) (heads_ran : Int32) (heads_number : Int32) (heads_ownKind : Int32) : va_W := [(a_this, cO 11 [.ref a_crowd, .ref a_queue, .ref a_text, .ref a_judge, .ref a_deeds, .ref a_mendings, .ref a_picture, .int hasPicture, .ref a_shelves, .ref a_books, .ref a_thoughts, .ref a_heads]), (a_crowd, cO 1 [.ref a_crowd_heights, .int crowd_people]), (a_queue, cO 7 [.ref a_queue_who, .int queue_length]), (a_text, cO 5 [.ref a_text_tape, .int text_fed, .ref a_text_reader, .ref a_text_steps, .int text_length, .ref a_text_worked, .int text_top]), (a_deeds, cO 2 [.ref a_judge, .ref a_deeds_kept, .int deeds_first, .int deeds_size, .ref a_deeds_numbers, .ref a_deeds_changes, .ref a_deeds_greatest]), (a_mendings, cO 8 [.ref a_mendings_whose, .ref a_mendings_before, .ref a_mendings_after, .int mendings_done, .int mendings_all]), (a_heads, cO 3 [.ref a_heads_kinds, .int heads_size, .ref a_heads_trace, .int heads_ran, .int heads_number, .int heads_ownKind])]
def f_T_count (crowd_people : Int32) (queue_length : Int32) (text_fed : Int32) (deeds_size : Int32) (mendings_done : Int32) (heads_size : Int32) (heads_ran : Int32) (x1 : Int32) : Int32 := (if x1 = 0 then (f_Crowd_size crowd_people) else (if x1 = 1 then (f_Line_size queue_length) else (if x1 = 2 then (f_Deeds_size deeds_size) else (if x1 = 3 then (f_Law_bytes text_fed) else (if x1 = 4 then (f_Mendings_undoable mendings_done) else (if x1 = 5 then (f_Heads_size heads_size) else (if x1 = 6 then (f_Heads_ran heads_ran) else (-1))))))))
set_option maxRecDepth 100000 in
set_option maxHeartbeats 4000000 in
theorem c_T_count (l : Launch) (G : zG) (a_this : Nat) (a_crowd : Nat) (a_queue : Nat) (a_text : Nat) (a_judge : Nat) (a_deeds : Nat) (a_mendings : Nat) (a_picture : Nat) (a_shelves : Nat) (a_books : Nat) (a_thoughts : Nat) (a_heads : Nat) (a_crowd_heights : Nat) (a_queue_who : Nat) (a_text_tape : Nat) (a_text_reader : Nat) (a_text_steps : Nat) (a_text_worked : Nat) (a_deeds_kept : Nat) (a_deeds_numbers : Nat) (a_deeds_changes : Nat) (a_deeds_greatest : Nat) (a_mendings_whose : Nat) (a_mendings_before : Nat) (a_mendings_after : Nat) (a_heads_kinds : Nat) (a_heads_trace : Nat) (hasPicture : Int32) (crowd_people : Int32) (queue_length : Int32) (text_fed : Int32) (text_length : Int32) (text_top : Int32) (deeds_first : Int32) (deeds_size : Int32) (mendings_done : Int32) (mendings_all : Int32) (heads_size : Int32) (heads_ran : Int32) (heads_number : Int32) (heads_ownKind : Int32) (x1 : Int32) (r_ : Int32) (hf : f_T_count crowd_people queue_length text_fed deeds_size mendings_done heads_size heads_ran x1 = r_) : zM l yX11_count cX11_count 2 (some .int) 1 20 G [.ref a_this, .int x1] (w_T_count G a_this a_crowd a_queue a_text a_judge a_deeds a_mendings a_picture a_shelves a_books a_thoughts a_heads a_crowd_heights a_queue_who a_text_tape a_text_reader a_text_steps a_text_worked a_deeds_kept a_deeds_numbers a_deeds_changes a_deeds_greatest a_mendings_whose a_mendings_before a_mendings_after a_heads_kinds a_heads_trace hasPicture crowd_people queue_length text_fed text_length text_top deeds_first deeds_size mendings_done mendings_all heads_size heads_ran heads_number heads_ownKind) (some (.int r_)) (w_T_count G a_this a_crowd a_queue a_text a_judge a_deeds a_mendings a_picture a_shelves a_books a_thoughts a_heads a_crowd_heights a_queue_who a_text_tape a_text_reader a_text_steps a_text_worked a_deeds_kept a_deeds_numbers a_deeds_changes a_deeds_greatest a_mendings_whose a_mendings_before a_mendings_after a_heads_kinds a_heads_trace hasPicture crowd_people queue_length text_fed text_length text_top deeds_first deeds_size mendings_done mendings_all heads_size heads_ran heads_number heads_ownKind) := by
  refine zM.of [(0, .ref a_this), (1, .int x1)] (own := RX11) rfl (by decide +kernel) (Nat.le_of_ble_eq_true rfl) rfl rfl fun X hX F => ?_
  subst hX
  replace hf := (f_T_count.eq_1 ..).symm.trans hf
  refine z_iload_n F 1 dX11_count_0 rfl rfl ?_
  by_cases hc_1 : x1 = 0
  · replace hf := zif_t hf hc_1
    refine z_tabIn (off := 43) F 44 dX11_count_1 (by rw [hc_1]; decide +kernel) (by rw [hc_1]; decide +kernel) (by rw [hc_1]; decide +kernel) (by decide) ?_
    refine z_aload_n F 0 dX11_count_44 rfl rfl ?_
    refine z_get F 0 11 0 inlX11 rfl rfl (by decide) fl_X11_10 rfl dX11_count_45 ?_
    refine z_callVm (rest := []) F 1 (c_Crowd_size (xL X) G a_crowd a_crowd_heights crowd_people _ rfl) hy_X1_size ml_X11_368 hd_X1_size ⟨by omega, by omega⟩ rfl [1] rfl rfl 1 rfl rfl (w_T_count G a_this a_crowd a_queue a_text a_judge a_deeds a_mendings a_picture a_shelves a_books a_thoughts a_heads a_crowd_heights a_queue_who a_text_tape a_text_reader a_text_steps a_text_worked a_deeds_kept a_deeds_numbers a_deeds_changes a_deeds_greatest a_mendings_whose a_mendings_before a_mendings_after a_heads_kinds a_heads_trace hasPicture crowd_people queue_length text_fed text_length text_top deeds_first deeds_size mendings_done mendings_all heads_size heads_ran heads_number heads_ownKind) [none, some 0, none, none, none, none, none] rfl (by decide +kernel) rfl rfl (Nat.le_of_ble_eq_true rfl) dX11_count_48 (fun hz_2 => ?_)
    subst hf
    exact z_iret F rfl rfl rfl rfl dX11_count_51
  · replace hf := zif_f hf hc_1
    by_cases hc_3 : x1 = 1
    · replace hf := zif_t hf hc_3
      refine z_tabIn (off := 51) F 52 dX11_count_1 (by rw [hc_3]; decide +kernel) (by rw [hc_3]; decide +kernel) (by rw [hc_3]; decide +kernel) (by decide) ?_
      refine z_aload_n F 0 dX11_count_52 rfl rfl ?_
      refine z_get F 0 11 1 inlX11 rfl rfl (by decide) fl_X11_19 rfl dX11_count_53 ?_
      refine z_callVm (rest := []) F 7 (c_Line_size (xL X) G a_queue a_queue_who queue_length _ rfl) hy_X7_size ml_X11_94 hd_X7_size ⟨by omega, by omega⟩ rfl [2] rfl rfl 2 rfl rfl (w_T_count G a_this a_crowd a_queue a_text a_judge a_deeds a_mendings a_picture a_shelves a_books a_thoughts a_heads a_crowd_heights a_queue_who a_text_tape a_text_reader a_text_steps a_text_worked a_deeds_kept a_deeds_numbers a_deeds_changes a_deeds_greatest a_mendings_whose a_mendings_before a_mendings_after a_heads_kinds a_heads_trace hasPicture crowd_people queue_length text_fed text_length text_top deeds_first deeds_size mendings_done mendings_all heads_size heads_ran heads_number heads_ownKind) [none, none, some 0, none, none, none, none] rfl (by decide +kernel) rfl rfl (Nat.le_of_ble_eq_true rfl) dX11_count_56 (fun hz_4 => ?_)
      subst hf
      exact z_iret F rfl rfl rfl rfl dX11_count_59
    · replace hf := zif_f hf hc_3
      by_cases hc_5 : x1 = 2
      · replace hf := zif_t hf hc_5
        refine z_tabIn (off := 59) F 60 dX11_count_1 (by rw [hc_5]; decide +kernel) (by rw [hc_5]; decide +kernel) (by rw [hc_5]; decide +kernel) (by decide) ?_
        refine z_aload_n F 0 dX11_count_60 rfl rfl ?_
        refine z_get F 0 11 4 inlX11 rfl rfl (by decide) fl_X11_44 rfl dX11_count_61 ?_
        refine z_callVm (rest := []) F 2 (c_Deeds_size (xL X) G a_deeds a_judge a_deeds_kept a_deeds_numbers a_deeds_changes a_deeds_greatest deeds_first deeds_size _ rfl) hy_X2_size ml_X11_209 hd_X2_size ⟨by omega, by omega⟩ rfl [4] rfl rfl 4 rfl rfl (w_T_count G a_this a_crowd a_queue a_text a_judge a_deeds a_mendings a_picture a_shelves a_books a_thoughts a_heads a_crowd_heights a_queue_who a_text_tape a_text_reader a_text_steps a_text_worked a_deeds_kept a_deeds_numbers a_deeds_changes a_deeds_greatest a_mendings_whose a_mendings_before a_mendings_after a_heads_kinds a_heads_trace hasPicture crowd_people queue_length text_fed text_length text_top deeds_first deeds_size mendings_done mendings_all heads_size heads_ran heads_number heads_ownKind) [none, none, none, none, some 0, none, none] rfl (by decide +kernel) rfl rfl (Nat.le_of_ble_eq_true rfl) dX11_count_64 (fun hz_6 => ?_)
        subst hf
        exact z_iret F rfl rfl rfl rfl dX11_count_67
      · replace hf := zif_f hf hc_5
        by_cases hc_7 : x1 = 3
        · replace hf := zif_t hf hc_7
          refine z_tabIn (off := 67) F 68 dX11_count_1 (by rw [hc_7]; decide +kernel) (by rw [hc_7]; decide +kernel) (by rw [hc_7]; decide +kernel) (by decide) ?_
          refine z_aload_n F 0 dX11_count_68 rfl rfl ?_
          refine z_get F 0 11 2 inlX11 rfl rfl (by decide) fl_X11_26 rfl dX11_count_69 ?_
          refine z_callVm (rest := []) F 5 (c_Law_bytes (xL X) G a_text a_text_tape a_text_reader a_text_steps a_text_worked text_fed text_length text_top _ rfl) hy_X5_bytes ml_X11_369 hd_X5_bytes ⟨by omega, by omega⟩ rfl [3] rfl rfl 3 rfl rfl (w_T_count G a_this a_crowd a_queue a_text a_judge a_deeds a_mendings a_picture a_shelves a_books a_thoughts a_heads a_crowd_heights a_queue_who a_text_tape a_text_reader a_text_steps a_text_worked a_deeds_kept a_deeds_numbers a_deeds_changes a_deeds_greatest a_mendings_whose a_mendings_before a_mendings_after a_heads_kinds a_heads_trace hasPicture crowd_people queue_length text_fed text_length text_top deeds_first deeds_size mendings_done mendings_all heads_size heads_ran heads_number heads_ownKind) [none, none, none, some 0, none, none, none] rfl (by decide +kernel) rfl rfl (Nat.le_of_ble_eq_true rfl) dX11_count_72 (fun hz_8 => ?_)
          subst hf
          exact z_iret F rfl rfl rfl rfl dX11_count_75
        · replace hf := zif_f hf hc_7
          by_cases hc_9 : x1 = 4
          · replace hf := zif_t hf hc_9
            refine z_tabIn (off := 75) F 76 dX11_count_1 (by rw [hc_9]; decide +kernel) (by rw [hc_9]; decide +kernel) (by rw [hc_9]; decide +kernel) (by decide) ?_
            refine z_aload_n F 0 dX11_count_76 rfl rfl ?_
            refine z_get F 0 11 5 inlX11 rfl rfl (by decide) fl_X11_51 rfl dX11_count_77 ?_
            refine z_callVm (rest := []) F 8 (c_Mendings_undoable (xL X) G a_mendings a_mendings_whose a_mendings_before a_mendings_after mendings_done mendings_all _ rfl) hy_X8_undoable ml_X11_286 hd_X8_undoable ⟨by omega, by omega⟩ rfl [5] rfl rfl 5 rfl rfl (w_T_count G a_this a_crowd a_queue a_text a_judge a_deeds a_mendings a_picture a_shelves a_books a_thoughts a_heads a_crowd_heights a_queue_who a_text_tape a_text_reader a_text_steps a_text_worked a_deeds_kept a_deeds_numbers a_deeds_changes a_deeds_greatest a_mendings_whose a_mendings_before a_mendings_after a_heads_kinds a_heads_trace hasPicture crowd_people queue_length text_fed text_length text_top deeds_first deeds_size mendings_done mendings_all heads_size heads_ran heads_number heads_ownKind) [none, none, none, none, none, some 0, none] rfl (by decide +kernel) rfl rfl (Nat.le_of_ble_eq_true rfl) dX11_count_80 (fun hz_10 => ?_)
            subst hf
            exact z_iret F rfl rfl rfl rfl dX11_count_83
          · replace hf := zif_f hf hc_9
            by_cases hc_11 : x1 = 5
            · replace hf := zif_t hf hc_11
              refine z_tabIn (off := 83) F 84 dX11_count_1 (by rw [hc_11]; decide +kernel) (by rw [hc_11]; decide +kernel) (by rw [hc_11]; decide +kernel) (by decide) ?_
              refine z_aload_n F 0 dX11_count_84 rfl rfl ?_
              refine z_get F 0 11 11 inlX11 rfl rfl (by decide) fl_X11_86 rfl dX11_count_85 ?_
              refine z_callVm (rest := []) F 3 (c_Heads_size (xL X) G a_heads a_heads_kinds a_heads_trace heads_size heads_ran heads_number heads_ownKind _ rfl) hy_X3_size ml_X11_372 hd_X3_size ⟨by omega, by omega⟩ rfl [6] rfl rfl 6 rfl rfl (w_T_count G a_this a_crowd a_queue a_text a_judge a_deeds a_mendings a_picture a_shelves a_books a_thoughts a_heads a_crowd_heights a_queue_who a_text_tape a_text_reader a_text_steps a_text_worked a_deeds_kept a_deeds_numbers a_deeds_changes a_deeds_greatest a_mendings_whose a_mendings_before a_mendings_after a_heads_kinds a_heads_trace hasPicture crowd_people queue_length text_fed text_length text_top deeds_first deeds_size mendings_done mendings_all heads_size heads_ran heads_number heads_ownKind) [none, none, none, none, none, none, some 0] rfl (by decide +kernel) rfl rfl (Nat.le_of_ble_eq_true rfl) dX11_count_88 (fun hz_12 => ?_)
              subst hf
              exact z_iret F rfl rfl rfl rfl dX11_count_91
            · replace hf := zif_f hf hc_11
              by_cases hc_13 : x1 = 6
              · replace hf := zif_t hf hc_13
                refine z_tabIn (off := 91) F 92 dX11_count_1 (by rw [hc_13]; decide +kernel) (by rw [hc_13]; decide +kernel) (by rw [hc_13]; decide +kernel) (by decide) ?_
                refine z_aload_n F 0 dX11_count_92 rfl rfl ?_
                refine z_get F 0 11 11 inlX11 rfl rfl (by decide) fl_X11_86 rfl dX11_count_93 ?_
                refine z_callVm (rest := []) F 3 (c_Heads_ran (xL X) G a_heads a_heads_kinds a_heads_trace heads_size heads_ran heads_number heads_ownKind _ rfl) hy_X3_ran ml_X11_373 hd_X3_ran ⟨by omega, by omega⟩ rfl [6] rfl rfl 6 rfl rfl (w_T_count G a_this a_crowd a_queue a_text a_judge a_deeds a_mendings a_picture a_shelves a_books a_thoughts a_heads a_crowd_heights a_queue_who a_text_tape a_text_reader a_text_steps a_text_worked a_deeds_kept a_deeds_numbers a_deeds_changes a_deeds_greatest a_mendings_whose a_mendings_before a_mendings_after a_heads_kinds a_heads_trace hasPicture crowd_people queue_length text_fed text_length text_top deeds_first deeds_size mendings_done mendings_all heads_size heads_ran heads_number heads_ownKind) [none, none, none, none, none, none, some 0] rfl (by decide +kernel) rfl rfl (Nat.le_of_ble_eq_true rfl) dX11_count_96 (fun hz_14 => ?_)
                subst hf
                exact z_iret F rfl rfl rfl rfl dX11_count_99
              · replace hf := zif_f hf hc_13
                refine z_tabOut F 100 dX11_count_1 (by have := zne hc_1 (c := 0) (k := 0) rfl; have := zne hc_3 (c := 1) (k := 1) rfl; have := zne hc_5 (c := 2) (k := 2) rfl; have := zne hc_7 (c := 3) (k := 3) rfl; have := zne hc_9 (c := 4) (k := 4) rfl; have := zne hc_11 (c := 5) (k := 5) rfl; have := zne hc_13 (c := 6) (k := 6) rfl; omega) (by decide) ?_
                refine z_iconst F (-1) dX11_count_100 rfl ?_
                subst hf
                exact z_iret F rfl rfl rfl rfl dX11_count_101

