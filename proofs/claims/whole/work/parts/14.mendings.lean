/-! by program (wip/whole/gen.py): pure functions and contracts -/
theorem dX8_forgetOldest_0 : decode cX8_forgetOldest 0 = .ok (.aload_n 0, 1) := by decide +kernel
theorem dX8_forgetOldest_1 : decode cX8_forgetOldest 1 = .ok (.getfield 11, 3) := by decide +kernel
theorem dX8_forgetOldest_4 : decode cX8_forgetOldest 4 = .ok (.iconst 1, 1) := by decide +kernel
theorem dX8_forgetOldest_5 : decode cX8_forgetOldest 5 = .ok (.aload_n 0, 1) := by decide +kernel
theorem dX8_forgetOldest_6 : decode cX8_forgetOldest 6 = .ok (.getfield 11, 3) := by decide +kernel
theorem dX8_forgetOldest_9 : decode cX8_forgetOldest 9 = .ok (.iconst 0, 1) := by decide +kernel
theorem dX8_forgetOldest_10 : decode cX8_forgetOldest 10 = .ok (.bipush 39, 2) := by decide +kernel
theorem dX8_forgetOldest_12 : decode cX8_forgetOldest 12 = .ok (.invokestatic 31, 3) := by decide +kernel
theorem dX8_forgetOldest_15 : decode cX8_forgetOldest 15 = .ok (.aload_n 0, 1) := by decide +kernel
theorem dX8_forgetOldest_16 : decode cX8_forgetOldest 16 = .ok (.getfield 15, 3) := by decide +kernel
theorem dX8_forgetOldest_19 : decode cX8_forgetOldest 19 = .ok (.iconst 1, 1) := by decide +kernel
theorem dX8_forgetOldest_20 : decode cX8_forgetOldest 20 = .ok (.aload_n 0, 1) := by decide +kernel
theorem dX8_forgetOldest_21 : decode cX8_forgetOldest 21 = .ok (.getfield 15, 3) := by decide +kernel
theorem dX8_forgetOldest_24 : decode cX8_forgetOldest 24 = .ok (.iconst 0, 1) := by decide +kernel
theorem dX8_forgetOldest_25 : decode cX8_forgetOldest 25 = .ok (.bipush 39, 2) := by decide +kernel
theorem dX8_forgetOldest_27 : decode cX8_forgetOldest 27 = .ok (.invokestatic 31, 3) := by decide +kernel
theorem dX8_forgetOldest_30 : decode cX8_forgetOldest 30 = .ok (.aload_n 0, 1) := by decide +kernel
theorem dX8_forgetOldest_31 : decode cX8_forgetOldest 31 = .ok (.getfield 18, 3) := by decide +kernel
theorem dX8_forgetOldest_34 : decode cX8_forgetOldest 34 = .ok (.iconst 1, 1) := by decide +kernel
theorem dX8_forgetOldest_35 : decode cX8_forgetOldest 35 = .ok (.aload_n 0, 1) := by decide +kernel
theorem dX8_forgetOldest_36 : decode cX8_forgetOldest 36 = .ok (.getfield 18, 3) := by decide +kernel
theorem dX8_forgetOldest_39 : decode cX8_forgetOldest 39 = .ok (.iconst 0, 1) := by decide +kernel
theorem dX8_forgetOldest_40 : decode cX8_forgetOldest 40 = .ok (.bipush 39, 2) := by decide +kernel
theorem dX8_forgetOldest_42 : decode cX8_forgetOldest 42 = .ok (.invokestatic 31, 3) := by decide +kernel
theorem dX8_forgetOldest_45 : decode cX8_forgetOldest 45 = .ok (.aload_n 0, 1) := by decide +kernel
theorem dX8_forgetOldest_46 : decode cX8_forgetOldest 46 = .ok (.dup, 1) := by decide +kernel
theorem dX8_forgetOldest_47 : decode cX8_forgetOldest 47 = .ok (.getfield 21, 3) := by decide +kernel
theorem dX8_forgetOldest_50 : decode cX8_forgetOldest 50 = .ok (.iconst 1, 1) := by decide +kernel
theorem dX8_forgetOldest_51 : decode cX8_forgetOldest 51 = .ok (.isub, 1) := by decide +kernel
theorem dX8_forgetOldest_52 : decode cX8_forgetOldest 52 = .ok (.putfield 21, 3) := by decide +kernel
theorem dX8_forgetOldest_55 : decode cX8_forgetOldest 55 = .ok (.return_, 1) := by decide +kernel
theorem dX8_add_0 : decode cX8_add 0 = .ok (.aload_n 0, 1) := by decide +kernel
theorem dX8_add_1 : decode cX8_add 1 = .ok (.getfield 21, 3) := by decide +kernel
theorem dX8_add_4 : decode cX8_add 4 = .ok (.bipush 40, 2) := by decide +kernel
theorem dX8_add_6 : decode cX8_add 6 = .ok (.if_icmp .ne 7, 3) := by decide +kernel
theorem dX8_add_9 : decode cX8_add 9 = .ok (.aload_n 0, 1) := by decide +kernel
theorem dX8_add_10 : decode cX8_add 10 = .ok (.invokevirtual 28, 3) := by decide +kernel
theorem dX8_add_13 : decode cX8_add 13 = .ok (.aload_n 0, 1) := by decide +kernel
theorem dX8_add_14 : decode cX8_add 14 = .ok (.getfield 11, 3) := by decide +kernel
theorem dX8_add_17 : decode cX8_add 17 = .ok (.aload_n 0, 1) := by decide +kernel
theorem dX8_add_18 : decode cX8_add 18 = .ok (.getfield 21, 3) := by decide +kernel
theorem dX8_add_21 : decode cX8_add 21 = .ok (.iload_n 1, 1) := by decide +kernel
theorem dX8_add_22 : decode cX8_add 22 = .ok (.iastore, 1) := by decide +kernel
theorem dX8_add_23 : decode cX8_add 23 = .ok (.aload_n 0, 1) := by decide +kernel
theorem dX8_add_24 : decode cX8_add 24 = .ok (.getfield 15, 3) := by decide +kernel
theorem dX8_add_27 : decode cX8_add 27 = .ok (.aload_n 0, 1) := by decide +kernel
theorem dX8_add_28 : decode cX8_add 28 = .ok (.getfield 21, 3) := by decide +kernel
theorem dX8_add_31 : decode cX8_add 31 = .ok (.iload_n 2, 1) := by decide +kernel
theorem dX8_add_32 : decode cX8_add 32 = .ok (.iastore, 1) := by decide +kernel
theorem dX8_add_33 : decode cX8_add 33 = .ok (.aload_n 0, 1) := by decide +kernel
theorem dX8_add_34 : decode cX8_add 34 = .ok (.getfield 18, 3) := by decide +kernel
theorem dX8_add_37 : decode cX8_add 37 = .ok (.aload_n 0, 1) := by decide +kernel
theorem dX8_add_38 : decode cX8_add 38 = .ok (.getfield 21, 3) := by decide +kernel
theorem dX8_add_41 : decode cX8_add 41 = .ok (.iload_n 3, 1) := by decide +kernel
theorem dX8_add_42 : decode cX8_add 42 = .ok (.iastore, 1) := by decide +kernel
theorem dX8_add_43 : decode cX8_add 43 = .ok (.aload_n 0, 1) := by decide +kernel
theorem dX8_add_44 : decode cX8_add 44 = .ok (.dup, 1) := by decide +kernel
theorem dX8_add_45 : decode cX8_add 45 = .ok (.getfield 21, 3) := by decide +kernel
theorem dX8_add_48 : decode cX8_add 48 = .ok (.iconst 1, 1) := by decide +kernel
theorem dX8_add_49 : decode cX8_add 49 = .ok (.iadd, 1) := by decide +kernel
theorem dX8_add_50 : decode cX8_add 50 = .ok (.putfield 21, 3) := by decide +kernel
theorem dX8_add_53 : decode cX8_add 53 = .ok (.aload_n 0, 1) := by decide +kernel
theorem dX8_add_54 : decode cX8_add 54 = .ok (.aload_n 0, 1) := by decide +kernel
theorem dX8_add_55 : decode cX8_add 55 = .ok (.getfield 21, 3) := by decide +kernel
theorem dX8_add_58 : decode cX8_add 58 = .ok (.putfield 25, 3) := by decide +kernel
theorem dX8_add_61 : decode cX8_add 61 = .ok (.return_, 1) := by decide +kernel
theorem dX8_undoable_0 : decode cX8_undoable 0 = .ok (.aload_n 0, 1) := by decide +kernel
theorem dX8_undoable_1 : decode cX8_undoable 1 = .ok (.getfield 21, 3) := by decide +kernel
theorem dX8_undoable_4 : decode cX8_undoable 4 = .ok (.ireturn, 1) := by decide +kernel
theorem dX8_personToUndo_0 : decode cX8_personToUndo 0 = .ok (.aload_n 0, 1) := by decide +kernel
theorem dX8_personToUndo_1 : decode cX8_personToUndo 1 = .ok (.getfield 21, 3) := by decide +kernel
theorem dX8_personToUndo_4 : decode cX8_personToUndo 4 = .ok (.ifCond .le 17, 3) := by decide +kernel
theorem dX8_personToUndo_7 : decode cX8_personToUndo 7 = .ok (.aload_n 0, 1) := by decide +kernel
theorem dX8_personToUndo_8 : decode cX8_personToUndo 8 = .ok (.getfield 11, 3) := by decide +kernel
theorem dX8_personToUndo_11 : decode cX8_personToUndo 11 = .ok (.aload_n 0, 1) := by decide +kernel
theorem dX8_personToUndo_12 : decode cX8_personToUndo 12 = .ok (.getfield 21, 3) := by decide +kernel
theorem dX8_personToUndo_15 : decode cX8_personToUndo 15 = .ok (.iconst 1, 1) := by decide +kernel
theorem dX8_personToUndo_16 : decode cX8_personToUndo 16 = .ok (.isub, 1) := by decide +kernel
theorem dX8_personToUndo_17 : decode cX8_personToUndo 17 = .ok (.iaload, 1) := by decide +kernel
theorem dX8_personToUndo_18 : decode cX8_personToUndo 18 = .ok (.goto 5, 3) := by decide +kernel
theorem dX8_personToUndo_21 : decode cX8_personToUndo 21 = .ok (.bipush (-2), 2) := by decide +kernel
theorem dX8_personToUndo_23 : decode cX8_personToUndo 23 = .ok (.ireturn, 1) := by decide +kernel
theorem dX8_heightToUndo_0 : decode cX8_heightToUndo 0 = .ok (.aload_n 0, 1) := by decide +kernel
theorem dX8_heightToUndo_1 : decode cX8_heightToUndo 1 = .ok (.getfield 21, 3) := by decide +kernel
theorem dX8_heightToUndo_4 : decode cX8_heightToUndo 4 = .ok (.ifCond .le 17, 3) := by decide +kernel
theorem dX8_heightToUndo_7 : decode cX8_heightToUndo 7 = .ok (.aload_n 0, 1) := by decide +kernel
theorem dX8_heightToUndo_8 : decode cX8_heightToUndo 8 = .ok (.getfield 15, 3) := by decide +kernel
theorem dX8_heightToUndo_11 : decode cX8_heightToUndo 11 = .ok (.aload_n 0, 1) := by decide +kernel
theorem dX8_heightToUndo_12 : decode cX8_heightToUndo 12 = .ok (.getfield 21, 3) := by decide +kernel
theorem dX8_heightToUndo_15 : decode cX8_heightToUndo 15 = .ok (.iconst 1, 1) := by decide +kernel
theorem dX8_heightToUndo_16 : decode cX8_heightToUndo 16 = .ok (.isub, 1) := by decide +kernel
theorem dX8_heightToUndo_17 : decode cX8_heightToUndo 17 = .ok (.iaload, 1) := by decide +kernel
theorem dX8_heightToUndo_18 : decode cX8_heightToUndo 18 = .ok (.goto 5, 3) := by decide +kernel
theorem dX8_heightToUndo_21 : decode cX8_heightToUndo 21 = .ok (.bipush (-2), 2) := by decide +kernel
theorem dX8_heightToUndo_23 : decode cX8_heightToUndo 23 = .ok (.ireturn, 1) := by decide +kernel
theorem dX8_stepBack_0 : decode cX8_stepBack 0 = .ok (.aload_n 0, 1) := by decide +kernel
theorem dX8_stepBack_1 : decode cX8_stepBack 1 = .ok (.getfield 21, 3) := by decide +kernel
theorem dX8_stepBack_4 : decode cX8_stepBack 4 = .ok (.ifCond .le 13, 3) := by decide +kernel
theorem dX8_stepBack_7 : decode cX8_stepBack 7 = .ok (.aload_n 0, 1) := by decide +kernel
theorem dX8_stepBack_8 : decode cX8_stepBack 8 = .ok (.dup, 1) := by decide +kernel
theorem dX8_stepBack_9 : decode cX8_stepBack 9 = .ok (.getfield 21, 3) := by decide +kernel
theorem dX8_stepBack_12 : decode cX8_stepBack 12 = .ok (.iconst 1, 1) := by decide +kernel
theorem dX8_stepBack_13 : decode cX8_stepBack 13 = .ok (.isub, 1) := by decide +kernel
theorem dX8_stepBack_14 : decode cX8_stepBack 14 = .ok (.putfield 21, 3) := by decide +kernel
theorem dX8_stepBack_17 : decode cX8_stepBack 17 = .ok (.return_, 1) := by decide +kernel
theorem dX8_redoable_0 : decode cX8_redoable 0 = .ok (.aload_n 0, 1) := by decide +kernel
theorem dX8_redoable_1 : decode cX8_redoable 1 = .ok (.getfield 25, 3) := by decide +kernel
theorem dX8_redoable_4 : decode cX8_redoable 4 = .ok (.aload_n 0, 1) := by decide +kernel
theorem dX8_redoable_5 : decode cX8_redoable 5 = .ok (.getfield 21, 3) := by decide +kernel
theorem dX8_redoable_8 : decode cX8_redoable 8 = .ok (.isub, 1) := by decide +kernel
theorem dX8_redoable_9 : decode cX8_redoable 9 = .ok (.ireturn, 1) := by decide +kernel
theorem dX8_personToRedo_0 : decode cX8_personToRedo 0 = .ok (.aload_n 0, 1) := by decide +kernel
theorem dX8_personToRedo_1 : decode cX8_personToRedo 1 = .ok (.getfield 21, 3) := by decide +kernel
theorem dX8_personToRedo_4 : decode cX8_personToRedo 4 = .ok (.aload_n 0, 1) := by decide +kernel
theorem dX8_personToRedo_5 : decode cX8_personToRedo 5 = .ok (.getfield 25, 3) := by decide +kernel
theorem dX8_personToRedo_8 : decode cX8_personToRedo 8 = .ok (.if_icmp .ge 15, 3) := by decide +kernel
theorem dX8_personToRedo_11 : decode cX8_personToRedo 11 = .ok (.aload_n 0, 1) := by decide +kernel
theorem dX8_personToRedo_12 : decode cX8_personToRedo 12 = .ok (.getfield 11, 3) := by decide +kernel
theorem dX8_personToRedo_15 : decode cX8_personToRedo 15 = .ok (.aload_n 0, 1) := by decide +kernel
theorem dX8_personToRedo_16 : decode cX8_personToRedo 16 = .ok (.getfield 21, 3) := by decide +kernel
theorem dX8_personToRedo_19 : decode cX8_personToRedo 19 = .ok (.iaload, 1) := by decide +kernel
theorem dX8_personToRedo_20 : decode cX8_personToRedo 20 = .ok (.goto 5, 3) := by decide +kernel
theorem dX8_personToRedo_23 : decode cX8_personToRedo 23 = .ok (.bipush (-2), 2) := by decide +kernel
theorem dX8_personToRedo_25 : decode cX8_personToRedo 25 = .ok (.ireturn, 1) := by decide +kernel
theorem dX8_heightToRedo_0 : decode cX8_heightToRedo 0 = .ok (.aload_n 0, 1) := by decide +kernel
theorem dX8_heightToRedo_1 : decode cX8_heightToRedo 1 = .ok (.getfield 21, 3) := by decide +kernel
theorem dX8_heightToRedo_4 : decode cX8_heightToRedo 4 = .ok (.aload_n 0, 1) := by decide +kernel
theorem dX8_heightToRedo_5 : decode cX8_heightToRedo 5 = .ok (.getfield 25, 3) := by decide +kernel
theorem dX8_heightToRedo_8 : decode cX8_heightToRedo 8 = .ok (.if_icmp .ge 15, 3) := by decide +kernel
theorem dX8_heightToRedo_11 : decode cX8_heightToRedo 11 = .ok (.aload_n 0, 1) := by decide +kernel
theorem dX8_heightToRedo_12 : decode cX8_heightToRedo 12 = .ok (.getfield 18, 3) := by decide +kernel
theorem dX8_heightToRedo_15 : decode cX8_heightToRedo 15 = .ok (.aload_n 0, 1) := by decide +kernel
theorem dX8_heightToRedo_16 : decode cX8_heightToRedo 16 = .ok (.getfield 21, 3) := by decide +kernel
theorem dX8_heightToRedo_19 : decode cX8_heightToRedo 19 = .ok (.iaload, 1) := by decide +kernel
theorem dX8_heightToRedo_20 : decode cX8_heightToRedo 20 = .ok (.goto 5, 3) := by decide +kernel
theorem dX8_heightToRedo_23 : decode cX8_heightToRedo 23 = .ok (.bipush (-2), 2) := by decide +kernel
theorem dX8_heightToRedo_25 : decode cX8_heightToRedo 25 = .ok (.ireturn, 1) := by decide +kernel
theorem dX8_stepOn_0 : decode cX8_stepOn 0 = .ok (.aload_n 0, 1) := by decide +kernel
theorem dX8_stepOn_1 : decode cX8_stepOn 1 = .ok (.getfield 21, 3) := by decide +kernel
theorem dX8_stepOn_4 : decode cX8_stepOn 4 = .ok (.aload_n 0, 1) := by decide +kernel
theorem dX8_stepOn_5 : decode cX8_stepOn 5 = .ok (.getfield 25, 3) := by decide +kernel
theorem dX8_stepOn_8 : decode cX8_stepOn 8 = .ok (.if_icmp .ge 13, 3) := by decide +kernel
theorem dX8_stepOn_11 : decode cX8_stepOn 11 = .ok (.aload_n 0, 1) := by decide +kernel
theorem dX8_stepOn_12 : decode cX8_stepOn 12 = .ok (.dup, 1) := by decide +kernel
theorem dX8_stepOn_13 : decode cX8_stepOn 13 = .ok (.getfield 21, 3) := by decide +kernel
theorem dX8_stepOn_16 : decode cX8_stepOn 16 = .ok (.iconst 1, 1) := by decide +kernel
theorem dX8_stepOn_17 : decode cX8_stepOn 17 = .ok (.iadd, 1) := by decide +kernel
theorem dX8_stepOn_18 : decode cX8_stepOn 18 = .ok (.putfield 21, 3) := by decide +kernel
theorem dX8_stepOn_21 : decode cX8_stepOn 21 = .ok (.return_, 1) := by decide +kernel
theorem fl_X8_11 : Cond.fieldLink RX8 11 (TX8 0).1 (TX8 0).2.1 (TX8 0).2.2.1 ∈ wsL_law := (uw5 _ (List.mem_of_getElem? (i := 9) rfl))
theorem fl_X8_15 : Cond.fieldLink RX8 15 (TX8 1).1 (TX8 1).2.1 (TX8 1).2.2.1 ∈ wsL_law := (uw5 _ (List.mem_of_getElem? (i := 10) rfl))
theorem fl_X8_18 : Cond.fieldLink RX8 18 (TX8 2).1 (TX8 2).2.1 (TX8 2).2.2.1 ∈ wsL_law := (uw5 _ (List.mem_of_getElem? (i := 11) rfl))
theorem fl_X8_21 : Cond.fieldLink RX8 21 (TX8 3).1 (TX8 3).2.1 (TX8 3).2.2.1 ∈ wsL_law := (uw13 _ (List.mem_of_getElem? (i := 7) rfl))
theorem fl_X8_25 : Cond.fieldLink RX8 25 (TX8 4).1 (TX8 4).2.1 (TX8 4).2.2.1 ∈ wsL_law := (uw13 _ (List.mem_of_getElem? (i := 8) rfl))
theorem hy_X8_forgetOldest : Cond.code yX8_forgetOldest cX8_forgetOldest 1 none ∈ wsL_law ∧ Cond.initialized yX8_forgetOldest.cls ∈ wsL_law ∧ Cond.instanceMethod yX8_forgetOldest ∈ wsL_law ∧ Cond.selects yX8_forgetOldest.cls yX8_forgetOldest yX8_forgetOldest ∈ wsL_law := ⟨(uw13 _ (List.mem_of_getElem? (i := 12) rfl)), (uw2 _ (List.mem_of_getElem? (i := 11) rfl)), (uw13 _ (List.mem_of_getElem? (i := 10) rfl)), (uw13 _ (List.mem_of_getElem? (i := 11) rfl))⟩
theorem hd_X8_forgetOldest : yX8_forgetOldest.cls ≠ "java/lang/invoke/MethodHandle" ∧ yX8_forgetOldest.cls ≠ "java/lang/invoke/VarHandle" ∧ (parseMethodDescriptor yX8_forgetOldest.desc).map (fun d => d.parameters.length) = some 0 := ⟨by decide +kernel, by decide +kernel, by decide +kernel⟩
theorem ml_X8_28 : Cond.methodLink RX8 28 yX8_forgetOldest ∈ wsL_law := (uw13 _ (List.mem_of_getElem? (i := 9) rfl))
abbrev w_Mendings_forgetOldest (G : zG) (a_this : Nat) (a_whose : Nat) (a_before : Nat) (a_after : Nat) (done : Int32) (all_ : Int32) (whose : Nat → Int32) (before : Nat → Int32) (after : Nat → Int32) : va_W := [(a_this, cO 8 [.ref a_whose, .ref a_before, .ref a_after, .int done, .int all_]), (a_whose, cI G 40 whose), (a_before, cI G 40 before), (a_after, cI G 40 after)]
def f_Mendings_forgetOldest (done : Int32) (whose : Nat → Int32) (before : Nat → Int32) (after : Nat → Int32) : Option (Int32 × (Nat → Int32) × (Nat → Int32) × (Nat → Int32)) := (zcp whose whose 40 40 1 0 39 fun whose_1 => (zcp before before 40 40 1 0 39 fun before_2 => (zcp after after 40 40 1 0 39 fun after_3 => (some ((done - (1 : Int32)), whose_1, before_2, after_3)))))
set_option maxRecDepth 100000 in
set_option maxHeartbeats 4000000 in
theorem c_Mendings_forgetOldest (l : Launch) (G : zG) (a_this : Nat) (a_whose : Nat) (a_before : Nat) (a_after : Nat) (done : Int32) (all_ : Int32) (whose : Nat → Int32) (before : Nat → Int32) (after : Nat → Int32) (o_done : Int32) (o_whose : Nat → Int32) (o_before : Nat → Int32) (o_after : Nat → Int32) (hf : f_Mendings_forgetOldest done whose before after = some (o_done, o_whose, o_before, o_after)) : zM l yX8_forgetOldest cX8_forgetOldest 1 none 1 120 G [.ref a_this] (w_Mendings_forgetOldest G a_this a_whose a_before a_after done all_ whose before after) (none) (w_Mendings_forgetOldest G a_this a_whose a_before a_after o_done all_ o_whose o_before o_after) := by
  refine zM.of [(0, .ref a_this)] (own := RX8) rfl (by decide +kernel) (Nat.le_of_ble_eq_true rfl) rfl rfl fun X hX F => ?_
  subst hX
  replace hf := (f_Mendings_forgetOldest.eq_1 ..).symm.trans hf
  refine z_aload_n F 0 dX8_forgetOldest_0 rfl rfl ?_
  refine z_get F 0 8 0 inlX8 rfl rfl (by decide) fl_X8_11 rfl dX8_forgetOldest_1 ?_
  refine z_iconst F (1) dX8_forgetOldest_4 rfl ?_
  refine z_aload_n F 0 dX8_forgetOldest_5 rfl rfl ?_
  refine z_get F 0 8 0 inlX8 rfl rfl (by decide) fl_X8_11 rfl dX8_forgetOldest_6 ?_
  refine z_iconst F (0) dX8_forgetOldest_9 rfl ?_
  refine z_bipush F (39) dX8_forgetOldest_10 rfl ?_
  refine z_cpi F 1 1 (fun whose_1 => (w_Mendings_forgetOldest G a_this a_whose a_before a_after done all_ whose_1 before after)) ⟨(uw13 _ (List.mem_of_getElem? (i := 13) rfl)), (uw13 _ (List.mem_of_getElem? (i := 14) rfl)), (uw13 _ (List.mem_of_getElem? (i := 15) rfl)), (uw13 _ (List.mem_of_getElem? (i := 16) rfl))⟩ rfl rfl hf (fun _ => rfl) (by omega) (Nat.le_of_ble_eq_true rfl) dX8_forgetOldest_12 (fun whose_1 hf => ?_)
  refine z_aload_n F 0 dX8_forgetOldest_15 rfl rfl ?_
  refine z_get F 0 8 1 inlX8 rfl rfl (by decide) fl_X8_15 rfl dX8_forgetOldest_16 ?_
  refine z_iconst F (1) dX8_forgetOldest_19 rfl ?_
  refine z_aload_n F 0 dX8_forgetOldest_20 rfl rfl ?_
  refine z_get F 0 8 1 inlX8 rfl rfl (by decide) fl_X8_15 rfl dX8_forgetOldest_21 ?_
  refine z_iconst F (0) dX8_forgetOldest_24 rfl ?_
  refine z_bipush F (39) dX8_forgetOldest_25 rfl ?_
  refine z_cpi F 2 2 (fun before_2 => (w_Mendings_forgetOldest G a_this a_whose a_before a_after done all_ whose_1 before_2 after)) ⟨(uw13 _ (List.mem_of_getElem? (i := 13) rfl)), (uw13 _ (List.mem_of_getElem? (i := 14) rfl)), (uw13 _ (List.mem_of_getElem? (i := 15) rfl)), (uw13 _ (List.mem_of_getElem? (i := 16) rfl))⟩ rfl rfl hf (fun _ => rfl) (by omega) (Nat.le_of_ble_eq_true rfl) dX8_forgetOldest_27 (fun before_2 hf => ?_)
  refine z_aload_n F 0 dX8_forgetOldest_30 rfl rfl ?_
  refine z_get F 0 8 2 inlX8 rfl rfl (by decide) fl_X8_18 rfl dX8_forgetOldest_31 ?_
  refine z_iconst F (1) dX8_forgetOldest_34 rfl ?_
  refine z_aload_n F 0 dX8_forgetOldest_35 rfl rfl ?_
  refine z_get F 0 8 2 inlX8 rfl rfl (by decide) fl_X8_18 rfl dX8_forgetOldest_36 ?_
  refine z_iconst F (0) dX8_forgetOldest_39 rfl ?_
  refine z_bipush F (39) dX8_forgetOldest_40 rfl ?_
  refine z_cpi F 3 3 (fun after_3 => (w_Mendings_forgetOldest G a_this a_whose a_before a_after done all_ whose_1 before_2 after_3)) ⟨(uw13 _ (List.mem_of_getElem? (i := 13) rfl)), (uw13 _ (List.mem_of_getElem? (i := 14) rfl)), (uw13 _ (List.mem_of_getElem? (i := 15) rfl)), (uw13 _ (List.mem_of_getElem? (i := 16) rfl))⟩ rfl rfl hf (fun _ => rfl) (by omega) (Nat.le_of_ble_eq_true rfl) dX8_forgetOldest_42 (fun after_3 hf => ?_)
  refine z_aload_n F 0 dX8_forgetOldest_45 rfl rfl ?_
  refine z_dup F rfl dX8_forgetOldest_46 ?_
  refine z_get F 0 8 3 inlX8 rfl rfl (by decide) fl_X8_21 rfl dX8_forgetOldest_47 ?_
  refine z_iconst F (1) dX8_forgetOldest_50 rfl ?_
  refine z_isub F dX8_forgetOldest_51 ?_
  refine z_put F 0 8 3 (w_Mendings_forgetOldest G a_this a_whose a_before a_after (done - (1 : Int32)) all_ whose_1 before_2 after_3) inlX8 tyX8 tyX8_ok nmX8 rfl rfl (by decide) fl_X8_21 rfl rfl rfl (Nat.le_of_ble_eq_true rfl) rfl dX8_forgetOldest_52 ?_
  have eq1 := Option.some.inj hf
  obtain ⟨ee1, eq2⟩ := Prod.mk.inj eq1
  obtain ⟨ee2, eq3⟩ := Prod.mk.inj eq2
  obtain ⟨ee3, ee4⟩ := Prod.mk.inj eq3
  subst ee1
  subst ee2
  subst ee3
  subst ee4
  exact z_vret F rfl rfl rfl dX8_forgetOldest_55

abbrev w_Mendings_add (G : zG) (a_this : Nat) (a_whose : Nat) (a_before : Nat) (a_after : Nat) (done : Int32) (all_ : Int32) (whose : Nat → Int32) (before : Nat → Int32) (after : Nat → Int32) : va_W := [(a_this, cO 8 [.ref a_whose, .ref a_before, .ref a_after, .int done, .int all_]), (a_whose, cI G 40 whose), (a_before, cI G 40 before), (a_after, cI G 40 after)]
def f_Mendings_add (done : Int32) (all_ : Int32) (whose : Nat → Int32) (before : Nat → Int32) (after : Nat → Int32) (x1 : Int32) (x2 : Int32) (x3 : Int32) : Option (Int32 × Int32 × (Nat → Int32) × (Nat → Int32) × (Nat → Int32)) := (if done = 40 then (zb4 (f_Mendings_forgetOldest done whose before after) fun done_4 whose_5 before_6 after_7 => (zs whose_5 40 done_4 x1 fun whose_9 => (zs before_6 40 done_4 x2 fun before_10 => (zs after_7 40 done_4 x3 fun after_11 => (some ((done_4 + (1 : Int32)), (done_4 + (1 : Int32)), whose_9, before_10, after_11)))))) else (zs whose 40 done x1 fun whose_1 => (zs before 40 done x2 fun before_2 => (zs after 40 done x3 fun after_3 => (some ((done + (1 : Int32)), (done + (1 : Int32)), whose_1, before_2, after_3))))))
set_option maxRecDepth 100000 in
set_option maxHeartbeats 4000000 in
theorem c_Mendings_add (l : Launch) (G : zG) (a_this : Nat) (a_whose : Nat) (a_before : Nat) (a_after : Nat) (done : Int32) (all_ : Int32) (whose : Nat → Int32) (before : Nat → Int32) (after : Nat → Int32) (x1 : Int32) (x2 : Int32) (x3 : Int32) (o_done : Int32) (o_all_ : Int32) (o_whose : Nat → Int32) (o_before : Nat → Int32) (o_after : Nat → Int32) (hf : f_Mendings_add done all_ whose before after x1 x2 x3 = some (o_done, o_all_, o_whose, o_before, o_after)) : zM l yX8_add cX8_add 4 none 2 140 G [.ref a_this, .int x1, .int x2, .int x3] (w_Mendings_add G a_this a_whose a_before a_after done all_ whose before after) (none) (w_Mendings_add G a_this a_whose a_before a_after o_done o_all_ o_whose o_before o_after) := by
  refine zM.of [(0, .ref a_this), (1, .int x1), (2, .int x2), (3, .int x3)] (own := RX8) rfl (by decide +kernel) (Nat.le_of_ble_eq_true rfl) rfl rfl fun X hX F => ?_
  subst hX
  replace hf := (f_Mendings_add.eq_1 ..).symm.trans hf
  refine z_aload_n F 0 dX8_add_0 rfl rfl ?_
  refine z_get F 0 8 3 inlX8 rfl rfl (by decide) fl_X8_21 rfl dX8_add_1 ?_
  refine z_bipush F (40) dX8_add_4 rfl ?_
  refine z_icmp_ne F 13 dX8_add_6 (by decide) hf (fun hf _ => ?_) (fun hf _ => ?_)
  · refine z_aload_n F 0 dX8_add_13 rfl rfl ?_
    refine z_get F 0 8 0 inlX8 rfl rfl (by decide) fl_X8_11 rfl dX8_add_14 ?_
    refine z_aload_n F 0 dX8_add_17 rfl rfl ?_
    refine z_get F 0 8 3 inlX8 rfl rfl (by decide) fl_X8_21 rfl dX8_add_18 ?_
    refine z_iload_n F 1 dX8_add_21 rfl rfl ?_
    refine z_iast F 1 (fun whose_1 => (w_Mendings_add G a_this a_whose a_before a_after done all_ whose_1 before after)) rfl hf (fun _ => rfl) dX8_add_22 (fun whose_1 hf => ?_)
    refine z_aload_n F 0 dX8_add_23 rfl rfl ?_
    refine z_get F 0 8 1 inlX8 rfl rfl (by decide) fl_X8_15 rfl dX8_add_24 ?_
    refine z_aload_n F 0 dX8_add_27 rfl rfl ?_
    refine z_get F 0 8 3 inlX8 rfl rfl (by decide) fl_X8_21 rfl dX8_add_28 ?_
    refine z_iload_n F 2 dX8_add_31 rfl rfl ?_
    refine z_iast F 2 (fun before_2 => (w_Mendings_add G a_this a_whose a_before a_after done all_ whose_1 before_2 after)) rfl hf (fun _ => rfl) dX8_add_32 (fun before_2 hf => ?_)
    refine z_aload_n F 0 dX8_add_33 rfl rfl ?_
    refine z_get F 0 8 2 inlX8 rfl rfl (by decide) fl_X8_18 rfl dX8_add_34 ?_
    refine z_aload_n F 0 dX8_add_37 rfl rfl ?_
    refine z_get F 0 8 3 inlX8 rfl rfl (by decide) fl_X8_21 rfl dX8_add_38 ?_
    refine z_iload_n F 3 dX8_add_41 rfl rfl ?_
    refine z_iast F 3 (fun after_3 => (w_Mendings_add G a_this a_whose a_before a_after done all_ whose_1 before_2 after_3)) rfl hf (fun _ => rfl) dX8_add_42 (fun after_3 hf => ?_)
    refine z_aload_n F 0 dX8_add_43 rfl rfl ?_
    refine z_dup F rfl dX8_add_44 ?_
    refine z_get F 0 8 3 inlX8 rfl rfl (by decide) fl_X8_21 rfl dX8_add_45 ?_
    refine z_iconst F (1) dX8_add_48 rfl ?_
    refine z_iadd F dX8_add_49 ?_
    refine z_put F 0 8 3 (w_Mendings_add G a_this a_whose a_before a_after (done + (1 : Int32)) all_ whose_1 before_2 after_3) inlX8 tyX8 tyX8_ok nmX8 rfl rfl (by decide) fl_X8_21 rfl rfl rfl (Nat.le_of_ble_eq_true rfl) rfl dX8_add_50 ?_
    refine z_aload_n F 0 dX8_add_53 rfl rfl ?_
    refine z_aload_n F 0 dX8_add_54 rfl rfl ?_
    refine z_get F 0 8 3 inlX8 rfl rfl (by decide) fl_X8_21 rfl dX8_add_55 ?_
    refine z_put F 0 8 4 (w_Mendings_add G a_this a_whose a_before a_after (done + (1 : Int32)) (done + (1 : Int32)) whose_1 before_2 after_3) inlX8 tyX8 tyX8_ok nmX8 rfl rfl (by decide) fl_X8_25 rfl rfl rfl (Nat.le_of_ble_eq_true rfl) rfl dX8_add_58 ?_
    have eq1 := Option.some.inj hf
    obtain ⟨ee1, eq2⟩ := Prod.mk.inj eq1
    obtain ⟨ee2, eq3⟩ := Prod.mk.inj eq2
    obtain ⟨ee3, eq4⟩ := Prod.mk.inj eq3
    obtain ⟨ee4, ee5⟩ := Prod.mk.inj eq4
    subst ee1
    subst ee2
    subst ee3
    subst ee4
    subst ee5
    exact z_vret F rfl rfl rfl dX8_add_61
  · refine z_aload_n F 0 dX8_add_9 rfl rfl ?_
    obtain ⟨done_4, whose_5, before_6, after_7, hg, hf⟩ := zb4_some hf
    refine z_callVm (rest := []) F 8 (c_Mendings_forgetOldest (xL X) G a_this a_whose a_before a_after done all_ whose before after done_4 whose_5 before_6 after_7 hg) hy_X8_forgetOldest ml_X8_28 hd_X8_forgetOldest ⟨by omega, by omega⟩ rfl [0, 1, 2, 3] rfl rfl 0 rfl rfl (w_Mendings_add G a_this a_whose a_before a_after done_4 all_ whose_5 before_6 after_7) [some 0, some 1, some 2, some 3] rfl (by decide +kernel) rfl rfl (Nat.le_of_ble_eq_true rfl) dX8_add_10 (fun hz_8 => ?_)
    refine z_aload_n F 0 dX8_add_13 rfl rfl ?_
    refine z_get F 0 8 0 inlX8 rfl rfl (by decide) fl_X8_11 rfl dX8_add_14 ?_
    refine z_aload_n F 0 dX8_add_17 rfl rfl ?_
    refine z_get F 0 8 3 inlX8 rfl rfl (by decide) fl_X8_21 rfl dX8_add_18 ?_
    refine z_iload_n F 1 dX8_add_21 rfl rfl ?_
    refine z_iast F 1 (fun whose_9 => (w_Mendings_add G a_this a_whose a_before a_after done_4 all_ whose_9 before_6 after_7)) rfl hf (fun _ => rfl) dX8_add_22 (fun whose_9 hf => ?_)
    refine z_aload_n F 0 dX8_add_23 rfl rfl ?_
    refine z_get F 0 8 1 inlX8 rfl rfl (by decide) fl_X8_15 rfl dX8_add_24 ?_
    refine z_aload_n F 0 dX8_add_27 rfl rfl ?_
    refine z_get F 0 8 3 inlX8 rfl rfl (by decide) fl_X8_21 rfl dX8_add_28 ?_
    refine z_iload_n F 2 dX8_add_31 rfl rfl ?_
    refine z_iast F 2 (fun before_10 => (w_Mendings_add G a_this a_whose a_before a_after done_4 all_ whose_9 before_10 after_7)) rfl hf (fun _ => rfl) dX8_add_32 (fun before_10 hf => ?_)
    refine z_aload_n F 0 dX8_add_33 rfl rfl ?_
    refine z_get F 0 8 2 inlX8 rfl rfl (by decide) fl_X8_18 rfl dX8_add_34 ?_
    refine z_aload_n F 0 dX8_add_37 rfl rfl ?_
    refine z_get F 0 8 3 inlX8 rfl rfl (by decide) fl_X8_21 rfl dX8_add_38 ?_
    refine z_iload_n F 3 dX8_add_41 rfl rfl ?_
    refine z_iast F 3 (fun after_11 => (w_Mendings_add G a_this a_whose a_before a_after done_4 all_ whose_9 before_10 after_11)) rfl hf (fun _ => rfl) dX8_add_42 (fun after_11 hf => ?_)
    refine z_aload_n F 0 dX8_add_43 rfl rfl ?_
    refine z_dup F rfl dX8_add_44 ?_
    refine z_get F 0 8 3 inlX8 rfl rfl (by decide) fl_X8_21 rfl dX8_add_45 ?_
    refine z_iconst F (1) dX8_add_48 rfl ?_
    refine z_iadd F dX8_add_49 ?_
    refine z_put F 0 8 3 (w_Mendings_add G a_this a_whose a_before a_after (done_4 + (1 : Int32)) all_ whose_9 before_10 after_11) inlX8 tyX8 tyX8_ok nmX8 rfl rfl (by decide) fl_X8_21 rfl rfl rfl (Nat.le_of_ble_eq_true rfl) rfl dX8_add_50 ?_
    refine z_aload_n F 0 dX8_add_53 rfl rfl ?_
    refine z_aload_n F 0 dX8_add_54 rfl rfl ?_
    refine z_get F 0 8 3 inlX8 rfl rfl (by decide) fl_X8_21 rfl dX8_add_55 ?_
    refine z_put F 0 8 4 (w_Mendings_add G a_this a_whose a_before a_after (done_4 + (1 : Int32)) (done_4 + (1 : Int32)) whose_9 before_10 after_11) inlX8 tyX8 tyX8_ok nmX8 rfl rfl (by decide) fl_X8_25 rfl rfl rfl (Nat.le_of_ble_eq_true rfl) rfl dX8_add_58 ?_
    have eq1 := Option.some.inj hf
    obtain ⟨ee1, eq2⟩ := Prod.mk.inj eq1
    obtain ⟨ee2, eq3⟩ := Prod.mk.inj eq2
    obtain ⟨ee3, eq4⟩ := Prod.mk.inj eq3
    obtain ⟨ee4, ee5⟩ := Prod.mk.inj eq4
    subst ee1
    subst ee2
    subst ee3
    subst ee4
    subst ee5
    exact z_vret F rfl rfl rfl dX8_add_61

abbrev w_Mendings_undoable (G : zG) (a_this : Nat) (a_whose : Nat) (a_before : Nat) (a_after : Nat) (done : Int32) (all_ : Int32) : va_W := [(a_this, cO 8 [.ref a_whose, .ref a_before, .ref a_after, .int done, .int all_])]
def f_Mendings_undoable (done : Int32) : Int32 := done
set_option maxRecDepth 100000 in
set_option maxHeartbeats 4000000 in
theorem c_Mendings_undoable (l : Launch) (G : zG) (a_this : Nat) (a_whose : Nat) (a_before : Nat) (a_after : Nat) (done : Int32) (all_ : Int32) (r_ : Int32) (hf : f_Mendings_undoable done = r_) : zM l yX8_undoable cX8_undoable 1 (some .int) 0 0 G [.ref a_this] (w_Mendings_undoable G a_this a_whose a_before a_after done all_) (some (.int r_)) (w_Mendings_undoable G a_this a_whose a_before a_after done all_) := by
  refine zM.of [(0, .ref a_this)] (own := RX8) rfl (by decide +kernel) (Nat.le_of_ble_eq_true rfl) rfl rfl fun X hX F => ?_
  subst hX
  replace hf := (f_Mendings_undoable.eq_1 ..).symm.trans hf
  refine z_aload_n F 0 dX8_undoable_0 rfl rfl ?_
  refine z_get F 0 8 3 inlX8 rfl rfl (by decide) fl_X8_21 rfl dX8_undoable_1 ?_
  subst hf
  exact z_iret F rfl rfl rfl rfl dX8_undoable_4

abbrev w_Mendings_personToUndo (G : zG) (a_this : Nat) (a_whose : Nat) (a_before : Nat) (a_after : Nat) (done : Int32) (all_ : Int32) (whose : Nat → Int32) : va_W := [(a_this, cO 8 [.ref a_whose, .ref a_before, .ref a_after, .int done, .int all_]), (a_whose, cI G 40 whose)]
def f_Mendings_personToUndo (done : Int32) (whose : Nat → Int32) : Option Int32 := (if done ≤ 0 then (some (-2)) else (zg whose 40 (done - (1 : Int32)) fun v_1 => (some v_1)))
set_option maxRecDepth 100000 in
set_option maxHeartbeats 4000000 in
theorem c_Mendings_personToUndo (l : Launch) (G : zG) (a_this : Nat) (a_whose : Nat) (a_before : Nat) (a_after : Nat) (done : Int32) (all_ : Int32) (whose : Nat → Int32) (r_ : Int32) (hf : f_Mendings_personToUndo done whose = some r_) : zM l yX8_personToUndo cX8_personToUndo 1 (some .int) 0 0 G [.ref a_this] (w_Mendings_personToUndo G a_this a_whose a_before a_after done all_ whose) (some (.int r_)) (w_Mendings_personToUndo G a_this a_whose a_before a_after done all_ whose) := by
  refine zM.of [(0, .ref a_this)] (own := RX8) rfl (by decide +kernel) (Nat.le_of_ble_eq_true rfl) rfl rfl fun X hX F => ?_
  subst hX
  replace hf := (f_Mendings_personToUndo.eq_1 ..).symm.trans hf
  refine z_aload_n F 0 dX8_personToUndo_0 rfl rfl ?_
  refine z_get F 0 8 3 inlX8 rfl rfl (by decide) fl_X8_21 rfl dX8_personToUndo_1 ?_
  refine z_if_le F 21 dX8_personToUndo_4 (by decide) hf (fun hf _ => ?_) (fun hf _ => ?_)
  · refine z_bipush F (-2) dX8_personToUndo_21 rfl ?_
    have ee1 := Option.some.inj hf
    subst ee1
    exact z_iret F rfl rfl rfl rfl dX8_personToUndo_23
  · refine z_aload_n F 0 dX8_personToUndo_7 rfl rfl ?_
    refine z_get F 0 8 0 inlX8 rfl rfl (by decide) fl_X8_11 rfl dX8_personToUndo_8 ?_
    refine z_aload_n F 0 dX8_personToUndo_11 rfl rfl ?_
    refine z_get F 0 8 3 inlX8 rfl rfl (by decide) fl_X8_21 rfl dX8_personToUndo_12 ?_
    refine z_iconst F (1) dX8_personToUndo_15 rfl ?_
    refine z_isub F dX8_personToUndo_16 ?_
    refine z_iald F 1 rfl hf dX8_personToUndo_17 (fun v_1 hf => ?_)
    refine z_goto F 23 dX8_personToUndo_18 (by decide) ?_
    have ee1 := Option.some.inj hf
    subst ee1
    exact z_iret F rfl rfl rfl rfl dX8_personToUndo_23

abbrev w_Mendings_heightToUndo (G : zG) (a_this : Nat) (a_whose : Nat) (a_before : Nat) (a_after : Nat) (done : Int32) (all_ : Int32) (before : Nat → Int32) : va_W := [(a_this, cO 8 [.ref a_whose, .ref a_before, .ref a_after, .int done, .int all_]), (a_before, cI G 40 before)]
def f_Mendings_heightToUndo (done : Int32) (before : Nat → Int32) : Option Int32 := (if done ≤ 0 then (some (-2)) else (zg before 40 (done - (1 : Int32)) fun v_1 => (some v_1)))
set_option maxRecDepth 100000 in
set_option maxHeartbeats 4000000 in
theorem c_Mendings_heightToUndo (l : Launch) (G : zG) (a_this : Nat) (a_whose : Nat) (a_before : Nat) (a_after : Nat) (done : Int32) (all_ : Int32) (before : Nat → Int32) (r_ : Int32) (hf : f_Mendings_heightToUndo done before = some r_) : zM l yX8_heightToUndo cX8_heightToUndo 1 (some .int) 0 0 G [.ref a_this] (w_Mendings_heightToUndo G a_this a_whose a_before a_after done all_ before) (some (.int r_)) (w_Mendings_heightToUndo G a_this a_whose a_before a_after done all_ before) := by
  refine zM.of [(0, .ref a_this)] (own := RX8) rfl (by decide +kernel) (Nat.le_of_ble_eq_true rfl) rfl rfl fun X hX F => ?_
  subst hX
  replace hf := (f_Mendings_heightToUndo.eq_1 ..).symm.trans hf
  refine z_aload_n F 0 dX8_heightToUndo_0 rfl rfl ?_
  refine z_get F 0 8 3 inlX8 rfl rfl (by decide) fl_X8_21 rfl dX8_heightToUndo_1 ?_
  refine z_if_le F 21 dX8_heightToUndo_4 (by decide) hf (fun hf _ => ?_) (fun hf _ => ?_)
  · refine z_bipush F (-2) dX8_heightToUndo_21 rfl ?_
    have ee1 := Option.some.inj hf
    subst ee1
    exact z_iret F rfl rfl rfl rfl dX8_heightToUndo_23
  · refine z_aload_n F 0 dX8_heightToUndo_7 rfl rfl ?_
    refine z_get F 0 8 1 inlX8 rfl rfl (by decide) fl_X8_15 rfl dX8_heightToUndo_8 ?_
    refine z_aload_n F 0 dX8_heightToUndo_11 rfl rfl ?_
    refine z_get F 0 8 3 inlX8 rfl rfl (by decide) fl_X8_21 rfl dX8_heightToUndo_12 ?_
    refine z_iconst F (1) dX8_heightToUndo_15 rfl ?_
    refine z_isub F dX8_heightToUndo_16 ?_
    refine z_iald F 1 rfl hf dX8_heightToUndo_17 (fun v_1 hf => ?_)
    refine z_goto F 23 dX8_heightToUndo_18 (by decide) ?_
    have ee1 := Option.some.inj hf
    subst ee1
    exact z_iret F rfl rfl rfl rfl dX8_heightToUndo_23

abbrev w_Mendings_stepBack (G : zG) (a_this : Nat) (a_whose : Nat) (a_before : Nat) (a_after : Nat) (done : Int32) (all_ : Int32) : va_W := [(a_this, cO 8 [.ref a_whose, .ref a_before, .ref a_after, .int done, .int all_])]
def f_Mendings_stepBack (done : Int32) : Option Int32 := (if done ≤ 0 then (some done) else (some (done - (1 : Int32))))
set_option maxRecDepth 100000 in
set_option maxHeartbeats 4000000 in
theorem c_Mendings_stepBack (l : Launch) (G : zG) (a_this : Nat) (a_whose : Nat) (a_before : Nat) (a_after : Nat) (done : Int32) (all_ : Int32) (o_done : Int32) (hf : f_Mendings_stepBack done = some o_done) : zM l yX8_stepBack cX8_stepBack 1 none 0 0 G [.ref a_this] (w_Mendings_stepBack G a_this a_whose a_before a_after done all_) (none) (w_Mendings_stepBack G a_this a_whose a_before a_after o_done all_) := by
  refine zM.of [(0, .ref a_this)] (own := RX8) rfl (by decide +kernel) (Nat.le_of_ble_eq_true rfl) rfl rfl fun X hX F => ?_
  subst hX
  replace hf := (f_Mendings_stepBack.eq_1 ..).symm.trans hf
  refine z_aload_n F 0 dX8_stepBack_0 rfl rfl ?_
  refine z_get F 0 8 3 inlX8 rfl rfl (by decide) fl_X8_21 rfl dX8_stepBack_1 ?_
  refine z_if_le F 17 dX8_stepBack_4 (by decide) hf (fun hf _ => ?_) (fun hf _ => ?_)
  · have ee1 := Option.some.inj hf
    subst ee1
    exact z_vret F rfl rfl rfl dX8_stepBack_17
  · refine z_aload_n F 0 dX8_stepBack_7 rfl rfl ?_
    refine z_dup F rfl dX8_stepBack_8 ?_
    refine z_get F 0 8 3 inlX8 rfl rfl (by decide) fl_X8_21 rfl dX8_stepBack_9 ?_
    refine z_iconst F (1) dX8_stepBack_12 rfl ?_
    refine z_isub F dX8_stepBack_13 ?_
    refine z_put F 0 8 3 (w_Mendings_stepBack G a_this a_whose a_before a_after (done - (1 : Int32)) all_) inlX8 tyX8 tyX8_ok nmX8 rfl rfl (by decide) fl_X8_21 rfl rfl rfl (Nat.le_of_ble_eq_true rfl) rfl dX8_stepBack_14 ?_
    have ee1 := Option.some.inj hf
    subst ee1
    exact z_vret F rfl rfl rfl dX8_stepBack_17

abbrev w_Mendings_redoable (G : zG) (a_this : Nat) (a_whose : Nat) (a_before : Nat) (a_after : Nat) (done : Int32) (all_ : Int32) : va_W := [(a_this, cO 8 [.ref a_whose, .ref a_before, .ref a_after, .int done, .int all_])]
def f_Mendings_redoable (done : Int32) (all_ : Int32) : Int32 := (all_ - done)
set_option maxRecDepth 100000 in
set_option maxHeartbeats 4000000 in
theorem c_Mendings_redoable (l : Launch) (G : zG) (a_this : Nat) (a_whose : Nat) (a_before : Nat) (a_after : Nat) (done : Int32) (all_ : Int32) (r_ : Int32) (hf : f_Mendings_redoable done all_ = r_) : zM l yX8_redoable cX8_redoable 1 (some .int) 0 0 G [.ref a_this] (w_Mendings_redoable G a_this a_whose a_before a_after done all_) (some (.int r_)) (w_Mendings_redoable G a_this a_whose a_before a_after done all_) := by
  refine zM.of [(0, .ref a_this)] (own := RX8) rfl (by decide +kernel) (Nat.le_of_ble_eq_true rfl) rfl rfl fun X hX F => ?_
  subst hX
  replace hf := (f_Mendings_redoable.eq_1 ..).symm.trans hf
  refine z_aload_n F 0 dX8_redoable_0 rfl rfl ?_
  refine z_get F 0 8 4 inlX8 rfl rfl (by decide) fl_X8_25 rfl dX8_redoable_1 ?_
  refine z_aload_n F 0 dX8_redoable_4 rfl rfl ?_
  refine z_get F 0 8 3 inlX8 rfl rfl (by decide) fl_X8_21 rfl dX8_redoable_5 ?_
  refine z_isub F dX8_redoable_8 ?_
  subst hf
  exact z_iret F rfl rfl rfl rfl dX8_redoable_9

abbrev w_Mendings_personToRedo (G : zG) (a_this : Nat) (a_whose : Nat) (a_before : Nat) (a_after : Nat) (done : Int32) (all_ : Int32) (whose : Nat → Int32) : va_W := [(a_this, cO 8 [.ref a_whose, .ref a_before, .ref a_after, .int done, .int all_]), (a_whose, cI G 40 whose)]
def f_Mendings_personToRedo (done : Int32) (all_ : Int32) (whose : Nat → Int32) : Option Int32 := (if all_ ≤ done then (some (-2)) else (zg whose 40 done fun v_1 => (some v_1)))
set_option maxRecDepth 100000 in
set_option maxHeartbeats 4000000 in
theorem c_Mendings_personToRedo (l : Launch) (G : zG) (a_this : Nat) (a_whose : Nat) (a_before : Nat) (a_after : Nat) (done : Int32) (all_ : Int32) (whose : Nat → Int32) (r_ : Int32) (hf : f_Mendings_personToRedo done all_ whose = some r_) : zM l yX8_personToRedo cX8_personToRedo 1 (some .int) 0 0 G [.ref a_this] (w_Mendings_personToRedo G a_this a_whose a_before a_after done all_ whose) (some (.int r_)) (w_Mendings_personToRedo G a_this a_whose a_before a_after done all_ whose) := by
  refine zM.of [(0, .ref a_this)] (own := RX8) rfl (by decide +kernel) (Nat.le_of_ble_eq_true rfl) rfl rfl fun X hX F => ?_
  subst hX
  replace hf := (f_Mendings_personToRedo.eq_1 ..).symm.trans hf
  refine z_aload_n F 0 dX8_personToRedo_0 rfl rfl ?_
  refine z_get F 0 8 3 inlX8 rfl rfl (by decide) fl_X8_21 rfl dX8_personToRedo_1 ?_
  refine z_aload_n F 0 dX8_personToRedo_4 rfl rfl ?_
  refine z_get F 0 8 4 inlX8 rfl rfl (by decide) fl_X8_25 rfl dX8_personToRedo_5 ?_
  refine z_icmp_ge F 23 dX8_personToRedo_8 (by decide) hf (fun hf _ => ?_) (fun hf _ => ?_)
  · refine z_bipush F (-2) dX8_personToRedo_23 rfl ?_
    have ee1 := Option.some.inj hf
    subst ee1
    exact z_iret F rfl rfl rfl rfl dX8_personToRedo_25
  · refine z_aload_n F 0 dX8_personToRedo_11 rfl rfl ?_
    refine z_get F 0 8 0 inlX8 rfl rfl (by decide) fl_X8_11 rfl dX8_personToRedo_12 ?_
    refine z_aload_n F 0 dX8_personToRedo_15 rfl rfl ?_
    refine z_get F 0 8 3 inlX8 rfl rfl (by decide) fl_X8_21 rfl dX8_personToRedo_16 ?_
    refine z_iald F 1 rfl hf dX8_personToRedo_19 (fun v_1 hf => ?_)
    refine z_goto F 25 dX8_personToRedo_20 (by decide) ?_
    have ee1 := Option.some.inj hf
    subst ee1
    exact z_iret F rfl rfl rfl rfl dX8_personToRedo_25

abbrev w_Mendings_heightToRedo (G : zG) (a_this : Nat) (a_whose : Nat) (a_before : Nat) (a_after : Nat) (done : Int32) (all_ : Int32) (after : Nat → Int32) : va_W := [(a_this, cO 8 [.ref a_whose, .ref a_before, .ref a_after, .int done, .int all_]), (a_after, cI G 40 after)]
def f_Mendings_heightToRedo (done : Int32) (all_ : Int32) (after : Nat → Int32) : Option Int32 := (if all_ ≤ done then (some (-2)) else (zg after 40 done fun v_1 => (some v_1)))
set_option maxRecDepth 100000 in
set_option maxHeartbeats 4000000 in
theorem c_Mendings_heightToRedo (l : Launch) (G : zG) (a_this : Nat) (a_whose : Nat) (a_before : Nat) (a_after : Nat) (done : Int32) (all_ : Int32) (after : Nat → Int32) (r_ : Int32) (hf : f_Mendings_heightToRedo done all_ after = some r_) : zM l yX8_heightToRedo cX8_heightToRedo 1 (some .int) 0 0 G [.ref a_this] (w_Mendings_heightToRedo G a_this a_whose a_before a_after done all_ after) (some (.int r_)) (w_Mendings_heightToRedo G a_this a_whose a_before a_after done all_ after) := by
  refine zM.of [(0, .ref a_this)] (own := RX8) rfl (by decide +kernel) (Nat.le_of_ble_eq_true rfl) rfl rfl fun X hX F => ?_
  subst hX
  replace hf := (f_Mendings_heightToRedo.eq_1 ..).symm.trans hf
  refine z_aload_n F 0 dX8_heightToRedo_0 rfl rfl ?_
  refine z_get F 0 8 3 inlX8 rfl rfl (by decide) fl_X8_21 rfl dX8_heightToRedo_1 ?_
  refine z_aload_n F 0 dX8_heightToRedo_4 rfl rfl ?_
  refine z_get F 0 8 4 inlX8 rfl rfl (by decide) fl_X8_25 rfl dX8_heightToRedo_5 ?_
  refine z_icmp_ge F 23 dX8_heightToRedo_8 (by decide) hf (fun hf _ => ?_) (fun hf _ => ?_)
  · refine z_bipush F (-2) dX8_heightToRedo_23 rfl ?_
    have ee1 := Option.some.inj hf
    subst ee1
    exact z_iret F rfl rfl rfl rfl dX8_heightToRedo_25
  · refine z_aload_n F 0 dX8_heightToRedo_11 rfl rfl ?_
    refine z_get F 0 8 2 inlX8 rfl rfl (by decide) fl_X8_18 rfl dX8_heightToRedo_12 ?_
    refine z_aload_n F 0 dX8_heightToRedo_15 rfl rfl ?_
    refine z_get F 0 8 3 inlX8 rfl rfl (by decide) fl_X8_21 rfl dX8_heightToRedo_16 ?_
    refine z_iald F 1 rfl hf dX8_heightToRedo_19 (fun v_1 hf => ?_)
    refine z_goto F 25 dX8_heightToRedo_20 (by decide) ?_
    have ee1 := Option.some.inj hf
    subst ee1
    exact z_iret F rfl rfl rfl rfl dX8_heightToRedo_25

abbrev w_Mendings_stepOn (G : zG) (a_this : Nat) (a_whose : Nat) (a_before : Nat) (a_after : Nat) (done : Int32) (all_ : Int32) : va_W := [(a_this, cO 8 [.ref a_whose, .ref a_before, .ref a_after, .int done, .int all_])]
def f_Mendings_stepOn (done : Int32) (all_ : Int32) : Option Int32 := (if all_ ≤ done then (some done) else (some (done + (1 : Int32))))
set_option maxRecDepth 100000 in
set_option maxHeartbeats 4000000 in
theorem c_Mendings_stepOn (l : Launch) (G : zG) (a_this : Nat) (a_whose : Nat) (a_before : Nat) (a_after : Nat) (done : Int32) (all_ : Int32) (o_done : Int32) (hf : f_Mendings_stepOn done all_ = some o_done) : zM l yX8_stepOn cX8_stepOn 1 none 0 0 G [.ref a_this] (w_Mendings_stepOn G a_this a_whose a_before a_after done all_) (none) (w_Mendings_stepOn G a_this a_whose a_before a_after o_done all_) := by
  refine zM.of [(0, .ref a_this)] (own := RX8) rfl (by decide +kernel) (Nat.le_of_ble_eq_true rfl) rfl rfl fun X hX F => ?_
  subst hX
  replace hf := (f_Mendings_stepOn.eq_1 ..).symm.trans hf
  refine z_aload_n F 0 dX8_stepOn_0 rfl rfl ?_
  refine z_get F 0 8 3 inlX8 rfl rfl (by decide) fl_X8_21 rfl dX8_stepOn_1 ?_
  refine z_aload_n F 0 dX8_stepOn_4 rfl rfl ?_
  refine z_get F 0 8 4 inlX8 rfl rfl (by decide) fl_X8_25 rfl dX8_stepOn_5 ?_
  refine z_icmp_ge F 21 dX8_stepOn_8 (by decide) hf (fun hf _ => ?_) (fun hf _ => ?_)
  · have ee1 := Option.some.inj hf
    subst ee1
    exact z_vret F rfl rfl rfl dX8_stepOn_21
  · refine z_aload_n F 0 dX8_stepOn_11 rfl rfl ?_
    refine z_dup F rfl dX8_stepOn_12 ?_
    refine z_get F 0 8 3 inlX8 rfl rfl (by decide) fl_X8_21 rfl dX8_stepOn_13 ?_
    refine z_iconst F (1) dX8_stepOn_16 rfl ?_
    refine z_iadd F dX8_stepOn_17 ?_
    refine z_put F 0 8 3 (w_Mendings_stepOn G a_this a_whose a_before a_after (done + (1 : Int32)) all_) inlX8 tyX8 tyX8_ok nmX8 rfl rfl (by decide) fl_X8_21 rfl rfl rfl (Nat.le_of_ble_eq_true rfl) rfl dX8_stepOn_18 ?_
    have ee1 := Option.some.inj hf
    subst ee1
    exact z_vret F rfl rfl rfl dX8_stepOn_21

