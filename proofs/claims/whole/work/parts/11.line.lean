/-! by program (wip/whole/gen.py): pure functions and contracts -/
theorem dX7_size_0 : decode cX7_size 0 = .ok (.aload_n 0, 1) := by decide +kernel
theorem dX7_size_1 : decode cX7_size 1 = .ok (.getfield 15, 3) := by decide +kernel
theorem dX7_size_4 : decode cX7_size 4 = .ok (.ireturn, 1) := by decide +kernel
theorem dX7_insert_0 : decode cX7_insert 0 = .ok (.iload_n 2, 1) := by decide +kernel
theorem dX7_insert_1 : decode cX7_insert 1 = .ok (.ifCond .lt 20, 3) := by decide +kernel
theorem dX7_insert_4 : decode cX7_insert 4 = .ok (.iload_n 2, 1) := by decide +kernel
theorem dX7_insert_5 : decode cX7_insert 5 = .ok (.aload_n 0, 1) := by decide +kernel
theorem dX7_insert_6 : decode cX7_insert 6 = .ok (.getfield 15, 3) := by decide +kernel
theorem dX7_insert_9 : decode cX7_insert 9 = .ok (.if_icmp .gt 12, 3) := by decide +kernel
theorem dX7_insert_12 : decode cX7_insert 12 = .ok (.aload_n 0, 1) := by decide +kernel
theorem dX7_insert_13 : decode cX7_insert 13 = .ok (.getfield 15, 3) := by decide +kernel
theorem dX7_insert_16 : decode cX7_insert 16 = .ok (.bipush 9, 2) := by decide +kernel
theorem dX7_insert_18 : decode cX7_insert 18 = .ok (.if_icmp .lt 4, 3) := by decide +kernel
theorem dX7_insert_21 : decode cX7_insert 21 = .ok (.return_, 1) := by decide +kernel
theorem dX7_insert_22 : decode cX7_insert 22 = .ok (.aload_n 0, 1) := by decide +kernel
theorem dX7_insert_23 : decode cX7_insert 23 = .ok (.getfield 15, 3) := by decide +kernel
theorem dX7_insert_26 : decode cX7_insert 26 = .ok (.istore_n 3, 1) := by decide +kernel
theorem dX7_insert_27 : decode cX7_insert 27 = .ok (.iload_n 3, 1) := by decide +kernel
theorem dX7_insert_28 : decode cX7_insert 28 = .ok (.iload_n 2, 1) := by decide +kernel
theorem dX7_insert_29 : decode cX7_insert 29 = .ok (.if_icmp .le 23, 3) := by decide +kernel
theorem dX7_insert_32 : decode cX7_insert 32 = .ok (.aload_n 0, 1) := by decide +kernel
theorem dX7_insert_33 : decode cX7_insert 33 = .ok (.getfield 9, 3) := by decide +kernel
theorem dX7_insert_36 : decode cX7_insert 36 = .ok (.iload_n 3, 1) := by decide +kernel
theorem dX7_insert_37 : decode cX7_insert 37 = .ok (.aload_n 0, 1) := by decide +kernel
theorem dX7_insert_38 : decode cX7_insert 38 = .ok (.getfield 9, 3) := by decide +kernel
theorem dX7_insert_41 : decode cX7_insert 41 = .ok (.iload_n 3, 1) := by decide +kernel
theorem dX7_insert_42 : decode cX7_insert 42 = .ok (.iconst 1, 1) := by decide +kernel
theorem dX7_insert_43 : decode cX7_insert 43 = .ok (.isub, 1) := by decide +kernel
theorem dX7_insert_44 : decode cX7_insert 44 = .ok (.iaload, 1) := by decide +kernel
theorem dX7_insert_45 : decode cX7_insert 45 = .ok (.iastore, 1) := by decide +kernel
theorem dX7_insert_46 : decode cX7_insert 46 = .ok (.iinc 3 (-1), 3) := by decide +kernel
theorem dX7_insert_49 : decode cX7_insert 49 = .ok (.goto (-22), 3) := by decide +kernel
theorem dX7_insert_52 : decode cX7_insert 52 = .ok (.aload_n 0, 1) := by decide +kernel
theorem dX7_insert_53 : decode cX7_insert 53 = .ok (.getfield 9, 3) := by decide +kernel
theorem dX7_insert_56 : decode cX7_insert 56 = .ok (.iload_n 2, 1) := by decide +kernel
theorem dX7_insert_57 : decode cX7_insert 57 = .ok (.iload_n 1, 1) := by decide +kernel
theorem dX7_insert_58 : decode cX7_insert 58 = .ok (.iastore, 1) := by decide +kernel
theorem dX7_insert_59 : decode cX7_insert 59 = .ok (.aload_n 0, 1) := by decide +kernel
theorem dX7_insert_60 : decode cX7_insert 60 = .ok (.dup, 1) := by decide +kernel
theorem dX7_insert_61 : decode cX7_insert 61 = .ok (.getfield 15, 3) := by decide +kernel
theorem dX7_insert_64 : decode cX7_insert 64 = .ok (.iconst 1, 1) := by decide +kernel
theorem dX7_insert_65 : decode cX7_insert 65 = .ok (.iadd, 1) := by decide +kernel
theorem dX7_insert_66 : decode cX7_insert 66 = .ok (.putfield 15, 3) := by decide +kernel
theorem dX7_insert_69 : decode cX7_insert 69 = .ok (.return_, 1) := by decide +kernel
theorem dX7_placeOf_0 : decode cX7_placeOf 0 = .ok (.iconst 0, 1) := by decide +kernel
theorem dX7_placeOf_1 : decode cX7_placeOf 1 = .ok (.istore_n 2, 1) := by decide +kernel
theorem dX7_placeOf_2 : decode cX7_placeOf 2 = .ok (.iload_n 2, 1) := by decide +kernel
theorem dX7_placeOf_3 : decode cX7_placeOf 3 = .ok (.aload_n 0, 1) := by decide +kernel
theorem dX7_placeOf_4 : decode cX7_placeOf 4 = .ok (.getfield 15, 3) := by decide +kernel
theorem dX7_placeOf_7 : decode cX7_placeOf 7 = .ok (.if_icmp .ge 21, 3) := by decide +kernel
theorem dX7_placeOf_10 : decode cX7_placeOf 10 = .ok (.aload_n 0, 1) := by decide +kernel
theorem dX7_placeOf_11 : decode cX7_placeOf 11 = .ok (.getfield 9, 3) := by decide +kernel
theorem dX7_placeOf_14 : decode cX7_placeOf 14 = .ok (.iload_n 2, 1) := by decide +kernel
theorem dX7_placeOf_15 : decode cX7_placeOf 15 = .ok (.iaload, 1) := by decide +kernel
theorem dX7_placeOf_16 : decode cX7_placeOf 16 = .ok (.iload_n 1, 1) := by decide +kernel
theorem dX7_placeOf_17 : decode cX7_placeOf 17 = .ok (.if_icmp .ne 5, 3) := by decide +kernel
theorem dX7_placeOf_20 : decode cX7_placeOf 20 = .ok (.iload_n 2, 1) := by decide +kernel
theorem dX7_placeOf_21 : decode cX7_placeOf 21 = .ok (.ireturn, 1) := by decide +kernel
theorem dX7_placeOf_22 : decode cX7_placeOf 22 = .ok (.iinc 2 1, 3) := by decide +kernel
theorem dX7_placeOf_25 : decode cX7_placeOf 25 = .ok (.goto (-23), 3) := by decide +kernel
theorem dX7_placeOf_28 : decode cX7_placeOf 28 = .ok (.bipush (-2), 2) := by decide +kernel
theorem dX7_placeOf_30 : decode cX7_placeOf 30 = .ok (.ireturn, 1) := by decide +kernel
theorem dX7_isPlace_0 : decode cX7_isPlace 0 = .ok (.iload_n 1, 1) := by decide +kernel
theorem dX7_isPlace_1 : decode cX7_isPlace 1 = .ok (.ifCond .lt 15, 3) := by decide +kernel
theorem dX7_isPlace_4 : decode cX7_isPlace 4 = .ok (.iload_n 1, 1) := by decide +kernel
theorem dX7_isPlace_5 : decode cX7_isPlace 5 = .ok (.aload_n 0, 1) := by decide +kernel
theorem dX7_isPlace_6 : decode cX7_isPlace 6 = .ok (.getfield 15, 3) := by decide +kernel
theorem dX7_isPlace_9 : decode cX7_isPlace 9 = .ok (.if_icmp .ge 7, 3) := by decide +kernel
theorem dX7_isPlace_12 : decode cX7_isPlace 12 = .ok (.iconst 1, 1) := by decide +kernel
theorem dX7_isPlace_13 : decode cX7_isPlace 13 = .ok (.goto 4, 3) := by decide +kernel
theorem dX7_isPlace_16 : decode cX7_isPlace 16 = .ok (.iconst 0, 1) := by decide +kernel
theorem dX7_isPlace_17 : decode cX7_isPlace 17 = .ok (.ireturn, 1) := by decide +kernel
theorem dX7_at_0 : decode cX7_at 0 = .ok (.aload_n 0, 1) := by decide +kernel
theorem dX7_at_1 : decode cX7_at 1 = .ok (.iload_n 1, 1) := by decide +kernel
theorem dX7_at_2 : decode cX7_at 2 = .ok (.invokevirtual 19, 3) := by decide +kernel
theorem dX7_at_5 : decode cX7_at 5 = .ok (.ifCond .eq 12, 3) := by decide +kernel
theorem dX7_at_8 : decode cX7_at 8 = .ok (.aload_n 0, 1) := by decide +kernel
theorem dX7_at_9 : decode cX7_at 9 = .ok (.getfield 9, 3) := by decide +kernel
theorem dX7_at_12 : decode cX7_at 12 = .ok (.iload_n 1, 1) := by decide +kernel
theorem dX7_at_13 : decode cX7_at 13 = .ok (.iaload, 1) := by decide +kernel
theorem dX7_at_14 : decode cX7_at 14 = .ok (.goto 5, 3) := by decide +kernel
theorem dX7_at_17 : decode cX7_at 17 = .ok (.bipush (-2), 2) := by decide +kernel
theorem dX7_at_19 : decode cX7_at 19 = .ok (.ireturn, 1) := by decide +kernel
theorem dX7_copyFrom_0 : decode cX7_copyFrom 0 = .ok (.aload_n 1, 1) := by decide +kernel
theorem dX7_copyFrom_1 : decode cX7_copyFrom 1 = .ok (.getfield 9, 3) := by decide +kernel
theorem dX7_copyFrom_4 : decode cX7_copyFrom 4 = .ok (.iconst 0, 1) := by decide +kernel
theorem dX7_copyFrom_5 : decode cX7_copyFrom 5 = .ok (.aload_n 0, 1) := by decide +kernel
theorem dX7_copyFrom_6 : decode cX7_copyFrom 6 = .ok (.getfield 9, 3) := by decide +kernel
theorem dX7_copyFrom_9 : decode cX7_copyFrom 9 = .ok (.iconst 0, 1) := by decide +kernel
theorem dX7_copyFrom_10 : decode cX7_copyFrom 10 = .ok (.bipush 9, 2) := by decide +kernel
theorem dX7_copyFrom_12 : decode cX7_copyFrom 12 = .ok (.invokestatic 23, 3) := by decide +kernel
theorem dX7_copyFrom_15 : decode cX7_copyFrom 15 = .ok (.aload_n 0, 1) := by decide +kernel
theorem dX7_copyFrom_16 : decode cX7_copyFrom 16 = .ok (.aload_n 1, 1) := by decide +kernel
theorem dX7_copyFrom_17 : decode cX7_copyFrom 17 = .ok (.getfield 15, 3) := by decide +kernel
theorem dX7_copyFrom_20 : decode cX7_copyFrom 20 = .ok (.putfield 15, 3) := by decide +kernel
theorem dX7_copyFrom_23 : decode cX7_copyFrom 23 = .ok (.return_, 1) := by decide +kernel
theorem dX7_exchange_0 : decode cX7_exchange 0 = .ok (.aload_n 0, 1) := by decide +kernel
theorem dX7_exchange_1 : decode cX7_exchange 1 = .ok (.iload_n 1, 1) := by decide +kernel
theorem dX7_exchange_2 : decode cX7_exchange 2 = .ok (.invokevirtual 19, 3) := by decide +kernel
theorem dX7_exchange_5 : decode cX7_exchange 5 = .ok (.ifCond .eq 37, 3) := by decide +kernel
theorem dX7_exchange_8 : decode cX7_exchange 8 = .ok (.aload_n 0, 1) := by decide +kernel
theorem dX7_exchange_9 : decode cX7_exchange 9 = .ok (.iload_n 2, 1) := by decide +kernel
theorem dX7_exchange_10 : decode cX7_exchange 10 = .ok (.invokevirtual 19, 3) := by decide +kernel
theorem dX7_exchange_13 : decode cX7_exchange 13 = .ok (.ifCond .eq 29, 3) := by decide +kernel
theorem dX7_exchange_16 : decode cX7_exchange 16 = .ok (.aload_n 0, 1) := by decide +kernel
theorem dX7_exchange_17 : decode cX7_exchange 17 = .ok (.getfield 9, 3) := by decide +kernel
theorem dX7_exchange_20 : decode cX7_exchange 20 = .ok (.iload_n 1, 1) := by decide +kernel
theorem dX7_exchange_21 : decode cX7_exchange 21 = .ok (.iaload, 1) := by decide +kernel
theorem dX7_exchange_22 : decode cX7_exchange 22 = .ok (.istore_n 3, 1) := by decide +kernel
theorem dX7_exchange_23 : decode cX7_exchange 23 = .ok (.aload_n 0, 1) := by decide +kernel
theorem dX7_exchange_24 : decode cX7_exchange 24 = .ok (.getfield 9, 3) := by decide +kernel
theorem dX7_exchange_27 : decode cX7_exchange 27 = .ok (.iload_n 1, 1) := by decide +kernel
theorem dX7_exchange_28 : decode cX7_exchange 28 = .ok (.aload_n 0, 1) := by decide +kernel
theorem dX7_exchange_29 : decode cX7_exchange 29 = .ok (.getfield 9, 3) := by decide +kernel
theorem dX7_exchange_32 : decode cX7_exchange 32 = .ok (.iload_n 2, 1) := by decide +kernel
theorem dX7_exchange_33 : decode cX7_exchange 33 = .ok (.iaload, 1) := by decide +kernel
theorem dX7_exchange_34 : decode cX7_exchange 34 = .ok (.iastore, 1) := by decide +kernel
theorem dX7_exchange_35 : decode cX7_exchange 35 = .ok (.aload_n 0, 1) := by decide +kernel
theorem dX7_exchange_36 : decode cX7_exchange 36 = .ok (.getfield 9, 3) := by decide +kernel
theorem dX7_exchange_39 : decode cX7_exchange 39 = .ok (.iload_n 2, 1) := by decide +kernel
theorem dX7_exchange_40 : decode cX7_exchange 40 = .ok (.iload_n 3, 1) := by decide +kernel
theorem dX7_exchange_41 : decode cX7_exchange 41 = .ok (.iastore, 1) := by decide +kernel
theorem dX7_exchange_42 : decode cX7_exchange 42 = .ok (.return_, 1) := by decide +kernel
theorem dX7_removeAt_0 : decode cX7_removeAt 0 = .ok (.aload_n 0, 1) := by decide +kernel
theorem dX7_removeAt_1 : decode cX7_removeAt 1 = .ok (.iload_n 1, 1) := by decide +kernel
theorem dX7_removeAt_2 : decode cX7_removeAt 2 = .ok (.invokevirtual 19, 3) := by decide +kernel
theorem dX7_removeAt_5 : decode cX7_removeAt 5 = .ok (.ifCond .ne 6, 3) := by decide +kernel
theorem dX7_removeAt_8 : decode cX7_removeAt 8 = .ok (.bipush (-2), 2) := by decide +kernel
theorem dX7_removeAt_10 : decode cX7_removeAt 10 = .ok (.ireturn, 1) := by decide +kernel
theorem dX7_removeAt_11 : decode cX7_removeAt 11 = .ok (.aload_n 0, 1) := by decide +kernel
theorem dX7_removeAt_12 : decode cX7_removeAt 12 = .ok (.getfield 9, 3) := by decide +kernel
theorem dX7_removeAt_15 : decode cX7_removeAt 15 = .ok (.iload_n 1, 1) := by decide +kernel
theorem dX7_removeAt_16 : decode cX7_removeAt 16 = .ok (.iaload, 1) := by decide +kernel
theorem dX7_removeAt_17 : decode cX7_removeAt 17 = .ok (.istore_n 2, 1) := by decide +kernel
theorem dX7_removeAt_18 : decode cX7_removeAt 18 = .ok (.iload_n 1, 1) := by decide +kernel
theorem dX7_removeAt_19 : decode cX7_removeAt 19 = .ok (.istore_n 3, 1) := by decide +kernel
theorem dX7_removeAt_20 : decode cX7_removeAt 20 = .ok (.iload_n 3, 1) := by decide +kernel
theorem dX7_removeAt_21 : decode cX7_removeAt 21 = .ok (.aload_n 0, 1) := by decide +kernel
theorem dX7_removeAt_22 : decode cX7_removeAt 22 = .ok (.getfield 15, 3) := by decide +kernel
theorem dX7_removeAt_25 : decode cX7_removeAt 25 = .ok (.iconst 1, 1) := by decide +kernel
theorem dX7_removeAt_26 : decode cX7_removeAt 26 = .ok (.isub, 1) := by decide +kernel
theorem dX7_removeAt_27 : decode cX7_removeAt 27 = .ok (.if_icmp .ge 23, 3) := by decide +kernel
theorem dX7_removeAt_30 : decode cX7_removeAt 30 = .ok (.aload_n 0, 1) := by decide +kernel
theorem dX7_removeAt_31 : decode cX7_removeAt 31 = .ok (.getfield 9, 3) := by decide +kernel
theorem dX7_removeAt_34 : decode cX7_removeAt 34 = .ok (.iload_n 3, 1) := by decide +kernel
theorem dX7_removeAt_35 : decode cX7_removeAt 35 = .ok (.aload_n 0, 1) := by decide +kernel
theorem dX7_removeAt_36 : decode cX7_removeAt 36 = .ok (.getfield 9, 3) := by decide +kernel
theorem dX7_removeAt_39 : decode cX7_removeAt 39 = .ok (.iload_n 3, 1) := by decide +kernel
theorem dX7_removeAt_40 : decode cX7_removeAt 40 = .ok (.iconst 1, 1) := by decide +kernel
theorem dX7_removeAt_41 : decode cX7_removeAt 41 = .ok (.iadd, 1) := by decide +kernel
theorem dX7_removeAt_42 : decode cX7_removeAt 42 = .ok (.iaload, 1) := by decide +kernel
theorem dX7_removeAt_43 : decode cX7_removeAt 43 = .ok (.iastore, 1) := by decide +kernel
theorem dX7_removeAt_44 : decode cX7_removeAt 44 = .ok (.iinc 3 1, 3) := by decide +kernel
theorem dX7_removeAt_47 : decode cX7_removeAt 47 = .ok (.goto (-27), 3) := by decide +kernel
theorem dX7_removeAt_50 : decode cX7_removeAt 50 = .ok (.aload_n 0, 1) := by decide +kernel
theorem dX7_removeAt_51 : decode cX7_removeAt 51 = .ok (.dup, 1) := by decide +kernel
theorem dX7_removeAt_52 : decode cX7_removeAt 52 = .ok (.getfield 15, 3) := by decide +kernel
theorem dX7_removeAt_55 : decode cX7_removeAt 55 = .ok (.iconst 1, 1) := by decide +kernel
theorem dX7_removeAt_56 : decode cX7_removeAt 56 = .ok (.isub, 1) := by decide +kernel
theorem dX7_removeAt_57 : decode cX7_removeAt 57 = .ok (.putfield 15, 3) := by decide +kernel
theorem dX7_removeAt_60 : decode cX7_removeAt 60 = .ok (.iload_n 2, 1) := by decide +kernel
theorem dX7_removeAt_61 : decode cX7_removeAt 61 = .ok (.ireturn, 1) := by decide +kernel
theorem dX7_setAt_0 : decode cX7_setAt 0 = .ok (.aload_n 0, 1) := by decide +kernel
theorem dX7_setAt_1 : decode cX7_setAt 1 = .ok (.iload_n 1, 1) := by decide +kernel
theorem dX7_setAt_2 : decode cX7_setAt 2 = .ok (.invokevirtual 19, 3) := by decide +kernel
theorem dX7_setAt_5 : decode cX7_setAt 5 = .ok (.ifCond .eq 10, 3) := by decide +kernel
theorem dX7_setAt_8 : decode cX7_setAt 8 = .ok (.aload_n 0, 1) := by decide +kernel
theorem dX7_setAt_9 : decode cX7_setAt 9 = .ok (.getfield 9, 3) := by decide +kernel
theorem dX7_setAt_12 : decode cX7_setAt 12 = .ok (.iload_n 1, 1) := by decide +kernel
theorem dX7_setAt_13 : decode cX7_setAt 13 = .ok (.iload_n 2, 1) := by decide +kernel
theorem dX7_setAt_14 : decode cX7_setAt 14 = .ok (.iastore, 1) := by decide +kernel
theorem dX7_setAt_15 : decode cX7_setAt 15 = .ok (.return_, 1) := by decide +kernel
theorem dX7_clear_0 : decode cX7_clear 0 = .ok (.aload_n 0, 1) := by decide +kernel
theorem dX7_clear_1 : decode cX7_clear 1 = .ok (.iconst 0, 1) := by decide +kernel
theorem dX7_clear_2 : decode cX7_clear 2 = .ok (.putfield 15, 3) := by decide +kernel
theorem dX7_clear_5 : decode cX7_clear 5 = .ok (.return_, 1) := by decide +kernel
theorem fl_X7_15 : Cond.fieldLink RX7 15 (TX7 1).1 (TX7 1).2.1 (TX7 1).2.2.1 ∈ wsL_law := (uw9 _ (List.mem_of_getElem? (i := 22) rfl))
theorem fl_X7_9 : Cond.fieldLink RX7 9 (TX7 0).1 (TX7 0).2.1 (TX7 0).2.2.1 ∈ wsL_law := (uw3 _ (List.mem_of_getElem? (i := 16) rfl))
theorem hy_X7_isPlace : Cond.code yX7_isPlace cX7_isPlace 2 (some .boolean) ∈ wsL_law ∧ Cond.initialized yX7_isPlace.cls ∈ wsL_law ∧ Cond.instanceMethod yX7_isPlace ∈ wsL_law ∧ Cond.selects yX7_isPlace.cls yX7_isPlace yX7_isPlace ∈ wsL_law := ⟨(uw15 _ (List.mem_of_getElem? (i := 17) rfl)), (uw1 _ (List.mem_of_getElem? (i := 19) rfl)), (uw15 _ (List.mem_of_getElem? (i := 15) rfl)), (uw15 _ (List.mem_of_getElem? (i := 16) rfl))⟩
theorem hd_X7_isPlace : yX7_isPlace.cls ≠ "java/lang/invoke/MethodHandle" ∧ yX7_isPlace.cls ≠ "java/lang/invoke/VarHandle" ∧ (parseMethodDescriptor yX7_isPlace.desc).map (fun d => d.parameters.length) = some 1 := ⟨by decide +kernel, by decide +kernel, by decide +kernel⟩
theorem ml_X7_19 : Cond.methodLink RX7 19 yX7_isPlace ∈ wsL_law := (uw15 _ (List.mem_of_getElem? (i := 14) rfl))
abbrev w_Line_size (G : zG) (a_this : Nat) (a_who : Nat) (length_ : Int32) : va_W := [(a_this, cO 7 [.ref a_who, .int length_])]
def f_Line_size (length_ : Int32) : Int32 := length_
set_option maxRecDepth 100000 in
set_option maxHeartbeats 4000000 in
theorem c_Line_size (l : Launch) (G : zG) (a_this : Nat) (a_who : Nat) (length_ : Int32) (r_ : Int32) (hf : f_Line_size length_ = r_) : zM l yX7_size cX7_size 1 (some .int) 0 0 G [.ref a_this] (w_Line_size G a_this a_who length_) (some (.int r_)) (w_Line_size G a_this a_who length_) := by
  refine zM.of [(0, .ref a_this)] (own := RX7) rfl (by decide +kernel) (Nat.le_of_ble_eq_true rfl) rfl rfl fun X hX F => ?_
  subst hX
  replace hf := (f_Line_size.eq_1 ..).symm.trans hf
  refine z_aload_n F 0 dX7_size_0 rfl rfl ?_
  refine z_get F 0 7 1 inlX7 rfl rfl (by decide) fl_X7_15 rfl dX7_size_1 ?_
  subst hf
  exact z_iret F rfl rfl rfl rfl dX7_size_4

abbrev w_Line_insert (G : zG) (a_this : Nat) (a_who : Nat) (length_ : Int32) (who : Nat → Int32) : va_W := [(a_this, cO 7 [.ref a_who, .int length_]), (a_who, cI G 9 who)]
def f_Line_insert_L27 (v2 : Int32) : Nat → (Nat → Int32) → Int32 → Option ((Nat → Int32))
  | 0, _, _ => none
  | fuel + 1, who, v3 => (if v3 ≤ v2 then (some who) else (zg who 9 (v3 - (1 : Int32)) fun v_1 => (zs who 9 v3 v_1 fun who_2 => (f_Line_insert_L27 v2 fuel who_2 (v3 + (-1))))))
def f_Line_insert (length_ : Int32) (who : Nat → Int32) (x1 : Int32) (x2 : Int32) : Option (Int32 × (Nat → Int32)) := (if x2 < 0 then (some (length_, who)) else (if length_ < x2 then (some (length_, who)) else (if length_ < 9 then (zb1 (f_Line_insert_L27 x2 FU who length_) fun who_3 => (zs who_3 9 x2 x1 fun who_4 => (some ((length_ + (1 : Int32)), who_4)))) else (some (length_, who)))))
set_option maxRecDepth 100000 in
set_option maxHeartbeats 4000000 in
theorem l_Line_insert_27 {X : zX} (G : zG) (a_this : Nat) (a_who : Nat) (length_ : Int32) (v1 : Int32) (v2 : Int32) {v0 : Option Value} {w0 : va_W} (F : zF X G cX7_insert RX7 4 none 0 0 v0 w0) (e_who : Nat → Int32) (hk : Z X G 4 (w_Line_insert G a_this a_who length_ e_who) [(0, .ref a_this), (1, .int v1), (2, .int v2)] 52 []) :
    ∀ (fuel : Nat) (who : Nat → Int32) (v3 : Int32), f_Line_insert_L27 v2 fuel who v3 = some e_who → Z X G 4 (w_Line_insert G a_this a_who length_ who) [(0, .ref a_this), (1, .int v1), (2, .int v2), (3, .int v3)] 27 [] := by
  intro fuel
  induction fuel with
  | zero => intro who v3 hf; exact absurd ((f_Line_insert_L27.eq_1 ..).symm.trans hf) (fun h => by cases h)
  | succ fuel ih =>
    intro who v3 hf
    replace hf := (f_Line_insert_L27.eq_2 ..).symm.trans hf
    refine z_iload_n F 3 dX7_insert_27 rfl rfl ?_
    refine z_iload_n F 2 dX7_insert_28 rfl rfl ?_
    refine z_icmp_le F 52 dX7_insert_29 (by decide) hf (fun hf _ => ?_) (fun hf _ => ?_)
    · have ee1 := Option.some.inj hf
      subst ee1
      exact z_sub [0, 1, 2] rfl hk
    · refine z_aload_n F 0 dX7_insert_32 rfl rfl ?_
      refine z_get F 0 7 0 inlX7 rfl rfl (by decide) fl_X7_9 rfl dX7_insert_33 ?_
      refine z_iload_n F 3 dX7_insert_36 rfl rfl ?_
      refine z_aload_n F 0 dX7_insert_37 rfl rfl ?_
      refine z_get F 0 7 0 inlX7 rfl rfl (by decide) fl_X7_9 rfl dX7_insert_38 ?_
      refine z_iload_n F 3 dX7_insert_41 rfl rfl ?_
      refine z_iconst F (1) dX7_insert_42 rfl ?_
      refine z_isub F dX7_insert_43 ?_
      refine z_iald F 1 rfl hf dX7_insert_44 (fun v_1 hf => ?_)
      refine z_iast F 1 (fun who_2 => (w_Line_insert G a_this a_who length_ who_2)) rfl hf (fun _ => rfl) dX7_insert_45 (fun who_2 hf => ?_)
      refine z_iinc F [(3, .int (v3 + (-1))), (0, .ref a_this), (1, .int v1), (2, .int v2)] dX7_insert_46 3 rfl rfl (by decide) rfl ?_
      refine z_goto F 27 dX7_insert_49 (by decide) ?_
      exact z_sub [1, 2, 3, 0] rfl (ih who_2 (v3 + (-1)) hf)

set_option maxRecDepth 100000 in
set_option maxHeartbeats 4000000 in
theorem c_Line_insert (l : Launch) (G : zG) (a_this : Nat) (a_who : Nat) (length_ : Int32) (who : Nat → Int32) (x1 : Int32) (x2 : Int32) (o_length_ : Int32) (o_who : Nat → Int32) (hf : f_Line_insert length_ who x1 x2 = some (o_length_, o_who)) : zM l yX7_insert cX7_insert 4 none 0 0 G [.ref a_this, .int x1, .int x2] (w_Line_insert G a_this a_who length_ who) (none) (w_Line_insert G a_this a_who o_length_ o_who) := by
  refine zM.of [(0, .ref a_this), (1, .int x1), (2, .int x2)] (own := RX7) rfl (by decide +kernel) (Nat.le_of_ble_eq_true rfl) rfl rfl fun X hX F => ?_
  subst hX
  replace hf := (f_Line_insert.eq_1 ..).symm.trans hf
  refine z_iload_n F 2 dX7_insert_0 rfl rfl ?_
  refine z_if_lt F 21 dX7_insert_1 (by decide) hf (fun hf _ => ?_) (fun hf _ => ?_)
  · have eq1 := Option.some.inj hf
    obtain ⟨ee1, ee2⟩ := Prod.mk.inj eq1
    subst ee1
    subst ee2
    exact z_vret F rfl rfl rfl dX7_insert_21
  · refine z_iload_n F 2 dX7_insert_4 rfl rfl ?_
    refine z_aload_n F 0 dX7_insert_5 rfl rfl ?_
    refine z_get F 0 7 1 inlX7 rfl rfl (by decide) fl_X7_15 rfl dX7_insert_6 ?_
    refine z_icmp_gt F 21 dX7_insert_9 (by decide) hf (fun hf _ => ?_) (fun hf _ => ?_)
    · have eq1 := Option.some.inj hf
      obtain ⟨ee1, ee2⟩ := Prod.mk.inj eq1
      subst ee1
      subst ee2
      exact z_vret F rfl rfl rfl dX7_insert_21
    · refine z_aload_n F 0 dX7_insert_12 rfl rfl ?_
      refine z_get F 0 7 1 inlX7 rfl rfl (by decide) fl_X7_15 rfl dX7_insert_13 ?_
      refine z_bipush F (9) dX7_insert_16 rfl ?_
      refine z_icmp_lt F 22 dX7_insert_18 (by decide) hf (fun hf _ => ?_) (fun hf _ => ?_)
      · refine z_aload_n F 0 dX7_insert_22 rfl rfl ?_
        refine z_get F 0 7 1 inlX7 rfl rfl (by decide) fl_X7_15 rfl dX7_insert_23 ?_
        refine z_istore_n F [(3, .int length_), (0, .ref a_this), (1, .int x1), (2, .int x2)] dX7_insert_26 rfl (by decide) rfl ?_
        obtain ⟨who_3, hg, hf⟩ := zb1_some hf
        refine z_sub [1, 2, 3, 0] rfl ?_
        refine l_Line_insert_27 G a_this a_who length_ x1 x2 F who_3 ?_ FU who length_ hg
        refine z_aload_n F 0 dX7_insert_52 rfl rfl ?_
        refine z_get F 0 7 0 inlX7 rfl rfl (by decide) fl_X7_9 rfl dX7_insert_53 ?_
        refine z_iload_n F 2 dX7_insert_56 rfl rfl ?_
        refine z_iload_n F 1 dX7_insert_57 rfl rfl ?_
        refine z_iast F 1 (fun who_4 => (w_Line_insert G a_this a_who length_ who_4)) rfl hf (fun _ => rfl) dX7_insert_58 (fun who_4 hf => ?_)
        refine z_aload_n F 0 dX7_insert_59 rfl rfl ?_
        refine z_dup F rfl dX7_insert_60 ?_
        refine z_get F 0 7 1 inlX7 rfl rfl (by decide) fl_X7_15 rfl dX7_insert_61 ?_
        refine z_iconst F (1) dX7_insert_64 rfl ?_
        refine z_iadd F dX7_insert_65 ?_
        refine z_put F 0 7 1 (w_Line_insert G a_this a_who (length_ + (1 : Int32)) who_4) inlX7 tyX7 tyX7_ok nmX7 rfl rfl (by decide) fl_X7_15 rfl rfl rfl (Nat.le_of_ble_eq_true rfl) rfl dX7_insert_66 ?_
        have eq1 := Option.some.inj hf
        obtain ⟨ee1, ee2⟩ := Prod.mk.inj eq1
        subst ee1
        subst ee2
        exact z_vret F rfl rfl rfl dX7_insert_69
      · have eq1 := Option.some.inj hf
        obtain ⟨ee1, ee2⟩ := Prod.mk.inj eq1
        subst ee1
        subst ee2
        exact z_vret F rfl rfl rfl dX7_insert_21

abbrev w_Line_placeOf (G : zG) (a_this : Nat) (a_who : Nat) (length_ : Int32) (who : Nat → Int32) : va_W := [(a_this, cO 7 [.ref a_who, .int length_]), (a_who, cI G 9 who)]
def f_Line_placeOf_L2 (length_ : Int32) (who : Nat → Int32) (v1 : Int32) : Nat → Int32 → Option (((Unit) ⊕ (Int32)))
  | 0, _ => none
  | fuel + 1, v2 => (if length_ ≤ v2 then (some (.inl ())) else (zg who 9 v2 fun v_1 => (if v_1 = v1 then (some (.inr v2)) else (f_Line_placeOf_L2 length_ who v1 fuel (v2 + 1)))))
def f_Line_placeOf (length_ : Int32) (who : Nat → Int32) (x1 : Int32) : Option Int32 := (zbs0 (f_Line_placeOf_L2 length_ who x1 FU 0) ((some (-2))) some)
set_option maxRecDepth 100000 in
set_option maxHeartbeats 4000000 in
theorem l_Line_placeOf_2 {X : zX} (G : zG) (a_this : Nat) (a_who : Nat) (length_ : Int32) (who : Nat → Int32) (v1 : Int32) {v0 : Option Value} {w0 : va_W} (F : zF X G cX7_placeOf RX7 3 (some .int) 0 0 v0 w0) (out : ((Unit) ⊕ (Int32))) (hk : out = .inl () → Z X G 3 (w_Line_placeOf G a_this a_who length_ who) [] 28 []) (hr : ∀ q : Int32, out = .inr q → v0 = some (.int q) ∧ w0 = (w_Line_placeOf G a_this a_who length_ who)) :
    ∀ (fuel : Nat) (v2 : Int32), f_Line_placeOf_L2 length_ who v1 fuel v2 = some out → Z X G 3 (w_Line_placeOf G a_this a_who length_ who) [(0, .ref a_this), (1, .int v1), (2, .int v2)] 2 [] := by
  intro fuel
  induction fuel with
  | zero => intro v2 hf; exact absurd ((f_Line_placeOf_L2.eq_1 ..).symm.trans hf) (fun h => by cases h)
  | succ fuel ih =>
    intro v2 hf
    replace hf := (f_Line_placeOf_L2.eq_2 ..).symm.trans hf
    refine z_iload_n F 2 dX7_placeOf_2 rfl rfl ?_
    refine z_aload_n F 0 dX7_placeOf_3 rfl rfl ?_
    refine z_get F 0 7 1 inlX7 rfl rfl (by decide) fl_X7_15 rfl dX7_placeOf_4 ?_
    refine z_icmp_ge F 28 dX7_placeOf_7 (by decide) hf (fun hf _ => ?_) (fun hf _ => ?_)
    · exact z_sub [] rfl (hk  (Option.some.inj hf).symm)
    · refine z_aload_n F 0 dX7_placeOf_10 rfl rfl ?_
      refine z_get F 0 7 0 inlX7 rfl rfl (by decide) fl_X7_9 rfl dX7_placeOf_11 ?_
      refine z_iload_n F 2 dX7_placeOf_14 rfl rfl ?_
      refine z_iald F 1 rfl hf dX7_placeOf_15 (fun v_1 hf => ?_)
      refine z_iload_n F 1 dX7_placeOf_16 rfl rfl ?_
      refine z_icmp_ne F 22 dX7_placeOf_17 (by decide) hf (fun hf _ => ?_) (fun hf _ => ?_)
      · refine z_iinc F [(2, .int (v2 + 1)), (0, .ref a_this), (1, .int v1)] dX7_placeOf_22 2 rfl rfl (by decide) rfl ?_
        refine z_goto F 2 dX7_placeOf_25 (by decide) ?_
        exact z_sub [1, 2, 0] rfl (ih (v2 + 1) hf)
      · refine z_iload_n F 2 dX7_placeOf_20 rfl rfl ?_
        obtain ⟨e1, e2⟩ := hr _ (Option.some.inj hf).symm
        exact z_iret F rfl rfl e1.symm e2.symm dX7_placeOf_21

set_option maxRecDepth 100000 in
set_option maxHeartbeats 4000000 in
theorem c_Line_placeOf (l : Launch) (G : zG) (a_this : Nat) (a_who : Nat) (length_ : Int32) (who : Nat → Int32) (x1 : Int32) (r_ : Int32) (hf : f_Line_placeOf length_ who x1 = some r_) : zM l yX7_placeOf cX7_placeOf 3 (some .int) 0 0 G [.ref a_this, .int x1] (w_Line_placeOf G a_this a_who length_ who) (some (.int r_)) (w_Line_placeOf G a_this a_who length_ who) := by
  refine zM.of [(0, .ref a_this), (1, .int x1)] (own := RX7) rfl (by decide +kernel) (Nat.le_of_ble_eq_true rfl) rfl rfl fun X hX F => ?_
  subst hX
  replace hf := (f_Line_placeOf.eq_1 ..).symm.trans hf
  refine z_iconst F (0) dX7_placeOf_0 rfl ?_
  refine z_istore_n F [(2, .int 0), (0, .ref a_this), (1, .int x1)] dX7_placeOf_1 rfl (by decide) rfl ?_
  obtain ⟨z_2, hg, hf1_3, hf2_4⟩ := zbs0_some hf
  refine z_sub [1, 2, 0] rfl ?_
  refine l_Line_placeOf_2 G a_this a_who length_ who x1 F z_2 (fun e => ?_) (fun q e => ?_) FU 0 hg
  · have hf := hf1_3 e
    refine z_bipush F (-2) dX7_placeOf_28 rfl ?_
    have ee1 := Option.some.inj hf
    subst ee1
    exact z_iret F rfl rfl rfl rfl dX7_placeOf_30
  · have hf := hf2_4 _ e
    cases hf
    exact ⟨rfl, rfl⟩

abbrev w_Line_isPlace (G : zG) (a_this : Nat) (a_who : Nat) (length_ : Int32) : va_W := [(a_this, cO 7 [.ref a_who, .int length_])]
def f_Line_isPlace (length_ : Int32) (x1 : Int32) : Int32 := (if x1 < 0 then 0 else (if length_ ≤ x1 then 0 else 1))
set_option maxRecDepth 100000 in
set_option maxHeartbeats 4000000 in
theorem c_Line_isPlace (l : Launch) (G : zG) (a_this : Nat) (a_who : Nat) (length_ : Int32) (x1 : Int32) (r_ : Int32) (hf : f_Line_isPlace length_ x1 = r_) : zM l yX7_isPlace cX7_isPlace 2 (some .boolean) 0 0 G [.ref a_this, .int x1] (w_Line_isPlace G a_this a_who length_) (some (.int r_)) (w_Line_isPlace G a_this a_who length_) := by
  refine zM.of [(0, .ref a_this), (1, .int x1)] (own := RX7) rfl (by decide +kernel) (Nat.le_of_ble_eq_true rfl) rfl rfl fun X hX F => ?_
  subst hX
  replace hf := (f_Line_isPlace.eq_1 ..).symm.trans hf
  refine z_iload_n F 1 dX7_isPlace_0 rfl rfl ?_
  refine z_if_lt F 16 dX7_isPlace_1 (by decide) hf (fun hf _ => ?_) (fun hf _ => ?_)
  · refine z_iconst F (0) dX7_isPlace_16 rfl ?_
    subst hf
    exact z_iret F rfl rfl rfl rfl dX7_isPlace_17
  · refine z_iload_n F 1 dX7_isPlace_4 rfl rfl ?_
    refine z_aload_n F 0 dX7_isPlace_5 rfl rfl ?_
    refine z_get F 0 7 1 inlX7 rfl rfl (by decide) fl_X7_15 rfl dX7_isPlace_6 ?_
    refine z_icmp_ge F 16 dX7_isPlace_9 (by decide) hf (fun hf _ => ?_) (fun hf _ => ?_)
    · refine z_iconst F (0) dX7_isPlace_16 rfl ?_
      subst hf
      exact z_iret F rfl rfl rfl rfl dX7_isPlace_17
    · refine z_iconst F (1) dX7_isPlace_12 rfl ?_
      refine z_goto F 17 dX7_isPlace_13 (by decide) ?_
      subst hf
      exact z_iret F rfl rfl rfl rfl dX7_isPlace_17

abbrev w_Line_at (G : zG) (a_this : Nat) (a_who : Nat) (length_ : Int32) (who : Nat → Int32) : va_W := [(a_this, cO 7 [.ref a_who, .int length_]), (a_who, cI G 9 who)]
def f_Line_at (length_ : Int32) (who : Nat → Int32) (x1 : Int32) : Option Int32 := (if (f_Line_isPlace length_ x1) = 0 then (some (-2)) else (zg who 9 x1 fun v_2 => (some v_2)))
set_option maxRecDepth 100000 in
set_option maxHeartbeats 4000000 in
theorem c_Line_at (l : Launch) (G : zG) (a_this : Nat) (a_who : Nat) (length_ : Int32) (who : Nat → Int32) (x1 : Int32) (r_ : Int32) (hf : f_Line_at length_ who x1 = some r_) : zM l yX7_at cX7_at 2 (some .int) 1 21 G [.ref a_this, .int x1] (w_Line_at G a_this a_who length_ who) (some (.int r_)) (w_Line_at G a_this a_who length_ who) := by
  refine zM.of [(0, .ref a_this), (1, .int x1)] (own := RX7) rfl (by decide +kernel) (Nat.le_of_ble_eq_true rfl) rfl rfl fun X hX F => ?_
  subst hX
  replace hf := (f_Line_at.eq_1 ..).symm.trans hf
  refine z_aload_n F 0 dX7_at_0 rfl rfl ?_
  refine z_iload_n F 1 dX7_at_1 rfl rfl ?_
  refine z_callVm (rest := []) F 7 (c_Line_isPlace (xL X) G a_this a_who length_ x1 _ rfl) hy_X7_isPlace ml_X7_19 hd_X7_isPlace ⟨by omega, by omega⟩ rfl [0] rfl rfl 0 rfl rfl (w_Line_at G a_this a_who length_ who) [some 0, none] rfl (by decide +kernel) rfl rfl (Nat.le_of_ble_eq_true rfl) dX7_at_2 (fun hz_1 => ?_)
  refine z_if_eq F 17 dX7_at_5 (by decide) hf (fun hf _ => ?_) (fun hf _ => ?_)
  · refine z_bipush F (-2) dX7_at_17 rfl ?_
    have ee1 := Option.some.inj hf
    subst ee1
    exact z_iret F rfl rfl rfl rfl dX7_at_19
  · refine z_aload_n F 0 dX7_at_8 rfl rfl ?_
    refine z_get F 0 7 0 inlX7 rfl rfl (by decide) fl_X7_9 rfl dX7_at_9 ?_
    refine z_iload_n F 1 dX7_at_12 rfl rfl ?_
    refine z_iald F 1 rfl hf dX7_at_13 (fun v_2 hf => ?_)
    refine z_goto F 19 dX7_at_14 (by decide) ?_
    have ee1 := Option.some.inj hf
    subst ee1
    exact z_iret F rfl rfl rfl rfl dX7_at_19

abbrev w_Line_copyFrom (G : zG) (a_this : Nat) (a_who : Nat) (a_p1 : Nat) (a_p1_who : Nat) (length_ : Int32) (who : Nat → Int32) (p1_length : Int32) (p1_who : Nat → Int32) : va_W := [(a_this, cO 7 [.ref a_who, .int length_]), (a_who, cI G 9 who), (a_p1, cO 7 [.ref a_p1_who, .int p1_length]), (a_p1_who, cI G 9 p1_who)]
def f_Line_copyFrom (length_ : Int32) (who : Nat → Int32) (p1_length : Int32) (p1_who : Nat → Int32) : Option (Int32 × (Nat → Int32)) := (zcp p1_who who 9 9 0 0 9 fun who_1 => (some (p1_length, who_1)))
set_option maxRecDepth 100000 in
set_option maxHeartbeats 4000000 in
theorem c_Line_copyFrom (l : Launch) (G : zG) (a_this : Nat) (a_who : Nat) (a_p1 : Nat) (a_p1_who : Nat) (length_ : Int32) (who : Nat → Int32) (p1_length : Int32) (p1_who : Nat → Int32) (o_length_ : Int32) (o_who : Nat → Int32) (hf : f_Line_copyFrom length_ who p1_length p1_who = some (o_length_, o_who)) : zM l yX7_copyFrom cX7_copyFrom 2 none 1 120 G [.ref a_this, .ref a_p1] (w_Line_copyFrom G a_this a_who a_p1 a_p1_who length_ who p1_length p1_who) (none) (w_Line_copyFrom G a_this a_who a_p1 a_p1_who o_length_ o_who p1_length p1_who) := by
  refine zM.of [(0, .ref a_this), (1, .ref a_p1)] (own := RX7) rfl (by decide +kernel) (Nat.le_of_ble_eq_true rfl) rfl rfl fun X hX F => ?_
  subst hX
  replace hf := (f_Line_copyFrom.eq_1 ..).symm.trans hf
  refine z_aload_n F 1 dX7_copyFrom_0 rfl rfl ?_
  refine z_get F 2 7 0 inlX7 rfl rfl (by decide) fl_X7_9 rfl dX7_copyFrom_1 ?_
  refine z_iconst F (0) dX7_copyFrom_4 rfl ?_
  refine z_aload_n F 0 dX7_copyFrom_5 rfl rfl ?_
  refine z_get F 0 7 0 inlX7 rfl rfl (by decide) fl_X7_9 rfl dX7_copyFrom_6 ?_
  refine z_iconst F (0) dX7_copyFrom_9 rfl ?_
  refine z_bipush F (9) dX7_copyFrom_10 rfl ?_
  refine z_cpi F 3 1 (fun who_1 => (w_Line_copyFrom G a_this a_who a_p1 a_p1_who length_ who_1 p1_length p1_who)) ⟨(uw28 _ (List.mem_of_getElem? (i := 13) rfl)), (uw13 _ (List.mem_of_getElem? (i := 14) rfl)), (uw13 _ (List.mem_of_getElem? (i := 15) rfl)), (uw13 _ (List.mem_of_getElem? (i := 16) rfl))⟩ rfl rfl hf (fun _ => rfl) (by omega) (Nat.le_of_ble_eq_true rfl) dX7_copyFrom_12 (fun who_1 hf => ?_)
  refine z_aload_n F 0 dX7_copyFrom_15 rfl rfl ?_
  refine z_aload_n F 1 dX7_copyFrom_16 rfl rfl ?_
  refine z_get F 2 7 1 inlX7 rfl rfl (by decide) fl_X7_15 rfl dX7_copyFrom_17 ?_
  refine z_put F 0 7 1 (w_Line_copyFrom G a_this a_who a_p1 a_p1_who p1_length who_1 p1_length p1_who) inlX7 tyX7 tyX7_ok nmX7 rfl rfl (by decide) fl_X7_15 rfl rfl rfl (Nat.le_of_ble_eq_true rfl) rfl dX7_copyFrom_20 ?_
  have eq1 := Option.some.inj hf
  obtain ⟨ee1, ee2⟩ := Prod.mk.inj eq1
  subst ee1
  subst ee2
  exact z_vret F rfl rfl rfl dX7_copyFrom_23

abbrev w_Line_exchange (G : zG) (a_this : Nat) (a_who : Nat) (length_ : Int32) (who : Nat → Int32) : va_W := [(a_this, cO 7 [.ref a_who, .int length_]), (a_who, cI G 9 who)]
def f_Line_exchange (length_ : Int32) (who : Nat → Int32) (x1 : Int32) (x2 : Int32) : Option ((Nat → Int32)) := (if (f_Line_isPlace length_ x1) = 0 then (some who) else (if (f_Line_isPlace length_ x2) = 0 then (some who) else (zg who 9 x1 fun v_3 => (zg who 9 x2 fun v_4 => (zs who 9 x1 v_4 fun who_5 => (zs who_5 9 x2 v_3 fun who_6 => (some who_6)))))))
set_option maxRecDepth 100000 in
set_option maxHeartbeats 4000000 in
theorem c_Line_exchange (l : Launch) (G : zG) (a_this : Nat) (a_who : Nat) (length_ : Int32) (who : Nat → Int32) (x1 : Int32) (x2 : Int32) (o_who : Nat → Int32) (hf : f_Line_exchange length_ who x1 x2 = some o_who) : zM l yX7_exchange cX7_exchange 4 none 1 21 G [.ref a_this, .int x1, .int x2] (w_Line_exchange G a_this a_who length_ who) (none) (w_Line_exchange G a_this a_who length_ o_who) := by
  refine zM.of [(0, .ref a_this), (1, .int x1), (2, .int x2)] (own := RX7) rfl (by decide +kernel) (Nat.le_of_ble_eq_true rfl) rfl rfl fun X hX F => ?_
  subst hX
  replace hf := (f_Line_exchange.eq_1 ..).symm.trans hf
  refine z_aload_n F 0 dX7_exchange_0 rfl rfl ?_
  refine z_iload_n F 1 dX7_exchange_1 rfl rfl ?_
  refine z_callVm (rest := []) F 7 (c_Line_isPlace (xL X) G a_this a_who length_ x1 _ rfl) hy_X7_isPlace ml_X7_19 hd_X7_isPlace ⟨by omega, by omega⟩ rfl [0] rfl rfl 0 rfl rfl (w_Line_exchange G a_this a_who length_ who) [some 0, none] rfl (by decide +kernel) rfl rfl (Nat.le_of_ble_eq_true rfl) dX7_exchange_2 (fun hz_1 => ?_)
  refine z_if_eq F 42 dX7_exchange_5 (by decide) hf (fun hf _ => ?_) (fun hf _ => ?_)
  · have ee1 := Option.some.inj hf
    subst ee1
    exact z_vret F rfl rfl rfl dX7_exchange_42
  · refine z_aload_n F 0 dX7_exchange_8 rfl rfl ?_
    refine z_iload_n F 2 dX7_exchange_9 rfl rfl ?_
    refine z_callVm (rest := []) F 7 (c_Line_isPlace (xL X) G a_this a_who length_ x2 _ rfl) hy_X7_isPlace ml_X7_19 hd_X7_isPlace ⟨by omega, by omega⟩ rfl [0] rfl rfl 0 rfl rfl (w_Line_exchange G a_this a_who length_ who) [some 0, none] rfl (by decide +kernel) rfl rfl (Nat.le_of_ble_eq_true rfl) dX7_exchange_10 (fun hz_2 => ?_)
    refine z_if_eq F 42 dX7_exchange_13 (by decide) hf (fun hf _ => ?_) (fun hf _ => ?_)
    · have ee1 := Option.some.inj hf
      subst ee1
      exact z_vret F rfl rfl rfl dX7_exchange_42
    · refine z_aload_n F 0 dX7_exchange_16 rfl rfl ?_
      refine z_get F 0 7 0 inlX7 rfl rfl (by decide) fl_X7_9 rfl dX7_exchange_17 ?_
      refine z_iload_n F 1 dX7_exchange_20 rfl rfl ?_
      refine z_iald F 1 rfl hf dX7_exchange_21 (fun v_3 hf => ?_)
      refine z_istore_n F [(3, .int v_3), (0, .ref a_this), (1, .int x1), (2, .int x2)] dX7_exchange_22 rfl (by decide) rfl ?_
      refine z_aload_n F 1 dX7_exchange_23 rfl rfl ?_
      refine z_get F 0 7 0 inlX7 rfl rfl (by decide) fl_X7_9 rfl dX7_exchange_24 ?_
      refine z_iload_n F 2 dX7_exchange_27 rfl rfl ?_
      refine z_aload_n F 1 dX7_exchange_28 rfl rfl ?_
      refine z_get F 0 7 0 inlX7 rfl rfl (by decide) fl_X7_9 rfl dX7_exchange_29 ?_
      refine z_iload_n F 3 dX7_exchange_32 rfl rfl ?_
      refine z_iald F 1 rfl hf dX7_exchange_33 (fun v_4 hf => ?_)
      refine z_iast F 1 (fun who_5 => (w_Line_exchange G a_this a_who length_ who_5)) rfl hf (fun _ => rfl) dX7_exchange_34 (fun who_5 hf => ?_)
      refine z_aload_n F 1 dX7_exchange_35 rfl rfl ?_
      refine z_get F 0 7 0 inlX7 rfl rfl (by decide) fl_X7_9 rfl dX7_exchange_36 ?_
      refine z_iload_n F 3 dX7_exchange_39 rfl rfl ?_
      refine z_iload_n F 0 dX7_exchange_40 rfl rfl ?_
      refine z_iast F 1 (fun who_6 => (w_Line_exchange G a_this a_who length_ who_6)) rfl hf (fun _ => rfl) dX7_exchange_41 (fun who_6 hf => ?_)
      have ee1 := Option.some.inj hf
      subst ee1
      exact z_vret F rfl rfl rfl dX7_exchange_42

abbrev w_Line_removeAt (G : zG) (a_this : Nat) (a_who : Nat) (length_ : Int32) (who : Nat → Int32) : va_W := [(a_this, cO 7 [.ref a_who, .int length_]), (a_who, cI G 9 who)]
def f_Line_removeAt_L20 (length_ : Int32) : Nat → (Nat → Int32) → Int32 → Option ((Nat → Int32))
  | 0, _, _ => none
  | fuel + 1, who, v3 => (if (length_ - (1 : Int32)) ≤ v3 then (some who) else (zg who 9 (v3 + (1 : Int32)) fun v_3 => (zs who 9 v3 v_3 fun who_4 => (f_Line_removeAt_L20 length_ fuel who_4 (v3 + 1)))))
def f_Line_removeAt (length_ : Int32) (who : Nat → Int32) (x1 : Int32) : Option (Int32 × Int32 × (Nat → Int32)) := (if (f_Line_isPlace length_ x1) = 0 then (some ((-2), length_, who)) else (zg who 9 x1 fun v_2 => (zb1 (f_Line_removeAt_L20 length_ FU who x1) fun who_5 => (some (v_2, (length_ - (1 : Int32)), who_5)))))
set_option maxRecDepth 100000 in
set_option maxHeartbeats 4000000 in
theorem l_Line_removeAt_20 {X : zX} (G : zG) (a_this : Nat) (a_who : Nat) (length_ : Int32) (v2 : Int32) {v0 : Option Value} {w0 : va_W} (F : zF X G cX7_removeAt RX7 4 (some .int) 1 21 v0 w0) (e_who : Nat → Int32) (hk : Z X G 4 (w_Line_removeAt G a_this a_who length_ e_who) [(0, .ref a_this), (2, .int v2)] 50 []) :
    ∀ (fuel : Nat) (who : Nat → Int32) (v3 : Int32), f_Line_removeAt_L20 length_ fuel who v3 = some e_who → Z X G 4 (w_Line_removeAt G a_this a_who length_ who) [(0, .ref a_this), (2, .int v2), (3, .int v3)] 20 [] := by
  intro fuel
  induction fuel with
  | zero => intro who v3 hf; exact absurd ((f_Line_removeAt_L20.eq_1 ..).symm.trans hf) (fun h => by cases h)
  | succ fuel ih =>
    intro who v3 hf
    replace hf := (f_Line_removeAt_L20.eq_2 ..).symm.trans hf
    refine z_iload_n F 2 dX7_removeAt_20 rfl rfl ?_
    refine z_aload_n F 0 dX7_removeAt_21 rfl rfl ?_
    refine z_get F 0 7 1 inlX7 rfl rfl (by decide) fl_X7_15 rfl dX7_removeAt_22 ?_
    refine z_iconst F (1) dX7_removeAt_25 rfl ?_
    refine z_isub F dX7_removeAt_26 ?_
    refine z_icmp_ge F 50 dX7_removeAt_27 (by decide) hf (fun hf _ => ?_) (fun hf _ => ?_)
    · have ee1 := Option.some.inj hf
      subst ee1
      exact z_sub [0, 1] rfl hk
    · refine z_aload_n F 0 dX7_removeAt_30 rfl rfl ?_
      refine z_get F 0 7 0 inlX7 rfl rfl (by decide) fl_X7_9 rfl dX7_removeAt_31 ?_
      refine z_iload_n F 2 dX7_removeAt_34 rfl rfl ?_
      refine z_aload_n F 0 dX7_removeAt_35 rfl rfl ?_
      refine z_get F 0 7 0 inlX7 rfl rfl (by decide) fl_X7_9 rfl dX7_removeAt_36 ?_
      refine z_iload_n F 2 dX7_removeAt_39 rfl rfl ?_
      refine z_iconst F (1) dX7_removeAt_40 rfl ?_
      refine z_iadd F dX7_removeAt_41 ?_
      refine z_iald F 1 rfl hf dX7_removeAt_42 (fun v_3 hf => ?_)
      refine z_iast F 1 (fun who_4 => (w_Line_removeAt G a_this a_who length_ who_4)) rfl hf (fun _ => rfl) dX7_removeAt_43 (fun who_4 hf => ?_)
      refine z_iinc F [(3, .int (v3 + 1)), (0, .ref a_this), (2, .int v2)] dX7_removeAt_44 2 rfl rfl (by decide) rfl ?_
      refine z_goto F 20 dX7_removeAt_47 (by decide) ?_
      exact z_sub [1, 2, 0] rfl (ih who_4 (v3 + 1) hf)

set_option maxRecDepth 100000 in
set_option maxHeartbeats 4000000 in
theorem c_Line_removeAt (l : Launch) (G : zG) (a_this : Nat) (a_who : Nat) (length_ : Int32) (who : Nat → Int32) (x1 : Int32) (r_ : Int32) (o_length_ : Int32) (o_who : Nat → Int32) (hf : f_Line_removeAt length_ who x1 = some (r_, o_length_, o_who)) : zM l yX7_removeAt cX7_removeAt 4 (some .int) 1 21 G [.ref a_this, .int x1] (w_Line_removeAt G a_this a_who length_ who) (some (.int r_)) (w_Line_removeAt G a_this a_who o_length_ o_who) := by
  refine zM.of [(0, .ref a_this), (1, .int x1)] (own := RX7) rfl (by decide +kernel) (Nat.le_of_ble_eq_true rfl) rfl rfl fun X hX F => ?_
  subst hX
  replace hf := (f_Line_removeAt.eq_1 ..).symm.trans hf
  refine z_aload_n F 0 dX7_removeAt_0 rfl rfl ?_
  refine z_iload_n F 1 dX7_removeAt_1 rfl rfl ?_
  refine z_callVm (rest := []) F 7 (c_Line_isPlace (xL X) G a_this a_who length_ x1 _ rfl) hy_X7_isPlace ml_X7_19 hd_X7_isPlace ⟨by omega, by omega⟩ rfl [0] rfl rfl 0 rfl rfl (w_Line_removeAt G a_this a_who length_ who) [some 0, none] rfl (by decide +kernel) rfl rfl (Nat.le_of_ble_eq_true rfl) dX7_removeAt_2 (fun hz_1 => ?_)
  refine z_if_ne F 11 dX7_removeAt_5 (by decide) hf (fun hf _ => ?_) (fun hf _ => ?_)
  · refine z_aload_n F 0 dX7_removeAt_11 rfl rfl ?_
    refine z_get F 0 7 0 inlX7 rfl rfl (by decide) fl_X7_9 rfl dX7_removeAt_12 ?_
    refine z_iload_n F 1 dX7_removeAt_15 rfl rfl ?_
    refine z_iald F 1 rfl hf dX7_removeAt_16 (fun v_2 hf => ?_)
    refine z_istore_n F [(2, .int v_2), (0, .ref a_this), (1, .int x1)] dX7_removeAt_17 rfl (by decide) rfl ?_
    refine z_iload_n F 2 dX7_removeAt_18 rfl rfl ?_
    refine z_istore_n F [(3, .int x1), (2, .int v_2), (0, .ref a_this), (1, .int x1)] dX7_removeAt_19 rfl (by decide) rfl ?_
    obtain ⟨who_5, hg, hf⟩ := zb1_some hf
    refine z_sub [2, 1, 0] rfl ?_
    refine l_Line_removeAt_20 G a_this a_who length_ v_2 F who_5 ?_ FU who x1 hg
    refine z_aload_n F 0 dX7_removeAt_50 rfl rfl ?_
    refine z_dup F rfl dX7_removeAt_51 ?_
    refine z_get F 0 7 1 inlX7 rfl rfl (by decide) fl_X7_15 rfl dX7_removeAt_52 ?_
    refine z_iconst F (1) dX7_removeAt_55 rfl ?_
    refine z_isub F dX7_removeAt_56 ?_
    refine z_put F 0 7 1 (w_Line_removeAt G a_this a_who (length_ - (1 : Int32)) who_5) inlX7 tyX7 tyX7_ok nmX7 rfl rfl (by decide) fl_X7_15 rfl rfl rfl (Nat.le_of_ble_eq_true rfl) rfl dX7_removeAt_57 ?_
    refine z_iload_n F 1 dX7_removeAt_60 rfl rfl ?_
    have eq1 := Option.some.inj hf
    obtain ⟨ee1, eq2⟩ := Prod.mk.inj eq1
    obtain ⟨ee2, ee3⟩ := Prod.mk.inj eq2
    subst ee1
    subst ee2
    subst ee3
    exact z_iret F rfl rfl rfl rfl dX7_removeAt_61
  · refine z_bipush F (-2) dX7_removeAt_8 rfl ?_
    have eq1 := Option.some.inj hf
    obtain ⟨ee1, eq2⟩ := Prod.mk.inj eq1
    obtain ⟨ee2, ee3⟩ := Prod.mk.inj eq2
    subst ee1
    subst ee2
    subst ee3
    exact z_iret F rfl rfl rfl rfl dX7_removeAt_10

abbrev w_Line_setAt (G : zG) (a_this : Nat) (a_who : Nat) (length_ : Int32) (who : Nat → Int32) : va_W := [(a_this, cO 7 [.ref a_who, .int length_]), (a_who, cI G 9 who)]
def f_Line_setAt (length_ : Int32) (who : Nat → Int32) (x1 : Int32) (x2 : Int32) : Option ((Nat → Int32)) := (if (f_Line_isPlace length_ x1) = 0 then (some who) else (zs who 9 x1 x2 fun who_2 => (some who_2)))
set_option maxRecDepth 100000 in
set_option maxHeartbeats 4000000 in
theorem c_Line_setAt (l : Launch) (G : zG) (a_this : Nat) (a_who : Nat) (length_ : Int32) (who : Nat → Int32) (x1 : Int32) (x2 : Int32) (o_who : Nat → Int32) (hf : f_Line_setAt length_ who x1 x2 = some o_who) : zM l yX7_setAt cX7_setAt 3 none 1 21 G [.ref a_this, .int x1, .int x2] (w_Line_setAt G a_this a_who length_ who) (none) (w_Line_setAt G a_this a_who length_ o_who) := by
  refine zM.of [(0, .ref a_this), (1, .int x1), (2, .int x2)] (own := RX7) rfl (by decide +kernel) (Nat.le_of_ble_eq_true rfl) rfl rfl fun X hX F => ?_
  subst hX
  replace hf := (f_Line_setAt.eq_1 ..).symm.trans hf
  refine z_aload_n F 0 dX7_setAt_0 rfl rfl ?_
  refine z_iload_n F 1 dX7_setAt_1 rfl rfl ?_
  refine z_callVm (rest := []) F 7 (c_Line_isPlace (xL X) G a_this a_who length_ x1 _ rfl) hy_X7_isPlace ml_X7_19 hd_X7_isPlace ⟨by omega, by omega⟩ rfl [0] rfl rfl 0 rfl rfl (w_Line_setAt G a_this a_who length_ who) [some 0, none] rfl (by decide +kernel) rfl rfl (Nat.le_of_ble_eq_true rfl) dX7_setAt_2 (fun hz_1 => ?_)
  refine z_if_eq F 15 dX7_setAt_5 (by decide) hf (fun hf _ => ?_) (fun hf _ => ?_)
  · have ee1 := Option.some.inj hf
    subst ee1
    exact z_vret F rfl rfl rfl dX7_setAt_15
  · refine z_aload_n F 0 dX7_setAt_8 rfl rfl ?_
    refine z_get F 0 7 0 inlX7 rfl rfl (by decide) fl_X7_9 rfl dX7_setAt_9 ?_
    refine z_iload_n F 1 dX7_setAt_12 rfl rfl ?_
    refine z_iload_n F 2 dX7_setAt_13 rfl rfl ?_
    refine z_iast F 1 (fun who_2 => (w_Line_setAt G a_this a_who length_ who_2)) rfl hf (fun _ => rfl) dX7_setAt_14 (fun who_2 hf => ?_)
    have ee1 := Option.some.inj hf
    subst ee1
    exact z_vret F rfl rfl rfl dX7_setAt_15

abbrev w_Line_clear (G : zG) (a_this : Nat) (a_who : Nat) (length_ : Int32) : va_W := [(a_this, cO 7 [.ref a_who, .int length_])]
def f_Line_clear (length_ : Int32) : Option Int32 := (some 0)
set_option maxRecDepth 100000 in
set_option maxHeartbeats 4000000 in
theorem c_Line_clear (l : Launch) (G : zG) (a_this : Nat) (a_who : Nat) (length_ : Int32) (o_length_ : Int32) (hf : f_Line_clear length_ = some o_length_) : zM l yX7_clear cX7_clear 1 none 0 0 G [.ref a_this] (w_Line_clear G a_this a_who length_) (none) (w_Line_clear G a_this a_who o_length_) := by
  refine zM.of [(0, .ref a_this)] (own := RX7) rfl (by decide +kernel) (Nat.le_of_ble_eq_true rfl) rfl rfl fun X hX F => ?_
  subst hX
  replace hf := (f_Line_clear.eq_1 ..).symm.trans hf
  refine z_aload_n F 0 dX7_clear_0 rfl rfl ?_
  refine z_iconst F (0) dX7_clear_1 rfl ?_
  refine z_put F 0 7 1 (w_Line_clear G a_this a_who 0) inlX7 tyX7 tyX7_ok nmX7 rfl rfl (by decide) fl_X7_15 rfl rfl rfl (Nat.le_of_ble_eq_true rfl) rfl dX7_clear_2 ?_
  have ee1 := Option.some.inj hf
  subst ee1
  exact z_vret F rfl rfl rfl dX7_clear_5

