/-! by program (wip/whole/gen.py): pure functions and contracts -/
theorem dX1_isOfAnother_0 : decode cX1_isOfAnother 0 = .ok (.iconst 0, 1) := by decide +kernel
theorem dX1_isOfAnother_1 : decode cX1_isOfAnother 1 = .ok (.istore_n 3, 1) := by decide +kernel
theorem dX1_isOfAnother_2 : decode cX1_isOfAnother 2 = .ok (.iload_n 3, 1) := by decide +kernel
theorem dX1_isOfAnother_3 : decode cX1_isOfAnother 3 = .ok (.aload_n 0, 1) := by decide +kernel
theorem dX1_isOfAnother_4 : decode cX1_isOfAnother 4 = .ok (.getfield 15, 3) := by decide +kernel
theorem dX1_isOfAnother_7 : decode cX1_isOfAnother 7 = .ok (.if_icmp .ge 26, 3) := by decide +kernel
theorem dX1_isOfAnother_10 : decode cX1_isOfAnother 10 = .ok (.iload_n 3, 1) := by decide +kernel
theorem dX1_isOfAnother_11 : decode cX1_isOfAnother 11 = .ok (.iload_n 2, 1) := by decide +kernel
theorem dX1_isOfAnother_12 : decode cX1_isOfAnother 12 = .ok (.if_icmp .eq 15, 3) := by decide +kernel
theorem dX1_isOfAnother_15 : decode cX1_isOfAnother 15 = .ok (.aload_n 0, 1) := by decide +kernel
theorem dX1_isOfAnother_16 : decode cX1_isOfAnother 16 = .ok (.getfield 9, 3) := by decide +kernel
theorem dX1_isOfAnother_19 : decode cX1_isOfAnother 19 = .ok (.iload_n 3, 1) := by decide +kernel
theorem dX1_isOfAnother_20 : decode cX1_isOfAnother 20 = .ok (.iaload, 1) := by decide +kernel
theorem dX1_isOfAnother_21 : decode cX1_isOfAnother 21 = .ok (.iload_n 1, 1) := by decide +kernel
theorem dX1_isOfAnother_22 : decode cX1_isOfAnother 22 = .ok (.if_icmp .ne 5, 3) := by decide +kernel
theorem dX1_isOfAnother_25 : decode cX1_isOfAnother 25 = .ok (.iconst 1, 1) := by decide +kernel
theorem dX1_isOfAnother_26 : decode cX1_isOfAnother 26 = .ok (.ireturn, 1) := by decide +kernel
theorem dX1_isOfAnother_27 : decode cX1_isOfAnother 27 = .ok (.iinc 3 1, 3) := by decide +kernel
theorem dX1_isOfAnother_30 : decode cX1_isOfAnother 30 = .ok (.goto (-28), 3) := by decide +kernel
theorem dX1_isOfAnother_33 : decode cX1_isOfAnother 33 = .ok (.iconst 0, 1) := by decide +kernel
theorem dX1_isOfAnother_34 : decode cX1_isOfAnother 34 = .ok (.ireturn, 1) := by decide +kernel
theorem dX1_isFree_0 : decode cX1_isFree 0 = .ok (.iload_n 1, 1) := by decide +kernel
theorem dX1_isFree_1 : decode cX1_isFree 1 = .ok (.iconst 1, 1) := by decide +kernel
theorem dX1_isFree_2 : decode cX1_isFree 2 = .ok (.if_icmp .lt 22, 3) := by decide +kernel
theorem dX1_isFree_5 : decode cX1_isFree 5 = .ok (.iload_n 1, 1) := by decide +kernel
theorem dX1_isFree_6 : decode cX1_isFree 6 = .ok (.bipush 99, 2) := by decide +kernel
theorem dX1_isFree_8 : decode cX1_isFree 8 = .ok (.if_icmp .gt 16, 3) := by decide +kernel
theorem dX1_isFree_11 : decode cX1_isFree 11 = .ok (.aload_n 0, 1) := by decide +kernel
theorem dX1_isFree_12 : decode cX1_isFree 12 = .ok (.iload_n 1, 1) := by decide +kernel
theorem dX1_isFree_13 : decode cX1_isFree 13 = .ok (.iload_n 2, 1) := by decide +kernel
theorem dX1_isFree_14 : decode cX1_isFree 14 = .ok (.invokevirtual 23, 3) := by decide +kernel
theorem dX1_isFree_17 : decode cX1_isFree 17 = .ok (.ifCond .ne 7, 3) := by decide +kernel
theorem dX1_isFree_20 : decode cX1_isFree 20 = .ok (.iconst 1, 1) := by decide +kernel
theorem dX1_isFree_21 : decode cX1_isFree 21 = .ok (.goto 4, 3) := by decide +kernel
theorem dX1_isFree_24 : decode cX1_isFree 24 = .ok (.iconst 0, 1) := by decide +kernel
theorem dX1_isFree_25 : decode cX1_isFree 25 = .ok (.ireturn, 1) := by decide +kernel
theorem dX1_come_0 : decode cX1_come 0 = .ok (.aload_n 0, 1) := by decide +kernel
theorem dX1_come_1 : decode cX1_come 1 = .ok (.iload_n 1, 1) := by decide +kernel
theorem dX1_come_2 : decode cX1_come 2 = .ok (.iconst (-1), 1) := by decide +kernel
theorem dX1_come_3 : decode cX1_come 3 = .ok (.invokevirtual 31, 3) := by decide +kernel
theorem dX1_come_6 : decode cX1_come 6 = .ok (.ifCond .ne 5, 3) := by decide +kernel
theorem dX1_come_9 : decode cX1_come 9 = .ok (.iconst (-1), 1) := by decide +kernel
theorem dX1_come_10 : decode cX1_come 10 = .ok (.ireturn, 1) := by decide +kernel
theorem dX1_come_11 : decode cX1_come 11 = .ok (.aload_n 0, 1) := by decide +kernel
theorem dX1_come_12 : decode cX1_come 12 = .ok (.getfield 15, 3) := by decide +kernel
theorem dX1_come_15 : decode cX1_come 15 = .ok (.bipush 9, 2) := by decide +kernel
theorem dX1_come_17 : decode cX1_come 17 = .ok (.if_icmp .lt 6, 3) := by decide +kernel
theorem dX1_come_20 : decode cX1_come 20 = .ok (.bipush (-3), 2) := by decide +kernel
theorem dX1_come_22 : decode cX1_come 22 = .ok (.ireturn, 1) := by decide +kernel
theorem dX1_come_23 : decode cX1_come 23 = .ok (.aload_n 0, 1) := by decide +kernel
theorem dX1_come_24 : decode cX1_come 24 = .ok (.getfield 9, 3) := by decide +kernel
theorem dX1_come_27 : decode cX1_come 27 = .ok (.aload_n 0, 1) := by decide +kernel
theorem dX1_come_28 : decode cX1_come 28 = .ok (.getfield 15, 3) := by decide +kernel
theorem dX1_come_31 : decode cX1_come 31 = .ok (.iload_n 1, 1) := by decide +kernel
theorem dX1_come_32 : decode cX1_come 32 = .ok (.iastore, 1) := by decide +kernel
theorem dX1_come_33 : decode cX1_come 33 = .ok (.aload_n 0, 1) := by decide +kernel
theorem dX1_come_34 : decode cX1_come 34 = .ok (.dup, 1) := by decide +kernel
theorem dX1_come_35 : decode cX1_come 35 = .ok (.getfield 15, 3) := by decide +kernel
theorem dX1_come_38 : decode cX1_come 38 = .ok (.iconst 1, 1) := by decide +kernel
theorem dX1_come_39 : decode cX1_come 39 = .ok (.iadd, 1) := by decide +kernel
theorem dX1_come_40 : decode cX1_come 40 = .ok (.putfield 15, 3) := by decide +kernel
theorem dX1_come_43 : decode cX1_come 43 = .ok (.aload_n 0, 1) := by decide +kernel
theorem dX1_come_44 : decode cX1_come 44 = .ok (.getfield 15, 3) := by decide +kernel
theorem dX1_come_47 : decode cX1_come 47 = .ok (.iconst 1, 1) := by decide +kernel
theorem dX1_come_48 : decode cX1_come 48 = .ok (.isub, 1) := by decide +kernel
theorem dX1_come_49 : decode cX1_come 49 = .ok (.ireturn, 1) := by decide +kernel
theorem dX1_isPerson_0 : decode cX1_isPerson 0 = .ok (.iload_n 1, 1) := by decide +kernel
theorem dX1_isPerson_1 : decode cX1_isPerson 1 = .ok (.ifCond .lt 15, 3) := by decide +kernel
theorem dX1_isPerson_4 : decode cX1_isPerson 4 = .ok (.iload_n 1, 1) := by decide +kernel
theorem dX1_isPerson_5 : decode cX1_isPerson 5 = .ok (.aload_n 0, 1) := by decide +kernel
theorem dX1_isPerson_6 : decode cX1_isPerson 6 = .ok (.getfield 15, 3) := by decide +kernel
theorem dX1_isPerson_9 : decode cX1_isPerson 9 = .ok (.if_icmp .ge 7, 3) := by decide +kernel
theorem dX1_isPerson_12 : decode cX1_isPerson 12 = .ok (.iconst 1, 1) := by decide +kernel
theorem dX1_isPerson_13 : decode cX1_isPerson 13 = .ok (.goto 4, 3) := by decide +kernel
theorem dX1_isPerson_16 : decode cX1_isPerson 16 = .ok (.iconst 0, 1) := by decide +kernel
theorem dX1_isPerson_17 : decode cX1_isPerson 17 = .ok (.ireturn, 1) := by decide +kernel
theorem dX1_heightOf_0 : decode cX1_heightOf 0 = .ok (.aload_n 0, 1) := by decide +kernel
theorem dX1_heightOf_1 : decode cX1_heightOf 1 = .ok (.iload_n 1, 1) := by decide +kernel
theorem dX1_heightOf_2 : decode cX1_heightOf 2 = .ok (.invokevirtual 19, 3) := by decide +kernel
theorem dX1_heightOf_5 : decode cX1_heightOf 5 = .ok (.ifCond .eq 12, 3) := by decide +kernel
theorem dX1_heightOf_8 : decode cX1_heightOf 8 = .ok (.aload_n 0, 1) := by decide +kernel
theorem dX1_heightOf_9 : decode cX1_heightOf 9 = .ok (.getfield 9, 3) := by decide +kernel
theorem dX1_heightOf_12 : decode cX1_heightOf 12 = .ok (.iload_n 1, 1) := by decide +kernel
theorem dX1_heightOf_13 : decode cX1_heightOf 13 = .ok (.iaload, 1) := by decide +kernel
theorem dX1_heightOf_14 : decode cX1_heightOf 14 = .ok (.goto 4, 3) := by decide +kernel
theorem dX1_heightOf_17 : decode cX1_heightOf 17 = .ok (.iconst 0, 1) := by decide +kernel
theorem dX1_heightOf_18 : decode cX1_heightOf 18 = .ok (.ireturn, 1) := by decide +kernel
theorem dX1_setHeight_0 : decode cX1_setHeight 0 = .ok (.aload_n 0, 1) := by decide +kernel
theorem dX1_setHeight_1 : decode cX1_setHeight 1 = .ok (.iload_n 1, 1) := by decide +kernel
theorem dX1_setHeight_2 : decode cX1_setHeight 2 = .ok (.invokevirtual 19, 3) := by decide +kernel
theorem dX1_setHeight_5 : decode cX1_setHeight 5 = .ok (.ifCond .eq 10, 3) := by decide +kernel
theorem dX1_setHeight_8 : decode cX1_setHeight 8 = .ok (.aload_n 0, 1) := by decide +kernel
theorem dX1_setHeight_9 : decode cX1_setHeight 9 = .ok (.getfield 9, 3) := by decide +kernel
theorem dX1_setHeight_12 : decode cX1_setHeight 12 = .ok (.iload_n 1, 1) := by decide +kernel
theorem dX1_setHeight_13 : decode cX1_setHeight 13 = .ok (.iload_n 2, 1) := by decide +kernel
theorem dX1_setHeight_14 : decode cX1_setHeight 14 = .ok (.iastore, 1) := by decide +kernel
theorem dX1_setHeight_15 : decode cX1_setHeight 15 = .ok (.return_, 1) := by decide +kernel
theorem dX1_isTaller_0 : decode cX1_isTaller 0 = .ok (.aload_n 0, 1) := by decide +kernel
theorem dX1_isTaller_1 : decode cX1_isTaller 1 = .ok (.iload_n 1, 1) := by decide +kernel
theorem dX1_isTaller_2 : decode cX1_isTaller 2 = .ok (.invokevirtual 19, 3) := by decide +kernel
theorem dX1_isTaller_5 : decode cX1_isTaller 5 = .ok (.ifCond .eq 30, 3) := by decide +kernel
theorem dX1_isTaller_8 : decode cX1_isTaller 8 = .ok (.aload_n 0, 1) := by decide +kernel
theorem dX1_isTaller_9 : decode cX1_isTaller 9 = .ok (.iload_n 2, 1) := by decide +kernel
theorem dX1_isTaller_10 : decode cX1_isTaller 10 = .ok (.invokevirtual 19, 3) := by decide +kernel
theorem dX1_isTaller_13 : decode cX1_isTaller 13 = .ok (.ifCond .eq 22, 3) := by decide +kernel
theorem dX1_isTaller_16 : decode cX1_isTaller 16 = .ok (.aload_n 0, 1) := by decide +kernel
theorem dX1_isTaller_17 : decode cX1_isTaller 17 = .ok (.getfield 9, 3) := by decide +kernel
theorem dX1_isTaller_20 : decode cX1_isTaller 20 = .ok (.iload_n 1, 1) := by decide +kernel
theorem dX1_isTaller_21 : decode cX1_isTaller 21 = .ok (.iaload, 1) := by decide +kernel
theorem dX1_isTaller_22 : decode cX1_isTaller 22 = .ok (.aload_n 0, 1) := by decide +kernel
theorem dX1_isTaller_23 : decode cX1_isTaller 23 = .ok (.getfield 9, 3) := by decide +kernel
theorem dX1_isTaller_26 : decode cX1_isTaller 26 = .ok (.iload_n 2, 1) := by decide +kernel
theorem dX1_isTaller_27 : decode cX1_isTaller 27 = .ok (.iaload, 1) := by decide +kernel
theorem dX1_isTaller_28 : decode cX1_isTaller 28 = .ok (.if_icmp .le 7, 3) := by decide +kernel
theorem dX1_isTaller_31 : decode cX1_isTaller 31 = .ok (.iconst 1, 1) := by decide +kernel
theorem dX1_isTaller_32 : decode cX1_isTaller 32 = .ok (.goto 4, 3) := by decide +kernel
theorem dX1_isTaller_35 : decode cX1_isTaller 35 = .ok (.iconst 0, 1) := by decide +kernel
theorem dX1_isTaller_36 : decode cX1_isTaller 36 = .ok (.ireturn, 1) := by decide +kernel
theorem dX1_heightGrown_0 : decode cX1_heightGrown 0 = .ok (.aload_n 0, 1) := by decide +kernel
theorem dX1_heightGrown_1 : decode cX1_heightGrown 1 = .ok (.iload_n 1, 1) := by decide +kernel
theorem dX1_heightGrown_2 : decode cX1_heightGrown 2 = .ok (.invokevirtual 27, 3) := by decide +kernel
theorem dX1_heightGrown_5 : decode cX1_heightGrown 5 = .ok (.iload_n 2, 1) := by decide +kernel
theorem dX1_heightGrown_6 : decode cX1_heightGrown 6 = .ok (.iadd, 1) := by decide +kernel
theorem dX1_heightGrown_7 : decode cX1_heightGrown 7 = .ok (.istore_n 3, 1) := by decide +kernel
theorem dX1_heightGrown_8 : decode cX1_heightGrown 8 = .ok (.iconst 0, 1) := by decide +kernel
theorem dX1_heightGrown_9 : decode cX1_heightGrown 9 = .ok (.istore 4, 2) := by decide +kernel
theorem dX1_heightGrown_11 : decode cX1_heightGrown 11 = .ok (.iload 4, 2) := by decide +kernel
theorem dX1_heightGrown_13 : decode cX1_heightGrown 13 = .ok (.aload_n 0, 1) := by decide +kernel
theorem dX1_heightGrown_14 : decode cX1_heightGrown 14 = .ok (.getfield 15, 3) := by decide +kernel
theorem dX1_heightGrown_17 : decode cX1_heightGrown 17 = .ok (.if_icmp .ge 21, 3) := by decide +kernel
theorem dX1_heightGrown_20 : decode cX1_heightGrown 20 = .ok (.aload_n 0, 1) := by decide +kernel
theorem dX1_heightGrown_21 : decode cX1_heightGrown 21 = .ok (.iload_n 3, 1) := by decide +kernel
theorem dX1_heightGrown_22 : decode cX1_heightGrown 22 = .ok (.iload_n 1, 1) := by decide +kernel
theorem dX1_heightGrown_23 : decode cX1_heightGrown 23 = .ok (.invokevirtual 23, 3) := by decide +kernel
theorem dX1_heightGrown_26 : decode cX1_heightGrown 26 = .ok (.ifCond .eq 12, 3) := by decide +kernel
theorem dX1_heightGrown_29 : decode cX1_heightGrown 29 = .ok (.iinc 3 1, 3) := by decide +kernel
theorem dX1_heightGrown_32 : decode cX1_heightGrown 32 = .ok (.iinc 4 1, 3) := by decide +kernel
theorem dX1_heightGrown_35 : decode cX1_heightGrown 35 = .ok (.goto (-24), 3) := by decide +kernel
theorem dX1_heightGrown_38 : decode cX1_heightGrown 38 = .ok (.iload_n 3, 1) := by decide +kernel
theorem dX1_heightGrown_39 : decode cX1_heightGrown 39 = .ok (.ireturn, 1) := by decide +kernel
theorem dX1_size_0 : decode cX1_size 0 = .ok (.aload_n 0, 1) := by decide +kernel
theorem dX1_size_1 : decode cX1_size 1 = .ok (.getfield 15, 3) := by decide +kernel
theorem dX1_size_4 : decode cX1_size 4 = .ok (.ireturn, 1) := by decide +kernel
theorem fl_X1_15 : Cond.fieldLink RX1 15 (TX1 1).1 (TX1 1).2.1 (TX1 1).2.2.1 ∈ wsL_law := (uw9 _ (List.mem_of_getElem? (i := 9) rfl))
theorem fl_X1_9 : Cond.fieldLink RX1 9 (TX1 0).1 (TX1 0).2.1 (TX1 0).2.2.1 ∈ wsL_law := (uw3 _ (List.mem_of_getElem? (i := 11) rfl))
theorem hy_X1_heightOf : Cond.code yX1_heightOf cX1_heightOf 2 (some .int) ∈ wsL_law ∧ Cond.initialized yX1_heightOf.cls ∈ wsL_law ∧ Cond.instanceMethod yX1_heightOf ∈ wsL_law ∧ Cond.selects yX1_heightOf.cls yX1_heightOf yX1_heightOf ∈ wsL_law := ⟨(uw13 _ (List.mem_of_getElem? (i := 1) rfl)), (uw1 _ (List.mem_of_getElem? (i := 15) rfl)), (uw12 _ (List.mem_of_getElem? (i := 23) rfl)), (uw13 _ (List.mem_of_getElem? (i := 0) rfl))⟩
theorem hd_X1_heightOf : yX1_heightOf.cls ≠ "java/lang/invoke/MethodHandle" ∧ yX1_heightOf.cls ≠ "java/lang/invoke/VarHandle" ∧ (parseMethodDescriptor yX1_heightOf.desc).map (fun d => d.parameters.length) = some 1 := ⟨by decide +kernel, by decide +kernel, by decide +kernel⟩
theorem hy_X1_isFree : Cond.code yX1_isFree cX1_isFree 3 (some .boolean) ∈ wsL_law ∧ Cond.initialized yX1_isFree.cls ∈ wsL_law ∧ Cond.instanceMethod yX1_isFree ∈ wsL_law ∧ Cond.selects yX1_isFree.cls yX1_isFree yX1_isFree ∈ wsL_law := ⟨(uw9 _ (List.mem_of_getElem? (i := 13) rfl)), (uw1 _ (List.mem_of_getElem? (i := 15) rfl)), (uw9 _ (List.mem_of_getElem? (i := 11) rfl)), (uw9 _ (List.mem_of_getElem? (i := 12) rfl))⟩
theorem hd_X1_isFree : yX1_isFree.cls ≠ "java/lang/invoke/MethodHandle" ∧ yX1_isFree.cls ≠ "java/lang/invoke/VarHandle" ∧ (parseMethodDescriptor yX1_isFree.desc).map (fun d => d.parameters.length) = some 2 := ⟨by decide +kernel, by decide +kernel, by decide +kernel⟩
theorem hy_X1_isOfAnother : Cond.code yX1_isOfAnother cX1_isOfAnother 4 (some .boolean) ∈ wsL_law ∧ Cond.initialized yX1_isOfAnother.cls ∈ wsL_law ∧ Cond.instanceMethod yX1_isOfAnother ∈ wsL_law ∧ Cond.selects yX1_isOfAnother.cls yX1_isOfAnother yX1_isOfAnother ∈ wsL_law := ⟨(uw9 _ (List.mem_of_getElem? (i := 17) rfl)), (uw1 _ (List.mem_of_getElem? (i := 15) rfl)), (uw9 _ (List.mem_of_getElem? (i := 15) rfl)), (uw9 _ (List.mem_of_getElem? (i := 16) rfl))⟩
theorem hd_X1_isOfAnother : yX1_isOfAnother.cls ≠ "java/lang/invoke/MethodHandle" ∧ yX1_isOfAnother.cls ≠ "java/lang/invoke/VarHandle" ∧ (parseMethodDescriptor yX1_isOfAnother.desc).map (fun d => d.parameters.length) = some 2 := ⟨by decide +kernel, by decide +kernel, by decide +kernel⟩
theorem hy_X1_isPerson : Cond.code yX1_isPerson cX1_isPerson 2 (some .boolean) ∈ wsL_law ∧ Cond.initialized yX1_isPerson.cls ∈ wsL_law ∧ Cond.instanceMethod yX1_isPerson ∈ wsL_law ∧ Cond.selects yX1_isPerson.cls yX1_isPerson yX1_isPerson ∈ wsL_law := ⟨(uw12 _ (List.mem_of_getElem? (i := 20) rfl)), (uw1 _ (List.mem_of_getElem? (i := 15) rfl)), (uw12 _ (List.mem_of_getElem? (i := 18) rfl)), (uw12 _ (List.mem_of_getElem? (i := 19) rfl))⟩
theorem hd_X1_isPerson : yX1_isPerson.cls ≠ "java/lang/invoke/MethodHandle" ∧ yX1_isPerson.cls ≠ "java/lang/invoke/VarHandle" ∧ (parseMethodDescriptor yX1_isPerson.desc).map (fun d => d.parameters.length) = some 1 := ⟨by decide +kernel, by decide +kernel, by decide +kernel⟩
theorem ml_X1_19 : Cond.methodLink RX1 19 yX1_isPerson ∈ wsL_law := (uw13 _ (List.mem_of_getElem? (i := 2) rfl))
theorem ml_X1_23 : Cond.methodLink RX1 23 yX1_isOfAnother ∈ wsL_law := (uw9 _ (List.mem_of_getElem? (i := 14) rfl))
theorem ml_X1_27 : Cond.methodLink RX1 27 yX1_heightOf ∈ wsL_law := (uw31 _ (List.mem_of_getElem? (i := 17) rfl))
theorem ml_X1_31 : Cond.methodLink RX1 31 yX1_isFree ∈ wsL_law := (uw9 _ (List.mem_of_getElem? (i := 10) rfl))
abbrev w_Crowd_isOfAnother (G : zG) (a_this : Nat) (a_heights : Nat) (people : Int32) (heights : Nat → Int32) : va_W := [(a_this, cO 1 [.ref a_heights, .int people]), (a_heights, cI G 9 heights)]
def f_Crowd_isOfAnother_L2 (people : Int32) (heights : Nat → Int32) (v1 : Int32) (v2 : Int32) : Nat → Int32 → Option (((Unit) ⊕ (Int32)))
  | 0, _ => none
  | fuel + 1, v3 => (if people ≤ v3 then (some (.inl ())) else (if v3 = v2 then (f_Crowd_isOfAnother_L2 people heights v1 v2 fuel (v3 + 1)) else (zg heights 9 v3 fun v_1 => (if v_1 = v1 then (some (.inr 1)) else (f_Crowd_isOfAnother_L2 people heights v1 v2 fuel (v3 + 1))))))
def f_Crowd_isOfAnother (people : Int32) (heights : Nat → Int32) (x1 : Int32) (x2 : Int32) : Option Int32 := (zbs0 (f_Crowd_isOfAnother_L2 people heights x1 x2 FU 0) ((some 0)) some)
set_option maxRecDepth 100000 in
set_option maxHeartbeats 4000000 in
theorem l_Crowd_isOfAnother_2 {X : zX} (G : zG) (a_this : Nat) (a_heights : Nat) (people : Int32) (heights : Nat → Int32) (v1 : Int32) (v2 : Int32) {v0 : Option Value} {w0 : va_W} (F : zF X G cX1_isOfAnother RX1 4 (some .boolean) 0 0 v0 w0) (out : ((Unit) ⊕ (Int32))) (hk : out = .inl () → Z X G 4 (w_Crowd_isOfAnother G a_this a_heights people heights) [] 33 []) (hr : ∀ q : Int32, out = .inr q → v0 = some (.int q) ∧ w0 = (w_Crowd_isOfAnother G a_this a_heights people heights)) :
    ∀ (fuel : Nat) (v3 : Int32), f_Crowd_isOfAnother_L2 people heights v1 v2 fuel v3 = some out → Z X G 4 (w_Crowd_isOfAnother G a_this a_heights people heights) [(0, .ref a_this), (1, .int v1), (2, .int v2), (3, .int v3)] 2 [] := by
  intro fuel
  induction fuel with
  | zero => intro v3 hf; exact absurd ((f_Crowd_isOfAnother_L2.eq_1 ..).symm.trans hf) (fun h => by cases h)
  | succ fuel ih =>
    intro v3 hf
    replace hf := (f_Crowd_isOfAnother_L2.eq_2 ..).symm.trans hf
    refine z_iload_n F 3 dX1_isOfAnother_2 rfl rfl ?_
    refine z_aload_n F 0 dX1_isOfAnother_3 rfl rfl ?_
    refine z_get F 0 1 1 inlX1 rfl rfl (by decide) fl_X1_15 rfl dX1_isOfAnother_4 ?_
    refine z_icmp_ge F 33 dX1_isOfAnother_7 (by decide) hf (fun hf _ => ?_) (fun hf _ => ?_)
    · exact z_sub [] rfl (hk  (Option.some.inj hf).symm)
    · refine z_iload_n F 3 dX1_isOfAnother_10 rfl rfl ?_
      refine z_iload_n F 2 dX1_isOfAnother_11 rfl rfl ?_
      refine z_icmp_eq F 27 dX1_isOfAnother_12 (by decide) hf (fun hf _ => ?_) (fun hf _ => ?_)
      · refine z_iinc F [(3, .int (v3 + 1)), (0, .ref a_this), (1, .int v1), (2, .int v2)] dX1_isOfAnother_27 3 rfl rfl (by decide) rfl ?_
        refine z_goto F 2 dX1_isOfAnother_30 (by decide) ?_
        exact z_sub [1, 2, 3, 0] rfl (ih (v3 + 1) hf)
      · refine z_aload_n F 0 dX1_isOfAnother_15 rfl rfl ?_
        refine z_get F 0 1 0 inlX1 rfl rfl (by decide) fl_X1_9 rfl dX1_isOfAnother_16 ?_
        refine z_iload_n F 3 dX1_isOfAnother_19 rfl rfl ?_
        refine z_iald F 1 rfl hf dX1_isOfAnother_20 (fun v_1 hf => ?_)
        refine z_iload_n F 1 dX1_isOfAnother_21 rfl rfl ?_
        refine z_icmp_ne F 27 dX1_isOfAnother_22 (by decide) hf (fun hf _ => ?_) (fun hf _ => ?_)
        · refine z_iinc F [(3, .int (v3 + 1)), (0, .ref a_this), (1, .int v1), (2, .int v2)] dX1_isOfAnother_27 3 rfl rfl (by decide) rfl ?_
          refine z_goto F 2 dX1_isOfAnother_30 (by decide) ?_
          exact z_sub [1, 2, 3, 0] rfl (ih (v3 + 1) hf)
        · refine z_iconst F (1) dX1_isOfAnother_25 rfl ?_
          obtain ⟨e1, e2⟩ := hr _ (Option.some.inj hf).symm
          exact z_iret F rfl rfl e1.symm e2.symm dX1_isOfAnother_26

set_option maxRecDepth 100000 in
set_option maxHeartbeats 4000000 in
theorem c_Crowd_isOfAnother (l : Launch) (G : zG) (a_this : Nat) (a_heights : Nat) (people : Int32) (heights : Nat → Int32) (x1 : Int32) (x2 : Int32) (r_ : Int32) (hf : f_Crowd_isOfAnother people heights x1 x2 = some r_) : zM l yX1_isOfAnother cX1_isOfAnother 4 (some .boolean) 0 0 G [.ref a_this, .int x1, .int x2] (w_Crowd_isOfAnother G a_this a_heights people heights) (some (.int r_)) (w_Crowd_isOfAnother G a_this a_heights people heights) := by
  refine zM.of [(0, .ref a_this), (1, .int x1), (2, .int x2)] (own := RX1) rfl (by decide +kernel) (Nat.le_of_ble_eq_true rfl) rfl rfl fun X hX F => ?_
  subst hX
  replace hf := (f_Crowd_isOfAnother.eq_1 ..).symm.trans hf
  refine z_iconst F (0) dX1_isOfAnother_0 rfl ?_
  refine z_istore_n F [(3, .int 0), (0, .ref a_this), (1, .int x1), (2, .int x2)] dX1_isOfAnother_1 rfl (by decide) rfl ?_
  obtain ⟨z_2, hg, hf1_3, hf2_4⟩ := zbs0_some hf
  refine z_sub [1, 2, 3, 0] rfl ?_
  refine l_Crowd_isOfAnother_2 G a_this a_heights people heights x1 x2 F z_2 (fun e => ?_) (fun q e => ?_) FU 0 hg
  · have hf := hf1_3 e
    refine z_iconst F (0) dX1_isOfAnother_33 rfl ?_
    have ee1 := Option.some.inj hf
    subst ee1
    exact z_iret F rfl rfl rfl rfl dX1_isOfAnother_34
  · have hf := hf2_4 _ e
    cases hf
    exact ⟨rfl, rfl⟩

abbrev w_Crowd_isFree (G : zG) (a_this : Nat) (a_heights : Nat) (people : Int32) (heights : Nat → Int32) : va_W := [(a_this, cO 1 [.ref a_heights, .int people]), (a_heights, cI G 9 heights)]
def f_Crowd_isFree (people : Int32) (heights : Nat → Int32) (x1 : Int32) (x2 : Int32) : Option Int32 := (if x1 < 1 then (some 0) else (if (99 : Int32) < x1 then (some 0) else (zb1 (f_Crowd_isOfAnother people heights x1 x2) fun r_1 => (if r_1 = 0 then (some 1) else (some 0)))))
set_option maxRecDepth 100000 in
set_option maxHeartbeats 4000000 in
theorem c_Crowd_isFree (l : Launch) (G : zG) (a_this : Nat) (a_heights : Nat) (people : Int32) (heights : Nat → Int32) (x1 : Int32) (x2 : Int32) (r_ : Int32) (hf : f_Crowd_isFree people heights x1 x2 = some r_) : zM l yX1_isFree cX1_isFree 3 (some .boolean) 1 23 G [.ref a_this, .int x1, .int x2] (w_Crowd_isFree G a_this a_heights people heights) (some (.int r_)) (w_Crowd_isFree G a_this a_heights people heights) := by
  refine zM.of [(0, .ref a_this), (1, .int x1), (2, .int x2)] (own := RX1) rfl (by decide +kernel) (Nat.le_of_ble_eq_true rfl) rfl rfl fun X hX F => ?_
  subst hX
  replace hf := (f_Crowd_isFree.eq_1 ..).symm.trans hf
  refine z_iload_n F 1 dX1_isFree_0 rfl rfl ?_
  refine z_iconst F (1) dX1_isFree_1 rfl ?_
  refine z_icmp_lt F 24 dX1_isFree_2 (by decide) hf (fun hf _ => ?_) (fun hf _ => ?_)
  · refine z_iconst F (0) dX1_isFree_24 rfl ?_
    have ee1 := Option.some.inj hf
    subst ee1
    exact z_iret F rfl rfl rfl rfl dX1_isFree_25
  · refine z_iload_n F 1 dX1_isFree_5 rfl rfl ?_
    refine z_bipush F (99) dX1_isFree_6 rfl ?_
    refine z_icmp_gt F 24 dX1_isFree_8 (by decide) hf (fun hf _ => ?_) (fun hf _ => ?_)
    · refine z_iconst F (0) dX1_isFree_24 rfl ?_
      have ee1 := Option.some.inj hf
      subst ee1
      exact z_iret F rfl rfl rfl rfl dX1_isFree_25
    · refine z_aload_n F 0 dX1_isFree_11 rfl rfl ?_
      refine z_iload_n F 1 dX1_isFree_12 rfl rfl ?_
      refine z_iload_n F 2 dX1_isFree_13 rfl rfl ?_
      obtain ⟨r_1, hg, hf⟩ := zb1_some hf
      refine z_callVm (rest := []) F 1 (c_Crowd_isOfAnother (xL X) G a_this a_heights people heights x1 x2 r_1 hg) hy_X1_isOfAnother ml_X1_23 hd_X1_isOfAnother ⟨by omega, by omega⟩ rfl [0, 1] rfl rfl 0 rfl rfl (w_Crowd_isFree G a_this a_heights people heights) [some 0, some 1] rfl (by decide +kernel) rfl rfl (Nat.le_of_ble_eq_true rfl) dX1_isFree_14 (fun hz_2 => ?_)
      refine z_if_ne F 24 dX1_isFree_17 (by decide) hf (fun hf _ => ?_) (fun hf _ => ?_)
      · refine z_iconst F (0) dX1_isFree_24 rfl ?_
        have ee1 := Option.some.inj hf
        subst ee1
        exact z_iret F rfl rfl rfl rfl dX1_isFree_25
      · refine z_iconst F (1) dX1_isFree_20 rfl ?_
        refine z_goto F 25 dX1_isFree_21 (by decide) ?_
        have ee1 := Option.some.inj hf
        subst ee1
        exact z_iret F rfl rfl rfl rfl dX1_isFree_25

abbrev w_Crowd_come (G : zG) (a_this : Nat) (a_heights : Nat) (people : Int32) (heights : Nat → Int32) : va_W := [(a_this, cO 1 [.ref a_heights, .int people]), (a_heights, cI G 9 heights)]
def f_Crowd_come (people : Int32) (heights : Nat → Int32) (x1 : Int32) : Option (Int32 × Int32 × (Nat → Int32)) := (zb1 (f_Crowd_isFree people heights x1 ((-1) : Int32)) fun r_1 => (if r_1 = 0 then (some ((-1), people, heights)) else (if people < 9 then (zs heights 9 people x1 fun heights_3 => (some (((people + (1 : Int32)) - (1 : Int32)), (people + (1 : Int32)), heights_3))) else (some ((-3), people, heights)))))
set_option maxRecDepth 100000 in
set_option maxHeartbeats 4000000 in
theorem c_Crowd_come (l : Launch) (G : zG) (a_this : Nat) (a_heights : Nat) (people : Int32) (heights : Nat → Int32) (x1 : Int32) (r_ : Int32) (o_people : Int32) (o_heights : Nat → Int32) (hf : f_Crowd_come people heights x1 = some (r_, o_people, o_heights)) : zM l yX1_come cX1_come 2 (some .int) 2 45 G [.ref a_this, .int x1] (w_Crowd_come G a_this a_heights people heights) (some (.int r_)) (w_Crowd_come G a_this a_heights o_people o_heights) := by
  refine zM.of [(0, .ref a_this), (1, .int x1)] (own := RX1) rfl (by decide +kernel) (Nat.le_of_ble_eq_true rfl) rfl rfl fun X hX F => ?_
  subst hX
  replace hf := (f_Crowd_come.eq_1 ..).symm.trans hf
  refine z_aload_n F 0 dX1_come_0 rfl rfl ?_
  refine z_iload_n F 1 dX1_come_1 rfl rfl ?_
  refine z_iconst F (-1) dX1_come_2 rfl ?_
  obtain ⟨r_1, hg, hf⟩ := zb1_some hf
  refine z_callVm (rest := []) F 1 (c_Crowd_isFree (xL X) G a_this a_heights people heights x1 (-1) r_1 hg) hy_X1_isFree ml_X1_31 hd_X1_isFree ⟨by omega, by omega⟩ rfl [0, 1] rfl rfl 0 rfl rfl (w_Crowd_come G a_this a_heights people heights) [some 0, some 1] rfl (by decide +kernel) rfl rfl (Nat.le_of_ble_eq_true rfl) dX1_come_3 (fun hz_2 => ?_)
  refine z_if_ne F 11 dX1_come_6 (by decide) hf (fun hf _ => ?_) (fun hf _ => ?_)
  · refine z_aload_n F 0 dX1_come_11 rfl rfl ?_
    refine z_get F 0 1 1 inlX1 rfl rfl (by decide) fl_X1_15 rfl dX1_come_12 ?_
    refine z_bipush F (9) dX1_come_15 rfl ?_
    refine z_icmp_lt F 23 dX1_come_17 (by decide) hf (fun hf _ => ?_) (fun hf _ => ?_)
    · refine z_aload_n F 0 dX1_come_23 rfl rfl ?_
      refine z_get F 0 1 0 inlX1 rfl rfl (by decide) fl_X1_9 rfl dX1_come_24 ?_
      refine z_aload_n F 0 dX1_come_27 rfl rfl ?_
      refine z_get F 0 1 1 inlX1 rfl rfl (by decide) fl_X1_15 rfl dX1_come_28 ?_
      refine z_iload_n F 1 dX1_come_31 rfl rfl ?_
      refine z_iast F 1 (fun heights_3 => (w_Crowd_come G a_this a_heights people heights_3)) rfl hf (fun _ => rfl) dX1_come_32 (fun heights_3 hf => ?_)
      refine z_aload_n F 0 dX1_come_33 rfl rfl ?_
      refine z_dup F rfl dX1_come_34 ?_
      refine z_get F 0 1 1 inlX1 rfl rfl (by decide) fl_X1_15 rfl dX1_come_35 ?_
      refine z_iconst F (1) dX1_come_38 rfl ?_
      refine z_iadd F dX1_come_39 ?_
      refine z_put F 0 1 1 (w_Crowd_come G a_this a_heights (people + (1 : Int32)) heights_3) inlX1 tyX1 tyX1_ok nmX1 rfl rfl (by decide) fl_X1_15 rfl rfl rfl (Nat.le_of_ble_eq_true rfl) rfl dX1_come_40 ?_
      refine z_aload_n F 0 dX1_come_43 rfl rfl ?_
      refine z_get F 0 1 1 inlX1 rfl rfl (by decide) fl_X1_15 rfl dX1_come_44 ?_
      refine z_iconst F (1) dX1_come_47 rfl ?_
      refine z_isub F dX1_come_48 ?_
      have eq1 := Option.some.inj hf
      obtain ⟨ee1, eq2⟩ := Prod.mk.inj eq1
      obtain ⟨ee2, ee3⟩ := Prod.mk.inj eq2
      subst ee1
      subst ee2
      subst ee3
      exact z_iret F rfl rfl rfl rfl dX1_come_49
    · refine z_bipush F (-3) dX1_come_20 rfl ?_
      have eq1 := Option.some.inj hf
      obtain ⟨ee1, eq2⟩ := Prod.mk.inj eq1
      obtain ⟨ee2, ee3⟩ := Prod.mk.inj eq2
      subst ee1
      subst ee2
      subst ee3
      exact z_iret F rfl rfl rfl rfl dX1_come_22
  · refine z_iconst F (-1) dX1_come_9 rfl ?_
    have eq1 := Option.some.inj hf
    obtain ⟨ee1, eq2⟩ := Prod.mk.inj eq1
    obtain ⟨ee2, ee3⟩ := Prod.mk.inj eq2
    subst ee1
    subst ee2
    subst ee3
    exact z_iret F rfl rfl rfl rfl dX1_come_10

abbrev w_Crowd_isPerson (G : zG) (a_this : Nat) (a_heights : Nat) (people : Int32) : va_W := [(a_this, cO 1 [.ref a_heights, .int people])]
def f_Crowd_isPerson (people : Int32) (x1 : Int32) : Int32 := (if x1 < 0 then 0 else (if people ≤ x1 then 0 else 1))
set_option maxRecDepth 100000 in
set_option maxHeartbeats 4000000 in
theorem c_Crowd_isPerson (l : Launch) (G : zG) (a_this : Nat) (a_heights : Nat) (people : Int32) (x1 : Int32) (r_ : Int32) (hf : f_Crowd_isPerson people x1 = r_) : zM l yX1_isPerson cX1_isPerson 2 (some .boolean) 0 0 G [.ref a_this, .int x1] (w_Crowd_isPerson G a_this a_heights people) (some (.int r_)) (w_Crowd_isPerson G a_this a_heights people) := by
  refine zM.of [(0, .ref a_this), (1, .int x1)] (own := RX1) rfl (by decide +kernel) (Nat.le_of_ble_eq_true rfl) rfl rfl fun X hX F => ?_
  subst hX
  replace hf := (f_Crowd_isPerson.eq_1 ..).symm.trans hf
  refine z_iload_n F 1 dX1_isPerson_0 rfl rfl ?_
  refine z_if_lt F 16 dX1_isPerson_1 (by decide) hf (fun hf _ => ?_) (fun hf _ => ?_)
  · refine z_iconst F (0) dX1_isPerson_16 rfl ?_
    subst hf
    exact z_iret F rfl rfl rfl rfl dX1_isPerson_17
  · refine z_iload_n F 1 dX1_isPerson_4 rfl rfl ?_
    refine z_aload_n F 0 dX1_isPerson_5 rfl rfl ?_
    refine z_get F 0 1 1 inlX1 rfl rfl (by decide) fl_X1_15 rfl dX1_isPerson_6 ?_
    refine z_icmp_ge F 16 dX1_isPerson_9 (by decide) hf (fun hf _ => ?_) (fun hf _ => ?_)
    · refine z_iconst F (0) dX1_isPerson_16 rfl ?_
      subst hf
      exact z_iret F rfl rfl rfl rfl dX1_isPerson_17
    · refine z_iconst F (1) dX1_isPerson_12 rfl ?_
      refine z_goto F 17 dX1_isPerson_13 (by decide) ?_
      subst hf
      exact z_iret F rfl rfl rfl rfl dX1_isPerson_17

abbrev w_Crowd_heightOf (G : zG) (a_this : Nat) (a_heights : Nat) (people : Int32) (heights : Nat → Int32) : va_W := [(a_this, cO 1 [.ref a_heights, .int people]), (a_heights, cI G 9 heights)]
def f_Crowd_heightOf (people : Int32) (heights : Nat → Int32) (x1 : Int32) : Option Int32 := (if (f_Crowd_isPerson people x1) = 0 then (some 0) else (zg heights 9 x1 fun v_2 => (some v_2)))
set_option maxRecDepth 100000 in
set_option maxHeartbeats 4000000 in
theorem c_Crowd_heightOf (l : Launch) (G : zG) (a_this : Nat) (a_heights : Nat) (people : Int32) (heights : Nat → Int32) (x1 : Int32) (r_ : Int32) (hf : f_Crowd_heightOf people heights x1 = some r_) : zM l yX1_heightOf cX1_heightOf 2 (some .int) 1 21 G [.ref a_this, .int x1] (w_Crowd_heightOf G a_this a_heights people heights) (some (.int r_)) (w_Crowd_heightOf G a_this a_heights people heights) := by
  refine zM.of [(0, .ref a_this), (1, .int x1)] (own := RX1) rfl (by decide +kernel) (Nat.le_of_ble_eq_true rfl) rfl rfl fun X hX F => ?_
  subst hX
  replace hf := (f_Crowd_heightOf.eq_1 ..).symm.trans hf
  refine z_aload_n F 0 dX1_heightOf_0 rfl rfl ?_
  refine z_iload_n F 1 dX1_heightOf_1 rfl rfl ?_
  refine z_callVm (rest := []) F 1 (c_Crowd_isPerson (xL X) G a_this a_heights people x1 _ rfl) hy_X1_isPerson ml_X1_19 hd_X1_isPerson ⟨by omega, by omega⟩ rfl [0] rfl rfl 0 rfl rfl (w_Crowd_heightOf G a_this a_heights people heights) [some 0, none] rfl (by decide +kernel) rfl rfl (Nat.le_of_ble_eq_true rfl) dX1_heightOf_2 (fun hz_1 => ?_)
  refine z_if_eq F 17 dX1_heightOf_5 (by decide) hf (fun hf _ => ?_) (fun hf _ => ?_)
  · refine z_iconst F (0) dX1_heightOf_17 rfl ?_
    have ee1 := Option.some.inj hf
    subst ee1
    exact z_iret F rfl rfl rfl rfl dX1_heightOf_18
  · refine z_aload_n F 0 dX1_heightOf_8 rfl rfl ?_
    refine z_get F 0 1 0 inlX1 rfl rfl (by decide) fl_X1_9 rfl dX1_heightOf_9 ?_
    refine z_iload_n F 1 dX1_heightOf_12 rfl rfl ?_
    refine z_iald F 1 rfl hf dX1_heightOf_13 (fun v_2 hf => ?_)
    refine z_goto F 18 dX1_heightOf_14 (by decide) ?_
    have ee1 := Option.some.inj hf
    subst ee1
    exact z_iret F rfl rfl rfl rfl dX1_heightOf_18

abbrev w_Crowd_setHeight (G : zG) (a_this : Nat) (a_heights : Nat) (people : Int32) (heights : Nat → Int32) : va_W := [(a_this, cO 1 [.ref a_heights, .int people]), (a_heights, cI G 9 heights)]
def f_Crowd_setHeight (people : Int32) (heights : Nat → Int32) (x1 : Int32) (x2 : Int32) : Option ((Nat → Int32)) := (if (f_Crowd_isPerson people x1) = 0 then (some heights) else (zs heights 9 x1 x2 fun heights_2 => (some heights_2)))
set_option maxRecDepth 100000 in
set_option maxHeartbeats 4000000 in
theorem c_Crowd_setHeight (l : Launch) (G : zG) (a_this : Nat) (a_heights : Nat) (people : Int32) (heights : Nat → Int32) (x1 : Int32) (x2 : Int32) (o_heights : Nat → Int32) (hf : f_Crowd_setHeight people heights x1 x2 = some o_heights) : zM l yX1_setHeight cX1_setHeight 3 none 1 21 G [.ref a_this, .int x1, .int x2] (w_Crowd_setHeight G a_this a_heights people heights) (none) (w_Crowd_setHeight G a_this a_heights people o_heights) := by
  refine zM.of [(0, .ref a_this), (1, .int x1), (2, .int x2)] (own := RX1) rfl (by decide +kernel) (Nat.le_of_ble_eq_true rfl) rfl rfl fun X hX F => ?_
  subst hX
  replace hf := (f_Crowd_setHeight.eq_1 ..).symm.trans hf
  refine z_aload_n F 0 dX1_setHeight_0 rfl rfl ?_
  refine z_iload_n F 1 dX1_setHeight_1 rfl rfl ?_
  refine z_callVm (rest := []) F 1 (c_Crowd_isPerson (xL X) G a_this a_heights people x1 _ rfl) hy_X1_isPerson ml_X1_19 hd_X1_isPerson ⟨by omega, by omega⟩ rfl [0] rfl rfl 0 rfl rfl (w_Crowd_setHeight G a_this a_heights people heights) [some 0, none] rfl (by decide +kernel) rfl rfl (Nat.le_of_ble_eq_true rfl) dX1_setHeight_2 (fun hz_1 => ?_)
  refine z_if_eq F 15 dX1_setHeight_5 (by decide) hf (fun hf _ => ?_) (fun hf _ => ?_)
  · have ee1 := Option.some.inj hf
    subst ee1
    exact z_vret F rfl rfl rfl dX1_setHeight_15
  · refine z_aload_n F 0 dX1_setHeight_8 rfl rfl ?_
    refine z_get F 0 1 0 inlX1 rfl rfl (by decide) fl_X1_9 rfl dX1_setHeight_9 ?_
    refine z_iload_n F 1 dX1_setHeight_12 rfl rfl ?_
    refine z_iload_n F 2 dX1_setHeight_13 rfl rfl ?_
    refine z_iast F 1 (fun heights_2 => (w_Crowd_setHeight G a_this a_heights people heights_2)) rfl hf (fun _ => rfl) dX1_setHeight_14 (fun heights_2 hf => ?_)
    have ee1 := Option.some.inj hf
    subst ee1
    exact z_vret F rfl rfl rfl dX1_setHeight_15

abbrev w_Crowd_isTaller (G : zG) (a_this : Nat) (a_heights : Nat) (people : Int32) (heights : Nat → Int32) : va_W := [(a_this, cO 1 [.ref a_heights, .int people]), (a_heights, cI G 9 heights)]
def f_Crowd_isTaller (people : Int32) (heights : Nat → Int32) (x1 : Int32) (x2 : Int32) : Option Int32 := (if (f_Crowd_isPerson people x1) = 0 then (some 0) else (if (f_Crowd_isPerson people x2) = 0 then (some 0) else (zg heights 9 x1 fun v_3 => (zg heights 9 x2 fun v_4 => (if v_3 ≤ v_4 then (some 0) else (some 1))))))
set_option maxRecDepth 100000 in
set_option maxHeartbeats 4000000 in
theorem c_Crowd_isTaller (l : Launch) (G : zG) (a_this : Nat) (a_heights : Nat) (people : Int32) (heights : Nat → Int32) (x1 : Int32) (x2 : Int32) (r_ : Int32) (hf : f_Crowd_isTaller people heights x1 x2 = some r_) : zM l yX1_isTaller cX1_isTaller 3 (some .boolean) 1 21 G [.ref a_this, .int x1, .int x2] (w_Crowd_isTaller G a_this a_heights people heights) (some (.int r_)) (w_Crowd_isTaller G a_this a_heights people heights) := by
  refine zM.of [(0, .ref a_this), (1, .int x1), (2, .int x2)] (own := RX1) rfl (by decide +kernel) (Nat.le_of_ble_eq_true rfl) rfl rfl fun X hX F => ?_
  subst hX
  replace hf := (f_Crowd_isTaller.eq_1 ..).symm.trans hf
  refine z_aload_n F 0 dX1_isTaller_0 rfl rfl ?_
  refine z_iload_n F 1 dX1_isTaller_1 rfl rfl ?_
  refine z_callVm (rest := []) F 1 (c_Crowd_isPerson (xL X) G a_this a_heights people x1 _ rfl) hy_X1_isPerson ml_X1_19 hd_X1_isPerson ⟨by omega, by omega⟩ rfl [0] rfl rfl 0 rfl rfl (w_Crowd_isTaller G a_this a_heights people heights) [some 0, none] rfl (by decide +kernel) rfl rfl (Nat.le_of_ble_eq_true rfl) dX1_isTaller_2 (fun hz_1 => ?_)
  refine z_if_eq F 35 dX1_isTaller_5 (by decide) hf (fun hf _ => ?_) (fun hf _ => ?_)
  · refine z_iconst F (0) dX1_isTaller_35 rfl ?_
    have ee1 := Option.some.inj hf
    subst ee1
    exact z_iret F rfl rfl rfl rfl dX1_isTaller_36
  · refine z_aload_n F 0 dX1_isTaller_8 rfl rfl ?_
    refine z_iload_n F 2 dX1_isTaller_9 rfl rfl ?_
    refine z_callVm (rest := []) F 1 (c_Crowd_isPerson (xL X) G a_this a_heights people x2 _ rfl) hy_X1_isPerson ml_X1_19 hd_X1_isPerson ⟨by omega, by omega⟩ rfl [0] rfl rfl 0 rfl rfl (w_Crowd_isTaller G a_this a_heights people heights) [some 0, none] rfl (by decide +kernel) rfl rfl (Nat.le_of_ble_eq_true rfl) dX1_isTaller_10 (fun hz_2 => ?_)
    refine z_if_eq F 35 dX1_isTaller_13 (by decide) hf (fun hf _ => ?_) (fun hf _ => ?_)
    · refine z_iconst F (0) dX1_isTaller_35 rfl ?_
      have ee1 := Option.some.inj hf
      subst ee1
      exact z_iret F rfl rfl rfl rfl dX1_isTaller_36
    · refine z_aload_n F 0 dX1_isTaller_16 rfl rfl ?_
      refine z_get F 0 1 0 inlX1 rfl rfl (by decide) fl_X1_9 rfl dX1_isTaller_17 ?_
      refine z_iload_n F 1 dX1_isTaller_20 rfl rfl ?_
      refine z_iald F 1 rfl hf dX1_isTaller_21 (fun v_3 hf => ?_)
      refine z_aload_n F 0 dX1_isTaller_22 rfl rfl ?_
      refine z_get F 0 1 0 inlX1 rfl rfl (by decide) fl_X1_9 rfl dX1_isTaller_23 ?_
      refine z_iload_n F 2 dX1_isTaller_26 rfl rfl ?_
      refine z_iald F 1 rfl hf dX1_isTaller_27 (fun v_4 hf => ?_)
      refine z_icmp_le F 35 dX1_isTaller_28 (by decide) hf (fun hf _ => ?_) (fun hf _ => ?_)
      · refine z_iconst F (0) dX1_isTaller_35 rfl ?_
        have ee1 := Option.some.inj hf
        subst ee1
        exact z_iret F rfl rfl rfl rfl dX1_isTaller_36
      · refine z_iconst F (1) dX1_isTaller_31 rfl ?_
        refine z_goto F 36 dX1_isTaller_32 (by decide) ?_
        have ee1 := Option.some.inj hf
        subst ee1
        exact z_iret F rfl rfl rfl rfl dX1_isTaller_36

abbrev w_Crowd_heightGrown (G : zG) (a_this : Nat) (a_heights : Nat) (people : Int32) (heights : Nat → Int32) : va_W := [(a_this, cO 1 [.ref a_heights, .int people]), (a_heights, cI G 9 heights)]
def f_Crowd_heightGrown_L11 (people : Int32) (heights : Nat → Int32) (v1 : Int32) : Nat → Int32 → Int32 → Option Int32
  | 0, _, _ => none
  | fuel + 1, v3, v4 => (if people ≤ v4 then (some v3) else (zb1 (f_Crowd_isOfAnother people heights v3 v1) fun r_3 => (if r_3 = 0 then (some v3) else (f_Crowd_heightGrown_L11 people heights v1 fuel (v3 + 1) (v4 + 1)))))
def f_Crowd_heightGrown (people : Int32) (heights : Nat → Int32) (x1 : Int32) (x2 : Int32) : Option Int32 := (zb1 (f_Crowd_heightOf people heights x1) fun r_1 => (zb1 (f_Crowd_heightGrown_L11 people heights x1 FU (r_1 + x2) 0) fun v3_5 => (some v3_5)))
set_option maxRecDepth 100000 in
set_option maxHeartbeats 4000000 in
theorem l_Crowd_heightGrown_11 {X : zX} (G : zG) (a_this : Nat) (a_heights : Nat) (people : Int32) (heights : Nat → Int32) (v1 : Int32) {v0 : Option Value} {w0 : va_W} (F : zF X G cX1_heightGrown RX1 5 (some .int) 2 42 v0 w0) (e_v3 : Int32) (hk : Z X G 5 (w_Crowd_heightGrown G a_this a_heights people heights) [(3, .int e_v3)] 38 []) :
    ∀ (fuel : Nat) (v3 : Int32) (v4 : Int32), f_Crowd_heightGrown_L11 people heights v1 fuel v3 v4 = some e_v3 → Z X G 5 (w_Crowd_heightGrown G a_this a_heights people heights) [(0, .ref a_this), (1, .int v1), (3, .int v3), (4, .int v4)] 11 [] := by
  intro fuel
  induction fuel with
  | zero => intro v3 v4 hf; exact absurd ((f_Crowd_heightGrown_L11.eq_1 ..).symm.trans hf) (fun h => by cases h)
  | succ fuel ih =>
    intro v3 v4 hf
    replace hf := (f_Crowd_heightGrown_L11.eq_2 ..).symm.trans hf
    refine z_iload F 3 dX1_heightGrown_11 rfl ?_
    refine z_aload_n F 0 dX1_heightGrown_13 rfl rfl ?_
    refine z_get F 0 1 1 inlX1 rfl rfl (by decide) fl_X1_15 rfl dX1_heightGrown_14 ?_
    refine z_icmp_ge F 38 dX1_heightGrown_17 (by decide) hf (fun hf _ => ?_) (fun hf _ => ?_)
    · have ee1 := Option.some.inj hf
      subst ee1
      exact z_sub [2] rfl hk
    · refine z_aload_n F 0 dX1_heightGrown_20 rfl rfl ?_
      refine z_iload_n F 2 dX1_heightGrown_21 rfl rfl ?_
      refine z_iload_n F 1 dX1_heightGrown_22 rfl rfl ?_
      obtain ⟨r_3, hg, hf⟩ := zb1_some hf
      refine z_callVm (rest := []) F 1 (c_Crowd_isOfAnother (xL X) G a_this a_heights people heights v3 v1 r_3 hg) hy_X1_isOfAnother ml_X1_23 hd_X1_isOfAnother ⟨by omega, by omega⟩ rfl [0, 1] rfl rfl 0 rfl rfl (w_Crowd_heightGrown G a_this a_heights people heights) [some 0, some 1] rfl (by decide +kernel) rfl rfl (Nat.le_of_ble_eq_true rfl) dX1_heightGrown_23 (fun hz_4 => ?_)
      refine z_if_eq F 38 dX1_heightGrown_26 (by decide) hf (fun hf _ => ?_) (fun hf _ => ?_)
      · have ee1 := Option.some.inj hf
        subst ee1
        exact z_sub [2] rfl hk
      · refine z_iinc F [(3, .int (v3 + 1)), (0, .ref a_this), (1, .int v1), (4, .int v4)] dX1_heightGrown_29 2 rfl rfl (by decide) rfl ?_
        refine z_iinc F [(4, .int (v4 + 1)), (3, .int (v3 + 1)), (0, .ref a_this), (1, .int v1)] dX1_heightGrown_32 3 rfl rfl (by decide) rfl ?_
        refine z_goto F 11 dX1_heightGrown_35 (by decide) ?_
        exact z_sub [2, 3, 1, 0] rfl (ih (v3 + 1) (v4 + 1) hf)

set_option maxRecDepth 100000 in
set_option maxHeartbeats 4000000 in
theorem c_Crowd_heightGrown (l : Launch) (G : zG) (a_this : Nat) (a_heights : Nat) (people : Int32) (heights : Nat → Int32) (x1 : Int32) (x2 : Int32) (r_ : Int32) (hf : f_Crowd_heightGrown people heights x1 x2 = some r_) : zM l yX1_heightGrown cX1_heightGrown 5 (some .int) 2 42 G [.ref a_this, .int x1, .int x2] (w_Crowd_heightGrown G a_this a_heights people heights) (some (.int r_)) (w_Crowd_heightGrown G a_this a_heights people heights) := by
  refine zM.of [(0, .ref a_this), (1, .int x1), (2, .int x2)] (own := RX1) rfl (by decide +kernel) (Nat.le_of_ble_eq_true rfl) rfl rfl fun X hX F => ?_
  subst hX
  replace hf := (f_Crowd_heightGrown.eq_1 ..).symm.trans hf
  refine z_aload_n F 0 dX1_heightGrown_0 rfl rfl ?_
  refine z_iload_n F 1 dX1_heightGrown_1 rfl rfl ?_
  obtain ⟨r_1, hg, hf⟩ := zb1_some hf
  refine z_callVm (rest := []) F 1 (c_Crowd_heightOf (xL X) G a_this a_heights people heights x1 r_1 hg) hy_X1_heightOf ml_X1_27 hd_X1_heightOf ⟨by omega, by omega⟩ rfl [0, 1] rfl rfl 0 rfl rfl (w_Crowd_heightGrown G a_this a_heights people heights) [some 0, some 1] rfl (by decide +kernel) rfl rfl (Nat.le_of_ble_eq_true rfl) dX1_heightGrown_2 (fun hz_2 => ?_)
  refine z_iload_n F 2 dX1_heightGrown_5 rfl rfl ?_
  refine z_iadd F dX1_heightGrown_6 ?_
  refine z_istore_n F [(3, .int (r_1 + x2)), (0, .ref a_this), (1, .int x1), (2, .int x2)] dX1_heightGrown_7 rfl (by decide) rfl ?_
  refine z_iconst F (0) dX1_heightGrown_8 rfl ?_
  refine z_istore F [(4, .int 0), (3, .int (r_1 + x2)), (0, .ref a_this), (1, .int x1), (2, .int x2)] dX1_heightGrown_9 (by decide) rfl ?_
  obtain ⟨v3_5, hg, hf⟩ := zb1_some hf
  refine z_sub [2, 3, 1, 0] rfl ?_
  refine l_Crowd_heightGrown_11 G a_this a_heights people heights x1 F v3_5 ?_ FU (r_1 + x2) 0 hg
  refine z_iload_n F 0 dX1_heightGrown_38 rfl rfl ?_
  have ee1 := Option.some.inj hf
  subst ee1
  exact z_iret F rfl rfl rfl rfl dX1_heightGrown_39

abbrev w_Crowd_size (G : zG) (a_this : Nat) (a_heights : Nat) (people : Int32) : va_W := [(a_this, cO 1 [.ref a_heights, .int people])]
def f_Crowd_size (people : Int32) : Int32 := people
set_option maxRecDepth 100000 in
set_option maxHeartbeats 4000000 in
theorem c_Crowd_size (l : Launch) (G : zG) (a_this : Nat) (a_heights : Nat) (people : Int32) (r_ : Int32) (hf : f_Crowd_size people = r_) : zM l yX1_size cX1_size 1 (some .int) 0 0 G [.ref a_this] (w_Crowd_size G a_this a_heights people) (some (.int r_)) (w_Crowd_size G a_this a_heights people) := by
  refine zM.of [(0, .ref a_this)] (own := RX1) rfl (by decide +kernel) (Nat.le_of_ble_eq_true rfl) rfl rfl fun X hX F => ?_
  subst hX
  replace hf := (f_Crowd_size.eq_1 ..).symm.trans hf
  refine z_aload_n F 0 dX1_size_0 rfl rfl ?_
  refine z_get F 0 1 1 inlX1 rfl rfl (by decide) fl_X1_15 rfl dX1_size_1 ?_
  subst hf
  exact z_iret F rfl rfl rfl rfl dX1_size_4

