/-! by program (wip/whole/gen.py): pure functions and contracts -/
theorem dX12_taken_0 : decode cX12_taken 0 = .ok (.iload_n 1, 1) := by decide +kernel
theorem dX12_taken_1 : decode cX12_taken 1 = .ok (.invokestatic 113, 3) := by decide +kernel
theorem dX12_taken_4 : decode cX12_taken 4 = .ok (.ifCond .eq 15, 3) := by decide +kernel
theorem dX12_taken_7 : decode cX12_taken 7 = .ok (.iload_n 2, 1) := by decide +kernel
theorem dX12_taken_8 : decode cX12_taken 8 = .ok (.i2l, 1) := by decide +kernel
theorem dX12_taken_9 : decode cX12_taken 9 = .ok (.lconst 0, 1) := by decide +kernel
theorem dX12_taken_10 : decode cX12_taken 10 = .ok (.ldc2_w 333, 3) := by decide +kernel
theorem dX12_taken_13 : decode cX12_taken 13 = .ok (.invokestatic 96, 3) := by decide +kernel
theorem dX12_taken_16 : decode cX12_taken 16 = .ok (.ifCond .ne 5, 3) := by decide +kernel
theorem dX12_taken_19 : decode cX12_taken 19 = .ok (.iconst (-1), 1) := by decide +kernel
theorem dX12_taken_20 : decode cX12_taken 20 = .ok (.ireturn, 1) := by decide +kernel
theorem dX12_taken_21 : decode cX12_taken 21 = .ok (.aload_n 0, 1) := by decide +kernel
theorem dX12_taken_22 : decode cX12_taken 22 = .ok (.getfield 76, 3) := by decide +kernel
theorem dX12_taken_25 : decode cX12_taken 25 = .ok (.iload_n 1, 1) := by decide +kernel
theorem dX12_taken_26 : decode cX12_taken 26 = .ok (.iaload, 1) := by decide +kernel
theorem dX12_taken_27 : decode cX12_taken 27 = .ok (.ifCond .ge 6, 3) := by decide +kernel
theorem dX12_taken_30 : decode cX12_taken 30 = .ok (.bipush (-11), 2) := by decide +kernel
theorem dX12_taken_32 : decode cX12_taken 32 = .ok (.ireturn, 1) := by decide +kernel
theorem dX12_taken_33 : decode cX12_taken 33 = .ok (.aload_n 0, 1) := by decide +kernel
theorem dX12_taken_34 : decode cX12_taken 34 = .ok (.getfield 76, 3) := by decide +kernel
theorem dX12_taken_37 : decode cX12_taken 37 = .ok (.iload_n 1, 1) := by decide +kernel
theorem dX12_taken_38 : decode cX12_taken 38 = .ok (.iaload, 1) := by decide +kernel
theorem dX12_taken_39 : decode cX12_taken 39 = .ok (.bipush 50, 2) := by decide +kernel
theorem dX12_taken_41 : decode cX12_taken 41 = .ok (.if_icmp .lt 6, 3) := by decide +kernel
theorem dX12_taken_44 : decode cX12_taken 44 = .ok (.bipush (-12), 2) := by decide +kernel
theorem dX12_taken_46 : decode cX12_taken 46 = .ok (.ireturn, 1) := by decide +kernel
theorem dX12_taken_47 : decode cX12_taken 47 = .ok (.aload_n 0, 1) := by decide +kernel
theorem dX12_taken_48 : decode cX12_taken 48 = .ok (.aload_n 0, 1) := by decide +kernel
theorem dX12_taken_49 : decode cX12_taken 49 = .ok (.getfield 76, 3) := by decide +kernel
theorem dX12_taken_52 : decode cX12_taken 52 = .ok (.iload_n 1, 1) := by decide +kernel
theorem dX12_taken_53 : decode cX12_taken 53 = .ok (.iaload, 1) := by decide +kernel
theorem dX12_taken_54 : decode cX12_taken 54 = .ok (.invokevirtual 375, 3) := by decide +kernel
theorem dX12_taken_57 : decode cX12_taken 57 = .ok (.istore_n 3, 1) := by decide +kernel
theorem dX12_taken_58 : decode cX12_taken 58 = .ok (.iload_n 3, 1) := by decide +kernel
theorem dX12_taken_59 : decode cX12_taken 59 = .ok (.iload_n 2, 1) := by decide +kernel
theorem dX12_taken_60 : decode cX12_taken 60 = .ok (.if_icmp .eq 15, 3) := by decide +kernel
theorem dX12_taken_63 : decode cX12_taken 63 = .ok (.iload_n 3, 1) := by decide +kernel
theorem dX12_taken_64 : decode cX12_taken 64 = .ok (.ifCond .le 11, 3) := by decide +kernel
theorem dX12_taken_67 : decode cX12_taken 67 = .ok (.iload_n 3, 1) := by decide +kernel
theorem dX12_taken_68 : decode cX12_taken 68 = .ok (.invokestatic 378, 3) := by decide +kernel
theorem dX12_taken_71 : decode cX12_taken 71 = .ok (.istore_n 3, 1) := by decide +kernel
theorem dX12_taken_72 : decode cX12_taken 72 = .ok (.goto (-14), 3) := by decide +kernel
theorem dX12_taken_75 : decode cX12_taken 75 = .ok (.iload_n 3, 1) := by decide +kernel
theorem dX12_taken_76 : decode cX12_taken 76 = .ok (.iload_n 2, 1) := by decide +kernel
theorem dX12_taken_77 : decode cX12_taken 77 = .ok (.if_icmp .ne 16, 3) := by decide +kernel
theorem dX12_taken_80 : decode cX12_taken 80 = .ok (.aload_n 0, 1) := by decide +kernel
theorem dX12_taken_81 : decode cX12_taken 81 = .ok (.aload_n 0, 1) := by decide +kernel
theorem dX12_taken_82 : decode cX12_taken 82 = .ok (.getfield 76, 3) := by decide +kernel
theorem dX12_taken_85 : decode cX12_taken 85 = .ok (.iload_n 1, 1) := by decide +kernel
theorem dX12_taken_86 : decode cX12_taken 86 = .ok (.iaload, 1) := by decide +kernel
theorem dX12_taken_87 : decode cX12_taken 87 = .ok (.invokevirtual 375, 3) := by decide +kernel
theorem dX12_taken_90 : decode cX12_taken 90 = .ok (.goto 5, 3) := by decide +kernel
theorem dX12_taken_93 : decode cX12_taken 93 = .ok (.bipush (-12), 2) := by decide +kernel
theorem dX12_taken_95 : decode cX12_taken 95 = .ok (.ireturn, 1) := by decide +kernel
theorem dX12_count_0 : decode cX12_count 0 = .ok (.iload_n 1, 1) := by decide +kernel
theorem dX12_count_1 : decode cX12_count 1 = .ok (.tableswitch 78 0 6 #[43, 48, 53, 58, 63, 68, 73], 43) := by decide +kernel
theorem dX12_count_44 : decode cX12_count 44 = .ok (.aload_n 0, 1) := by decide +kernel
theorem dX12_count_45 : decode cX12_count 45 = .ok (.getfield 93, 3) := by decide +kernel
theorem dX12_count_48 : decode cX12_count 48 = .ok (.ireturn, 1) := by decide +kernel
theorem dX12_count_49 : decode cX12_count 49 = .ok (.aload_n 0, 1) := by decide +kernel
theorem dX12_count_50 : decode cX12_count 50 = .ok (.getfield 100, 3) := by decide +kernel
theorem dX12_count_53 : decode cX12_count 53 = .ok (.ireturn, 1) := by decide +kernel
theorem dX12_count_54 : decode cX12_count 54 = .ok (.aload_n 0, 1) := by decide +kernel
theorem dX12_count_55 : decode cX12_count 55 = .ok (.getfield 242, 3) := by decide +kernel
theorem dX12_count_58 : decode cX12_count 58 = .ok (.ireturn, 1) := by decide +kernel
theorem dX12_count_59 : decode cX12_count 59 = .ok (.aload_n 0, 1) := by decide +kernel
theorem dX12_count_60 : decode cX12_count 60 = .ok (.getfield 130, 3) := by decide +kernel
theorem dX12_count_63 : decode cX12_count 63 = .ok (.ireturn, 1) := by decide +kernel
theorem dX12_count_64 : decode cX12_count 64 = .ok (.aload_n 0, 1) := by decide +kernel
theorem dX12_count_65 : decode cX12_count 65 = .ok (.getfield 122, 3) := by decide +kernel
theorem dX12_count_68 : decode cX12_count 68 = .ok (.ireturn, 1) := by decide +kernel
theorem dX12_count_69 : decode cX12_count 69 = .ok (.aload_n 0, 1) := by decide +kernel
theorem dX12_count_70 : decode cX12_count 70 = .ok (.getfield 330, 3) := by decide +kernel
theorem dX12_count_73 : decode cX12_count 73 = .ok (.ireturn, 1) := by decide +kernel
theorem dX12_count_74 : decode cX12_count 74 = .ok (.aload_n 0, 1) := by decide +kernel
theorem dX12_count_75 : decode cX12_count 75 = .ok (.getfield 335, 3) := by decide +kernel
theorem dX12_count_78 : decode cX12_count 78 = .ok (.ireturn, 1) := by decide +kernel
theorem dX12_count_79 : decode cX12_count 79 = .ok (.iconst (-1), 1) := by decide +kernel
theorem dX12_count_80 : decode cX12_count 80 = .ok (.ireturn, 1) := by decide +kernel
theorem hy_X12_above : Cond.code yX12_above cX12_above 1 (some .int) ∈ wsL_law ∧ Cond.initialized yX12_above.cls ∈ wsL_law ∧ Cond.static yX12_above ∈ wsL_law := ⟨(uw58 _ (List.mem_of_getElem? (i := 22) rfl)), (uw1 _ (List.mem_of_getElem? (i := 5) rfl)), (uw58 _ (List.mem_of_getElem? (i := 21) rfl))⟩
theorem hd_X12_above : yX12_above.cls ≠ "java/lang/invoke/MethodHandle" ∧ yX12_above.cls ≠ "java/lang/invoke/VarHandle" ∧ (parseMethodDescriptor yX12_above.desc).map (fun d => d.parameters.length) = some 1 := ⟨by decide +kernel, by decide +kernel, by decide +kernel⟩
theorem hy_X12_kindOf : Cond.code yX12_kindOf cX12_kindOf 2 (some .int) ∈ wsL_law ∧ Cond.initialized yX12_kindOf.cls ∈ wsL_law ∧ Cond.instanceMethod yX12_kindOf ∈ wsL_law ∧ Cond.selects yX12_kindOf.cls yX12_kindOf yX12_kindOf ∈ wsL_law := ⟨(uw58 _ (List.mem_of_getElem? (i := 19) rfl)), (uw1 _ (List.mem_of_getElem? (i := 5) rfl)), (uw58 _ (List.mem_of_getElem? (i := 17) rfl)), (uw58 _ (List.mem_of_getElem? (i := 18) rfl))⟩
theorem hd_X12_kindOf : yX12_kindOf.cls ≠ "java/lang/invoke/MethodHandle" ∧ yX12_kindOf.cls ≠ "java/lang/invoke/VarHandle" ∧ (parseMethodDescriptor yX12_kindOf.desc).map (fun d => d.parameters.length) = some 1 := ⟨by decide +kernel, by decide +kernel, by decide +kernel⟩
theorem ml_X12_375 : Cond.methodLink RX12 375 yX12_kindOf ∈ wsL_law := (uw58 _ (List.mem_of_getElem? (i := 16) rfl))
theorem ml_X12_378 : Cond.methodLink RX12 378 yX12_above ∈ wsL_law := (uw58 _ (List.mem_of_getElem? (i := 20) rfl))
abbrev w_M_taken (G : zG) (a_this : Nat) (a_height : Nat) (a_changeAt : Nat) (a_changeWas : Nat) (a_changeIs : Nat) (a_tape : Nat) (a_text : Nat) (a_names : Nat) (a_line : Nat) (a_row : Nat) (a_pastMany : Nat) (a_past : Nat) (a_changed : Nat) (a_greatest : Nat) (a_numbersWere : Nat) (a_told : Nat) (a_waysOf : Nat) (a_waysWere : Nat) (a_blocks : Nat) (a_ordersOf : Nat) (a_imageLine : Nat) (a_bodyKind : Nat) (a_trace : Nat) (a_shelf : Nat) (a_many : Nat) (a_items : Nat) (a_carried : Nat) (people : Int32) (keptMany : Int32) (done : Int32) (tapeMany : Int32) (textMany : Int32) (base : Int32) (at_ : Int32) (ends : Int32) (fault : Int32) (opened : Int32) (lineMany : Int32) (rowMany : Int32) (taller : Int32) (tallerBy : Int32) (pasts : Int32) (isKept : Int32) (imageMany : Int32) (bodies : Int32) (ran : Int32) (ownKind : Int32) (ownNumber : Int32) (bodyKind : Nat → Int32) (shelf : Nat → Int32) : va_W := [(a_this, cO 12 [.int people, .ref a_height, .ref a_changeAt, .ref a_changeWas, .ref a_changeIs, .int keptMany, .int done, .ref a_tape, .int tapeMany, .ref a_text, .int textMany, .int base, .int at_, .int ends, .int fault, .int opened, .ref a_names, .ref a_line, .int lineMany, .ref a_row, .int rowMany, .int taller, .int tallerBy, .ref a_pastMany, .ref a_past, .int pasts, .ref a_changed, .ref a_greatest, .ref a_numbersWere, .ref a_told, .ref a_waysOf, .ref a_waysWere, .ref a_blocks, .ref a_ordersOf, .int isKept, .int imageMany, .ref a_imageLine, .int bodies, .ref a_bodyKind, .ref a_trace, .int ran, .int ownKind, .int ownNumber, .ref a_shelf, .ref a_many, .ref a_items, .ref a_carried]), (a_bodyKind, cI G 50 bodyKind), (a_shelf, cI G 6 shelf)]
def f_M_taken_L58 (v2 : Int32) : Nat → Int32 → Option Int32
  | 0, _ => none
  | fuel + 1, v3 => (if v3 = v2 then (some v3) else (if v3 ≤ 0 then (some v3) else (f_M_taken_L58 v2 fuel (f_M_above v3))))
def f_M_taken (bodyKind : Nat → Int32) (shelf : Nat → Int32) (x1 : Int32) (x2 : Int32) : Option Int32 := (if (f_M_isShelf x1) = 0 then (some (-1)) else (if (f_M_within (Int32.toInt64 x2) 0 7) = 0 then (some (-1)) else (zg shelf 6 x1 fun v_3 => (if (0 : Int32) ≤ v_3 then (zg shelf 6 x1 fun v_4 => (if v_4 < 50 then (zg shelf 6 x1 fun v_5 => (zb1 (f_M_kindOf bodyKind v_5) fun r_6 => (zb1 (f_M_taken_L58 x2 FU r_6) fun v3_9 => (if v3_9 = x2 then (zg shelf 6 x1 fun v_10 => (zb1 (f_M_kindOf bodyKind v_10) fun r_11 => (some r_11))) else (some (-12)))))) else (some (-12)))) else (some (-11))))))
set_option maxRecDepth 100000 in
set_option maxHeartbeats 4000000 in
theorem l_M_taken_58 {X : zX} (G : zG) (a_this : Nat) (a_height : Nat) (a_changeAt : Nat) (a_changeWas : Nat) (a_changeIs : Nat) (a_tape : Nat) (a_text : Nat) (a_names : Nat) (a_line : Nat) (a_row : Nat) (a_pastMany : Nat) (a_past : Nat) (a_changed : Nat) (a_greatest : Nat) (a_numbersWere : Nat) (a_told : Nat) (a_waysOf : Nat) (a_waysWere : Nat) (a_blocks : Nat) (a_ordersOf : Nat) (a_imageLine : Nat) (a_bodyKind : Nat) (a_trace : Nat) (a_shelf : Nat) (a_many : Nat) (a_items : Nat) (a_carried : Nat) (people : Int32) (keptMany : Int32) (done : Int32) (tapeMany : Int32) (textMany : Int32) (base : Int32) (at_ : Int32) (ends : Int32) (fault : Int32) (opened : Int32) (lineMany : Int32) (rowMany : Int32) (taller : Int32) (tallerBy : Int32) (pasts : Int32) (isKept : Int32) (imageMany : Int32) (bodies : Int32) (ran : Int32) (ownKind : Int32) (ownNumber : Int32) (bodyKind : Nat → Int32) (shelf : Nat → Int32) (v1 : Int32) (v2 : Int32) {v0 : Option Value} {w0 : va_W} (F : zF X G cX12_taken RX12 4 (some .int) 2 45 v0 w0) (e_v3 : Int32) (hk : Z X G 4 (w_M_taken G a_this a_height a_changeAt a_changeWas a_changeIs a_tape a_text a_names a_line a_row a_pastMany a_past a_changed a_greatest a_numbersWere a_told a_waysOf a_waysWere a_blocks a_ordersOf a_imageLine a_bodyKind a_trace a_shelf a_many a_items a_carried people keptMany done tapeMany textMany base at_ ends fault opened lineMany rowMany taller tallerBy pasts isKept imageMany bodies ran ownKind ownNumber bodyKind shelf) [(0, .ref a_this), (1, .int v1), (2, .int v2), (3, .int e_v3)] 75 []) :
    ∀ (fuel : Nat) (v3 : Int32), f_M_taken_L58 v2 fuel v3 = some e_v3 → Z X G 4 (w_M_taken G a_this a_height a_changeAt a_changeWas a_changeIs a_tape a_text a_names a_line a_row a_pastMany a_past a_changed a_greatest a_numbersWere a_told a_waysOf a_waysWere a_blocks a_ordersOf a_imageLine a_bodyKind a_trace a_shelf a_many a_items a_carried people keptMany done tapeMany textMany base at_ ends fault opened lineMany rowMany taller tallerBy pasts isKept imageMany bodies ran ownKind ownNumber bodyKind shelf) [(0, .ref a_this), (1, .int v1), (2, .int v2), (3, .int v3)] 58 [] := by
  intro fuel
  induction fuel with
  | zero => intro v3 hf; exact absurd ((f_M_taken_L58.eq_1 ..).symm.trans hf) (fun h => by cases h)
  | succ fuel ih =>
    intro v3 hf
    replace hf := (f_M_taken_L58.eq_2 ..).symm.trans hf
    refine z_iload_n F 3 dX12_taken_58 rfl rfl ?_
    refine z_iload_n F 2 dX12_taken_59 rfl rfl ?_
    refine z_icmp_eq F 75 dX12_taken_60 (by decide) hf (fun hf _ => ?_) (fun hf _ => ?_)
    · have ee1 := Option.some.inj hf
      subst ee1
      exact z_sub [0, 1, 2, 3] rfl hk
    · refine z_iload_n F 3 dX12_taken_63 rfl rfl ?_
      refine z_if_le F 75 dX12_taken_64 (by decide) hf (fun hf _ => ?_) (fun hf _ => ?_)
      · have ee1 := Option.some.inj hf
        subst ee1
        exact z_sub [0, 1, 2, 3] rfl hk
      · refine z_iload_n F 3 dX12_taken_67 rfl rfl ?_
        refine z_callSm (rest := []) F (c_M_above (xL X) G v3 _ rfl) hy_X12_above ml_X12_378 hd_X12_above ⟨by omega, by omega⟩ rfl [] rfl rfl (w_M_taken G a_this a_height a_changeAt a_changeWas a_changeIs a_tape a_text a_names a_line a_row a_pastMany a_past a_changed a_greatest a_numbersWere a_told a_waysOf a_waysWere a_blocks a_ordersOf a_imageLine a_bodyKind a_trace a_shelf a_many a_items a_carried people keptMany done tapeMany textMany base at_ ends fault opened lineMany rowMany taller tallerBy pasts isKept imageMany bodies ran ownKind ownNumber bodyKind shelf) [none, none, none] rfl (by decide +kernel) rfl rfl (Nat.le_of_ble_eq_true rfl) dX12_taken_68 (fun hz_8 => ?_)
        refine z_istore_n F [(3, .int (f_M_above v3)), (0, .ref a_this), (1, .int v1), (2, .int v2)] dX12_taken_71 rfl (by decide) rfl ?_
        refine z_goto F 58 dX12_taken_72 (by decide) ?_
        exact z_sub [1, 2, 3, 0] rfl (ih (f_M_above v3) hf)

set_option maxRecDepth 100000 in
set_option maxHeartbeats 4000000 in
theorem c_M_taken (l : Launch) (G : zG) (a_this : Nat) (a_height : Nat) (a_changeAt : Nat) (a_changeWas : Nat) (a_changeIs : Nat) (a_tape : Nat) (a_text : Nat) (a_names : Nat) (a_line : Nat) (a_row : Nat) (a_pastMany : Nat) (a_past : Nat) (a_changed : Nat) (a_greatest : Nat) (a_numbersWere : Nat) (a_told : Nat) (a_waysOf : Nat) (a_waysWere : Nat) (a_blocks : Nat) (a_ordersOf : Nat) (a_imageLine : Nat) (a_bodyKind : Nat) (a_trace : Nat) (a_shelf : Nat) (a_many : Nat) (a_items : Nat) (a_carried : Nat) (people : Int32) (keptMany : Int32) (done : Int32) (tapeMany : Int32) (textMany : Int32) (base : Int32) (at_ : Int32) (ends : Int32) (fault : Int32) (opened : Int32) (lineMany : Int32) (rowMany : Int32) (taller : Int32) (tallerBy : Int32) (pasts : Int32) (isKept : Int32) (imageMany : Int32) (bodies : Int32) (ran : Int32) (ownKind : Int32) (ownNumber : Int32) (bodyKind : Nat → Int32) (shelf : Nat → Int32) (x1 : Int32) (x2 : Int32) (r_ : Int32) (hf : f_M_taken bodyKind shelf x1 x2 = some r_) : zM l yX12_taken cX12_taken 4 (some .int) 2 45 G [.ref a_this, .int x1, .int x2] (w_M_taken G a_this a_height a_changeAt a_changeWas a_changeIs a_tape a_text a_names a_line a_row a_pastMany a_past a_changed a_greatest a_numbersWere a_told a_waysOf a_waysWere a_blocks a_ordersOf a_imageLine a_bodyKind a_trace a_shelf a_many a_items a_carried people keptMany done tapeMany textMany base at_ ends fault opened lineMany rowMany taller tallerBy pasts isKept imageMany bodies ran ownKind ownNumber bodyKind shelf) (some (.int r_)) (w_M_taken G a_this a_height a_changeAt a_changeWas a_changeIs a_tape a_text a_names a_line a_row a_pastMany a_past a_changed a_greatest a_numbersWere a_told a_waysOf a_waysWere a_blocks a_ordersOf a_imageLine a_bodyKind a_trace a_shelf a_many a_items a_carried people keptMany done tapeMany textMany base at_ ends fault opened lineMany rowMany taller tallerBy pasts isKept imageMany bodies ran ownKind ownNumber bodyKind shelf) := by
  refine zM.of [(0, .ref a_this), (1, .int x1), (2, .int x2)] (own := RX12) rfl (by decide +kernel) (Nat.le_of_ble_eq_true rfl) rfl rfl fun X hX F => ?_
  subst hX
  replace hf := (f_M_taken.eq_1 ..).symm.trans hf
  refine z_iload_n F 1 dX12_taken_0 rfl rfl ?_
  refine z_callSm (rest := []) F (c_M_isShelf (xL X) G x1 _ rfl) hy_X12_isShelf ml_X12_113 hd_X12_isShelf ⟨by omega, by omega⟩ rfl [] rfl rfl (w_M_taken G a_this a_height a_changeAt a_changeWas a_changeIs a_tape a_text a_names a_line a_row a_pastMany a_past a_changed a_greatest a_numbersWere a_told a_waysOf a_waysWere a_blocks a_ordersOf a_imageLine a_bodyKind a_trace a_shelf a_many a_items a_carried people keptMany done tapeMany textMany base at_ ends fault opened lineMany rowMany taller tallerBy pasts isKept imageMany bodies ran ownKind ownNumber bodyKind shelf) [none, none, none] rfl (by decide +kernel) rfl rfl (Nat.le_of_ble_eq_true rfl) dX12_taken_1 (fun hz_1 => ?_)
  refine z_if_eq F 19 dX12_taken_4 (by decide) hf (fun hf _ => ?_) (fun hf _ => ?_)
  · refine z_iconst F (-1) dX12_taken_19 rfl ?_
    have ee1 := Option.some.inj hf
    subst ee1
    exact z_iret F rfl rfl rfl rfl dX12_taken_20
  · refine z_iload_n F 2 dX12_taken_7 rfl rfl ?_
    refine z_i2l F dX12_taken_8 ?_
    refine z_lconst F (0) dX12_taken_9 rfl ?_
    refine z_ldc2 F (7) (uw50 _ (List.mem_of_getElem? (i := 18) rfl)) dX12_taken_10 ?_
    refine z_callSm (rest := []) F (c_M_within (xL X) G (Int32.toInt64 x2) 0 7 _ rfl) hy_X12_within ml_X12_96 hd_X12_within ⟨by omega, by omega⟩ rfl [] rfl rfl (w_M_taken G a_this a_height a_changeAt a_changeWas a_changeIs a_tape a_text a_names a_line a_row a_pastMany a_past a_changed a_greatest a_numbersWere a_told a_waysOf a_waysWere a_blocks a_ordersOf a_imageLine a_bodyKind a_trace a_shelf a_many a_items a_carried people keptMany done tapeMany textMany base at_ ends fault opened lineMany rowMany taller tallerBy pasts isKept imageMany bodies ran ownKind ownNumber bodyKind shelf) [none, none, none] rfl (by decide +kernel) rfl rfl (Nat.le_of_ble_eq_true rfl) dX12_taken_13 (fun hz_2 => ?_)
    refine z_if_ne F 21 dX12_taken_16 (by decide) hf (fun hf _ => ?_) (fun hf _ => ?_)
    · refine z_aload_n F 0 dX12_taken_21 rfl rfl ?_
      refine z_get F 0 12 43 inlX12 rfl rfl (by decide) fl_X12_76 rfl dX12_taken_22 ?_
      refine z_iload_n F 1 dX12_taken_25 rfl rfl ?_
      refine z_iald F 2 rfl hf dX12_taken_26 (fun v_3 hf => ?_)
      refine z_if_ge F 33 dX12_taken_27 (by decide) hf (fun hf _ => ?_) (fun hf _ => ?_)
      · refine z_aload_n F 0 dX12_taken_33 rfl rfl ?_
        refine z_get F 0 12 43 inlX12 rfl rfl (by decide) fl_X12_76 rfl dX12_taken_34 ?_
        refine z_iload_n F 1 dX12_taken_37 rfl rfl ?_
        refine z_iald F 2 rfl hf dX12_taken_38 (fun v_4 hf => ?_)
        refine z_bipush F (50) dX12_taken_39 rfl ?_
        refine z_icmp_lt F 47 dX12_taken_41 (by decide) hf (fun hf _ => ?_) (fun hf _ => ?_)
        · refine z_aload_n F 0 dX12_taken_47 rfl rfl ?_
          refine z_aload_n F 0 dX12_taken_48 rfl rfl ?_
          refine z_get F 0 12 43 inlX12 rfl rfl (by decide) fl_X12_76 rfl dX12_taken_49 ?_
          refine z_iload_n F 1 dX12_taken_52 rfl rfl ?_
          refine z_iald F 2 rfl hf dX12_taken_53 (fun v_5 hf => ?_)
          obtain ⟨r_6, hg, hf⟩ := zb1_some hf
          refine z_callVm (rest := []) F 12 (c_M_kindOf (xL X) G a_this a_height a_changeAt a_changeWas a_changeIs a_tape a_text a_names a_line a_row a_pastMany a_past a_changed a_greatest a_numbersWere a_told a_waysOf a_waysWere a_blocks a_ordersOf a_imageLine a_bodyKind a_trace a_shelf a_many a_items a_carried people keptMany done tapeMany textMany base at_ ends fault opened lineMany rowMany taller tallerBy pasts isKept imageMany bodies ran ownKind ownNumber bodyKind v_5 r_6 hg) hy_X12_kindOf ml_X12_375 hd_X12_kindOf ⟨by omega, by omega⟩ rfl [0, 1] rfl rfl 0 rfl rfl (w_M_taken G a_this a_height a_changeAt a_changeWas a_changeIs a_tape a_text a_names a_line a_row a_pastMany a_past a_changed a_greatest a_numbersWere a_told a_waysOf a_waysWere a_blocks a_ordersOf a_imageLine a_bodyKind a_trace a_shelf a_many a_items a_carried people keptMany done tapeMany textMany base at_ ends fault opened lineMany rowMany taller tallerBy pasts isKept imageMany bodies ran ownKind ownNumber bodyKind shelf) [some 0, some 1, none] rfl (by decide +kernel) rfl rfl (Nat.le_of_ble_eq_true rfl) dX12_taken_54 (fun hz_7 => ?_)
          refine z_istore_n F [(3, .int r_6), (0, .ref a_this), (1, .int x1), (2, .int x2)] dX12_taken_57 rfl (by decide) rfl ?_
          obtain ⟨v3_9, hg, hf⟩ := zb1_some hf
          refine z_sub [1, 2, 3, 0] rfl ?_
          refine l_M_taken_58 G a_this a_height a_changeAt a_changeWas a_changeIs a_tape a_text a_names a_line a_row a_pastMany a_past a_changed a_greatest a_numbersWere a_told a_waysOf a_waysWere a_blocks a_ordersOf a_imageLine a_bodyKind a_trace a_shelf a_many a_items a_carried people keptMany done tapeMany textMany base at_ ends fault opened lineMany rowMany taller tallerBy pasts isKept imageMany bodies ran ownKind ownNumber bodyKind shelf x1 x2 F v3_9 ?_ FU r_6 hg
          refine z_iload_n F 3 dX12_taken_75 rfl rfl ?_
          refine z_iload_n F 2 dX12_taken_76 rfl rfl ?_
          refine z_icmp_ne F 93 dX12_taken_77 (by decide) hf (fun hf _ => ?_) (fun hf _ => ?_)
          · refine z_bipush F (-12) dX12_taken_93 rfl ?_
            have ee1 := Option.some.inj hf
            subst ee1
            exact z_iret F rfl rfl rfl rfl dX12_taken_95
          · refine z_aload_n F 0 dX12_taken_80 rfl rfl ?_
            refine z_aload_n F 0 dX12_taken_81 rfl rfl ?_
            refine z_get F 0 12 43 inlX12 rfl rfl (by decide) fl_X12_76 rfl dX12_taken_82 ?_
            refine z_iload_n F 1 dX12_taken_85 rfl rfl ?_
            refine z_iald F 2 rfl hf dX12_taken_86 (fun v_10 hf => ?_)
            obtain ⟨r_11, hg, hf⟩ := zb1_some hf
            refine z_callVm (rest := []) F 12 (c_M_kindOf (xL X) G a_this a_height a_changeAt a_changeWas a_changeIs a_tape a_text a_names a_line a_row a_pastMany a_past a_changed a_greatest a_numbersWere a_told a_waysOf a_waysWere a_blocks a_ordersOf a_imageLine a_bodyKind a_trace a_shelf a_many a_items a_carried people keptMany done tapeMany textMany base at_ ends fault opened lineMany rowMany taller tallerBy pasts isKept imageMany bodies ran ownKind ownNumber bodyKind v_10 r_11 hg) hy_X12_kindOf ml_X12_375 hd_X12_kindOf ⟨by omega, by omega⟩ rfl [0, 1] rfl rfl 0 rfl rfl (w_M_taken G a_this a_height a_changeAt a_changeWas a_changeIs a_tape a_text a_names a_line a_row a_pastMany a_past a_changed a_greatest a_numbersWere a_told a_waysOf a_waysWere a_blocks a_ordersOf a_imageLine a_bodyKind a_trace a_shelf a_many a_items a_carried people keptMany done tapeMany textMany base at_ ends fault opened lineMany rowMany taller tallerBy pasts isKept imageMany bodies ran ownKind ownNumber bodyKind shelf) [some 0, some 1, none] rfl (by decide +kernel) rfl rfl (Nat.le_of_ble_eq_true rfl) dX12_taken_87 (fun hz_12 => ?_)
            refine z_goto F 95 dX12_taken_90 (by decide) ?_
            have ee1 := Option.some.inj hf
            subst ee1
            exact z_iret F rfl rfl rfl rfl dX12_taken_95
        · refine z_bipush F (-12) dX12_taken_44 rfl ?_
          have ee1 := Option.some.inj hf
          subst ee1
          exact z_iret F rfl rfl rfl rfl dX12_taken_46
      · refine z_bipush F (-11) dX12_taken_30 rfl ?_
        have ee1 := Option.some.inj hf
        subst ee1
        exact z_iret F rfl rfl rfl rfl dX12_taken_32
    · refine z_iconst F (-1) dX12_taken_19 rfl ?_
      have ee1 := Option.some.inj hf
      subst ee1
      exact z_iret F rfl rfl rfl rfl dX12_taken_20

abbrev w_M_count (G : zG) (a_this : Nat) (a_height : Nat) (a_changeAt : Nat) (a_changeWas : Nat) (a_changeIs : Nat) (a_tape : Nat) (a_text : Nat) (a_names : Nat) (a_line : Nat) (a_row : Nat) (a_pastMany : Nat) (a_past : Nat) (a_changed : Nat) (a_greatest : Nat) (a_numbersWere : Nat) (a_told : Nat) (a_waysOf : Nat) (a_waysWere : Nat) (a_blocks : Nat) (a_ordersOf : Nat) (a_imageLine : Nat) (a_bodyKind : Nat) (a_trace : Nat) (a_shelf : Nat) (a_many : Nat) (a_items : Nat) (a_carried : Nat) (people : Int32) (keptMany : Int32) (done : Int32) (tapeMany : Int32) (textMany : Int32) (base : Int32) (at_ : Int32) (ends : Int32) (fault : Int32) (opened : Int32) (lineMany : Int32) (rowMany : Int32) (taller : Int32) (tallerBy : Int32) (pasts : Int32) (isKept : Int32) (imageMany : Int32) (bodies : Int32) (ran : Int32) (ownKind : Int32) (ownNumber : Int32) : va_W := [(a_this, cO 12 [.int people, .ref a_height, .ref a_changeAt, .ref a_changeWas, .ref a_changeIs, .int keptMany, .int done, .ref a_tape, .int tapeMany, .ref a_text, .int textMany, .int base, .int at_, .int ends, .int fault, .int opened, .ref a_names, .ref a_line, .int lineMany, .ref a_row, .int rowMany, .int taller, .int tallerBy, .ref a_pastMany, .ref a_past, .int pasts, .ref a_changed, .ref a_greatest, .ref a_numbersWere, .ref a_told, .ref a_waysOf, .ref a_waysWere, .ref a_blocks, .ref a_ordersOf, .int isKept, .int imageMany, .ref a_imageLine, .int bodies, .ref a_bodyKind, .ref a_trace, .int ran, .int ownKind, .int ownNumber, .ref a_shelf, .ref a_many, .ref a_items, .ref a_carried])]
def f_M_count (people : Int32) (done : Int32) (tapeMany : Int32) (lineMany : Int32) (pasts : Int32) (bodies : Int32) (ran : Int32) (x1 : Int32) : Int32 := (if x1 = 0 then people else (if x1 = 1 then lineMany else (if x1 = 2 then pasts else (if x1 = 3 then tapeMany else (if x1 = 4 then done else (if x1 = 5 then bodies else (if x1 = 6 then ran else (-1))))))))
set_option maxRecDepth 100000 in
set_option maxHeartbeats 4000000 in
theorem c_M_count (l : Launch) (G : zG) (a_this : Nat) (a_height : Nat) (a_changeAt : Nat) (a_changeWas : Nat) (a_changeIs : Nat) (a_tape : Nat) (a_text : Nat) (a_names : Nat) (a_line : Nat) (a_row : Nat) (a_pastMany : Nat) (a_past : Nat) (a_changed : Nat) (a_greatest : Nat) (a_numbersWere : Nat) (a_told : Nat) (a_waysOf : Nat) (a_waysWere : Nat) (a_blocks : Nat) (a_ordersOf : Nat) (a_imageLine : Nat) (a_bodyKind : Nat) (a_trace : Nat) (a_shelf : Nat) (a_many : Nat) (a_items : Nat) (a_carried : Nat) (people : Int32) (keptMany : Int32) (done : Int32) (tapeMany : Int32) (textMany : Int32) (base : Int32) (at_ : Int32) (ends : Int32) (fault : Int32) (opened : Int32) (lineMany : Int32) (rowMany : Int32) (taller : Int32) (tallerBy : Int32) (pasts : Int32) (isKept : Int32) (imageMany : Int32) (bodies : Int32) (ran : Int32) (ownKind : Int32) (ownNumber : Int32) (x1 : Int32) (r_ : Int32) (hf : f_M_count people done tapeMany lineMany pasts bodies ran x1 = r_) : zM l yX12_count cX12_count 2 (some .int) 0 0 G [.ref a_this, .int x1] (w_M_count G a_this a_height a_changeAt a_changeWas a_changeIs a_tape a_text a_names a_line a_row a_pastMany a_past a_changed a_greatest a_numbersWere a_told a_waysOf a_waysWere a_blocks a_ordersOf a_imageLine a_bodyKind a_trace a_shelf a_many a_items a_carried people keptMany done tapeMany textMany base at_ ends fault opened lineMany rowMany taller tallerBy pasts isKept imageMany bodies ran ownKind ownNumber) (some (.int r_)) (w_M_count G a_this a_height a_changeAt a_changeWas a_changeIs a_tape a_text a_names a_line a_row a_pastMany a_past a_changed a_greatest a_numbersWere a_told a_waysOf a_waysWere a_blocks a_ordersOf a_imageLine a_bodyKind a_trace a_shelf a_many a_items a_carried people keptMany done tapeMany textMany base at_ ends fault opened lineMany rowMany taller tallerBy pasts isKept imageMany bodies ran ownKind ownNumber) := by
  refine zM.of [(0, .ref a_this), (1, .int x1)] (own := RX12) rfl (by decide +kernel) (Nat.le_of_ble_eq_true rfl) rfl rfl fun X hX F => ?_
  subst hX
  replace hf := (f_M_count.eq_1 ..).symm.trans hf
  refine z_iload_n F 1 dX12_count_0 rfl rfl ?_
  by_cases hc_1 : x1 = 0
  · replace hf := zif_t hf hc_1
    refine z_tabIn (off := 43) F 44 dX12_count_1 (by rw [hc_1]; decide +kernel) (by rw [hc_1]; decide +kernel) (by rw [hc_1]; decide +kernel) (by decide) ?_
    refine z_aload_n F 0 dX12_count_44 rfl rfl ?_
    refine z_get F 0 12 0 inlX12 rfl rfl (by decide) fl_X12_93 rfl dX12_count_45 ?_
    subst hf
    exact z_iret F rfl rfl rfl rfl dX12_count_48
  · replace hf := zif_f hf hc_1
    by_cases hc_2 : x1 = 1
    · replace hf := zif_t hf hc_2
      refine z_tabIn (off := 48) F 49 dX12_count_1 (by rw [hc_2]; decide +kernel) (by rw [hc_2]; decide +kernel) (by rw [hc_2]; decide +kernel) (by decide) ?_
      refine z_aload_n F 0 dX12_count_49 rfl rfl ?_
      refine z_get F 0 12 18 inlX12 rfl rfl (by decide) fl_X12_100 rfl dX12_count_50 ?_
      subst hf
      exact z_iret F rfl rfl rfl rfl dX12_count_53
    · replace hf := zif_f hf hc_2
      by_cases hc_3 : x1 = 2
      · replace hf := zif_t hf hc_3
        refine z_tabIn (off := 53) F 54 dX12_count_1 (by rw [hc_3]; decide +kernel) (by rw [hc_3]; decide +kernel) (by rw [hc_3]; decide +kernel) (by decide) ?_
        refine z_aload_n F 0 dX12_count_54 rfl rfl ?_
        refine z_get F 0 12 25 inlX12 rfl rfl (by decide) fl_X12_242 rfl dX12_count_55 ?_
        subst hf
        exact z_iret F rfl rfl rfl rfl dX12_count_58
      · replace hf := zif_f hf hc_3
        by_cases hc_4 : x1 = 3
        · replace hf := zif_t hf hc_4
          refine z_tabIn (off := 58) F 59 dX12_count_1 (by rw [hc_4]; decide +kernel) (by rw [hc_4]; decide +kernel) (by rw [hc_4]; decide +kernel) (by decide) ?_
          refine z_aload_n F 0 dX12_count_59 rfl rfl ?_
          refine z_get F 0 12 8 inlX12 rfl rfl (by decide) fl_X12_130 rfl dX12_count_60 ?_
          subst hf
          exact z_iret F rfl rfl rfl rfl dX12_count_63
        · replace hf := zif_f hf hc_4
          by_cases hc_5 : x1 = 4
          · replace hf := zif_t hf hc_5
            refine z_tabIn (off := 63) F 64 dX12_count_1 (by rw [hc_5]; decide +kernel) (by rw [hc_5]; decide +kernel) (by rw [hc_5]; decide +kernel) (by decide) ?_
            refine z_aload_n F 0 dX12_count_64 rfl rfl ?_
            refine z_get F 0 12 6 inlX12 rfl rfl (by decide) fl_X12_122 rfl dX12_count_65 ?_
            subst hf
            exact z_iret F rfl rfl rfl rfl dX12_count_68
          · replace hf := zif_f hf hc_5
            by_cases hc_6 : x1 = 5
            · replace hf := zif_t hf hc_6
              refine z_tabIn (off := 68) F 69 dX12_count_1 (by rw [hc_6]; decide +kernel) (by rw [hc_6]; decide +kernel) (by rw [hc_6]; decide +kernel) (by decide) ?_
              refine z_aload_n F 0 dX12_count_69 rfl rfl ?_
              refine z_get F 0 12 37 inlX12 rfl rfl (by decide) fl_X12_330 rfl dX12_count_70 ?_
              subst hf
              exact z_iret F rfl rfl rfl rfl dX12_count_73
            · replace hf := zif_f hf hc_6
              by_cases hc_7 : x1 = 6
              · replace hf := zif_t hf hc_7
                refine z_tabIn (off := 73) F 74 dX12_count_1 (by rw [hc_7]; decide +kernel) (by rw [hc_7]; decide +kernel) (by rw [hc_7]; decide +kernel) (by decide) ?_
                refine z_aload_n F 0 dX12_count_74 rfl rfl ?_
                refine z_get F 0 12 40 inlX12 rfl rfl (by decide) fl_X12_335 rfl dX12_count_75 ?_
                subst hf
                exact z_iret F rfl rfl rfl rfl dX12_count_78
              · replace hf := zif_f hf hc_7
                refine z_tabOut F 79 dX12_count_1 (by have := zne hc_1 (c := 0) (k := 0) rfl; have := zne hc_2 (c := 1) (k := 1) rfl; have := zne hc_3 (c := 2) (k := 2) rfl; have := zne hc_4 (c := 3) (k := 3) rfl; have := zne hc_5 (c := 4) (k := 4) rfl; have := zne hc_6 (c := 5) (k := 5) rfl; have := zne hc_7 (c := 6) (k := 6) rfl; omega) (by decide) ?_
                refine z_iconst F (-1) dX12_count_79 rfl ?_
                subst hf
                exact z_iret F rfl rfl rfl rfl dX12_count_80

