/-! by program (wip/whole/gen.py): pure functions and contracts -/
theorem dJ7_fill_031fb_0 : decode cJ7_fill_031fb 0 = .ok (.iconst 0, 1) := by decide +kernel
theorem dJ7_fill_031fb_1 : decode cJ7_fill_031fb 1 = .ok (.istore_n 2, 1) := by decide +kernel
theorem dJ7_fill_031fb_2 : decode cJ7_fill_031fb 2 = .ok (.aload_n 0, 1) := by decide +kernel
theorem dJ7_fill_031fb_3 : decode cJ7_fill_031fb 3 = .ok (.arraylength, 1) := by decide +kernel
theorem dJ7_fill_031fb_4 : decode cJ7_fill_031fb 4 = .ok (.istore_n 3, 1) := by decide +kernel
theorem dJ7_fill_031fb_5 : decode cJ7_fill_031fb 5 = .ok (.iload_n 2, 1) := by decide +kernel
theorem dJ7_fill_031fb_6 : decode cJ7_fill_031fb 6 = .ok (.iload_n 3, 1) := by decide +kernel
theorem dJ7_fill_031fb_7 : decode cJ7_fill_031fb 7 = .ok (.if_icmp .ge 13, 3) := by decide +kernel
theorem dJ7_fill_031fb_10 : decode cJ7_fill_031fb 10 = .ok (.aload_n 0, 1) := by decide +kernel
theorem dJ7_fill_031fb_11 : decode cJ7_fill_031fb 11 = .ok (.iload_n 2, 1) := by decide +kernel
theorem dJ7_fill_031fb_12 : decode cJ7_fill_031fb 12 = .ok (.iload_n 1, 1) := by decide +kernel
theorem dJ7_fill_031fb_13 : decode cJ7_fill_031fb 13 = .ok (.bastore, 1) := by decide +kernel
theorem dJ7_fill_031fb_14 : decode cJ7_fill_031fb 14 = .ok (.iinc 2 1, 3) := by decide +kernel
theorem dJ7_fill_031fb_17 : decode cJ7_fill_031fb 17 = .ok (.goto (-12), 3) := by decide +kernel
theorem dJ7_fill_031fb_20 : decode cJ7_fill_031fb 20 = .ok (.return_, 1) := by decide +kernel
theorem dJ9_floorMod_7cf53_0 : decode cJ9_floorMod_7cf53 0 = .ok (.iload_n 0, 1) := by decide +kernel
theorem dJ9_floorMod_7cf53_1 : decode cJ9_floorMod_7cf53 1 = .ok (.iload_n 1, 1) := by decide +kernel
theorem dJ9_floorMod_7cf53_2 : decode cJ9_floorMod_7cf53 2 = .ok (.irem, 1) := by decide +kernel
theorem dJ9_floorMod_7cf53_3 : decode cJ9_floorMod_7cf53 3 = .ok (.istore_n 2, 1) := by decide +kernel
theorem dJ9_floorMod_7cf53_4 : decode cJ9_floorMod_7cf53 4 = .ok (.iload_n 0, 1) := by decide +kernel
theorem dJ9_floorMod_7cf53_5 : decode cJ9_floorMod_7cf53 5 = .ok (.iload_n 1, 1) := by decide +kernel
theorem dJ9_floorMod_7cf53_6 : decode cJ9_floorMod_7cf53 6 = .ok (.ixor, 1) := by decide +kernel
theorem dJ9_floorMod_7cf53_7 : decode cJ9_floorMod_7cf53 7 = .ok (.ifCond .ge 11, 3) := by decide +kernel
theorem dJ9_floorMod_7cf53_10 : decode cJ9_floorMod_7cf53 10 = .ok (.iload_n 2, 1) := by decide +kernel
theorem dJ9_floorMod_7cf53_11 : decode cJ9_floorMod_7cf53 11 = .ok (.ifCond .eq 7, 3) := by decide +kernel
theorem dJ9_floorMod_7cf53_14 : decode cJ9_floorMod_7cf53 14 = .ok (.iload_n 2, 1) := by decide +kernel
theorem dJ9_floorMod_7cf53_15 : decode cJ9_floorMod_7cf53 15 = .ok (.iload_n 1, 1) := by decide +kernel
theorem dJ9_floorMod_7cf53_16 : decode cJ9_floorMod_7cf53 16 = .ok (.iadd, 1) := by decide +kernel
theorem dJ9_floorMod_7cf53_17 : decode cJ9_floorMod_7cf53 17 = .ok (.ireturn, 1) := by decide +kernel
theorem dJ9_floorMod_7cf53_18 : decode cJ9_floorMod_7cf53 18 = .ok (.iload_n 2, 1) := by decide +kernel
theorem dJ9_floorMod_7cf53_19 : decode cJ9_floorMod_7cf53 19 = .ok (.ireturn, 1) := by decide +kernel
theorem dJ7_fill_53178_0 : decode cJ7_fill_53178 0 = .ok (.iconst 0, 1) := by decide +kernel
theorem dJ7_fill_53178_1 : decode cJ7_fill_53178 1 = .ok (.istore_n 2, 1) := by decide +kernel
theorem dJ7_fill_53178_2 : decode cJ7_fill_53178 2 = .ok (.aload_n 0, 1) := by decide +kernel
theorem dJ7_fill_53178_3 : decode cJ7_fill_53178 3 = .ok (.arraylength, 1) := by decide +kernel
theorem dJ7_fill_53178_4 : decode cJ7_fill_53178 4 = .ok (.istore_n 3, 1) := by decide +kernel
theorem dJ7_fill_53178_5 : decode cJ7_fill_53178 5 = .ok (.iload_n 2, 1) := by decide +kernel
theorem dJ7_fill_53178_6 : decode cJ7_fill_53178 6 = .ok (.iload_n 3, 1) := by decide +kernel
theorem dJ7_fill_53178_7 : decode cJ7_fill_53178 7 = .ok (.if_icmp .ge 13, 3) := by decide +kernel
theorem dJ7_fill_53178_10 : decode cJ7_fill_53178 10 = .ok (.aload_n 0, 1) := by decide +kernel
theorem dJ7_fill_53178_11 : decode cJ7_fill_53178 11 = .ok (.iload_n 2, 1) := by decide +kernel
theorem dJ7_fill_53178_12 : decode cJ7_fill_53178 12 = .ok (.iload_n 1, 1) := by decide +kernel
theorem dJ7_fill_53178_13 : decode cJ7_fill_53178 13 = .ok (.iastore, 1) := by decide +kernel
theorem dJ7_fill_53178_14 : decode cJ7_fill_53178 14 = .ok (.iinc 2 1, 3) := by decide +kernel
theorem dJ7_fill_53178_17 : decode cJ7_fill_53178 17 = .ok (.goto (-12), 3) := by decide +kernel
theorem dJ7_fill_53178_20 : decode cJ7_fill_53178 20 = .ok (.return_, 1) := by decide +kernel
theorem dJ7_fill_d0a16_0 : decode cJ7_fill_d0a16 0 = .ok (.iconst 0, 1) := by decide +kernel
theorem dJ7_fill_d0a16_1 : decode cJ7_fill_d0a16 1 = .ok (.istore_n 3, 1) := by decide +kernel
theorem dJ7_fill_d0a16_2 : decode cJ7_fill_d0a16 2 = .ok (.aload_n 0, 1) := by decide +kernel
theorem dJ7_fill_d0a16_3 : decode cJ7_fill_d0a16 3 = .ok (.arraylength, 1) := by decide +kernel
theorem dJ7_fill_d0a16_4 : decode cJ7_fill_d0a16 4 = .ok (.istore 4, 2) := by decide +kernel
theorem dJ7_fill_d0a16_6 : decode cJ7_fill_d0a16 6 = .ok (.iload_n 3, 1) := by decide +kernel
theorem dJ7_fill_d0a16_7 : decode cJ7_fill_d0a16 7 = .ok (.iload 4, 2) := by decide +kernel
theorem dJ7_fill_d0a16_9 : decode cJ7_fill_d0a16 9 = .ok (.if_icmp .ge 13, 3) := by decide +kernel
theorem dJ7_fill_d0a16_12 : decode cJ7_fill_d0a16 12 = .ok (.aload_n 0, 1) := by decide +kernel
theorem dJ7_fill_d0a16_13 : decode cJ7_fill_d0a16 13 = .ok (.iload_n 3, 1) := by decide +kernel
theorem dJ7_fill_d0a16_14 : decode cJ7_fill_d0a16 14 = .ok (.lload_n 1, 1) := by decide +kernel
theorem dJ7_fill_d0a16_15 : decode cJ7_fill_d0a16 15 = .ok (.lastore, 1) := by decide +kernel
theorem dJ7_fill_d0a16_16 : decode cJ7_fill_d0a16 16 = .ok (.iinc 3 1, 3) := by decide +kernel
theorem dJ7_fill_d0a16_19 : decode cJ7_fill_d0a16 19 = .ok (.goto (-13), 3) := by decide +kernel
theorem dJ7_fill_d0a16_22 : decode cJ7_fill_d0a16 22 = .ok (.return_, 1) := by decide +kernel
abbrev w_Arr_fillB (G : zG) (n_p0 : Nat) (a_p0 : Nat) (p0 : Nat → Int32) : va_W := [(a_p0, cB G n_p0 p0)]
def f_Arr_fillB_L5 (n_p0 : Nat) (v1 : Int32) (v3 : Int32) : Nat → (Nat → Int32) → Int32 → Option ((Nat → Int32))
  | 0, _, _ => none
  | fuel + 1, p0, v2 => (if v3 ≤ v2 then (some p0) else (zgd (vp_nar .byte v1 = v1) (zs p0 n_p0 v2 v1 fun p0_1 => (f_Arr_fillB_L5 n_p0 v1 v3 fuel p0_1 (v2 + 1)))))
def f_Arr_fillB (n_p0 : Nat) (p0 : Nat → Int32) (x1 : Int32) : Option ((Nat → Int32)) := (zb1 (f_Arr_fillB_L5 n_p0 x1 (Int32.ofNat n_p0) FU p0 0) fun p0_2 => (some p0_2))
set_option maxRecDepth 100000 in
set_option maxHeartbeats 4000000 in
theorem l_Arr_fillB_5 {X : zX} (G : zG) (n_p0 : Nat) (a_p0 : Nat) (v1 : Int32) (v3 : Int32) {v0 : Option Value} {w0 : va_W} (F : zF X G cJ7_fill_031fb RJ7 4 none 0 0 v0 w0) (e_p0 : Nat → Int32) (hk : Z X G 4 (w_Arr_fillB G n_p0 a_p0 e_p0) [] 20 []) :
    ∀ (fuel : Nat) (p0 : Nat → Int32) (v2 : Int32), f_Arr_fillB_L5 n_p0 v1 v3 fuel p0 v2 = some e_p0 → Z X G 4 (w_Arr_fillB G n_p0 a_p0 p0) [(0, .ref a_p0), (1, .int v1), (2, .int v2), (3, .int v3)] 5 [] := by
  intro fuel
  induction fuel with
  | zero => intro p0 v2 hf; exact absurd ((f_Arr_fillB_L5.eq_1 ..).symm.trans hf) (fun h => by cases h)
  | succ fuel ih =>
    intro p0 v2 hf
    replace hf := (f_Arr_fillB_L5.eq_2 ..).symm.trans hf
    refine z_iload_n F 2 dJ7_fill_031fb_5 rfl rfl ?_
    refine z_iload_n F 3 dJ7_fill_031fb_6 rfl rfl ?_
    refine z_icmp_ge F 20 dJ7_fill_031fb_7 (by decide) hf (fun hf _ => ?_) (fun hf _ => ?_)
    · have ee1 := Option.some.inj hf
      subst ee1
      exact z_sub [] rfl hk
    · refine z_aload_n F 0 dJ7_fill_031fb_10 rfl rfl ?_
      refine z_iload_n F 2 dJ7_fill_031fb_11 rfl rfl ?_
      refine z_iload_n F 1 dJ7_fill_031fb_12 rfl rfl ?_
      obtain ⟨hnar, hf⟩ := zgd_some hf
      refine z_bast F 0 (fun p0_1 => (w_Arr_fillB G n_p0 a_p0 p0_1)) rfl hf hnar (fun _ => rfl) dJ7_fill_031fb_13 (fun p0_1 hf => ?_)
      refine z_iinc F [(2, .int (v2 + 1)), (0, .ref a_p0), (1, .int v1), (3, .int v3)] dJ7_fill_031fb_14 2 rfl rfl (by decide) rfl ?_
      refine z_goto F 5 dJ7_fill_031fb_17 (by decide) ?_
      exact z_sub [1, 2, 0, 3] rfl (ih p0_1 (v2 + 1) hf)

set_option maxRecDepth 100000 in
set_option maxHeartbeats 4000000 in
theorem c_Arr_fillB (l : Launch) (G : zG) (n_p0 : Nat) (a_p0 : Nat) (p0 : Nat → Int32) (x1 : Int32) (o_p0 : Nat → Int32) (hf : f_Arr_fillB n_p0 p0 x1 = some o_p0) : zM l yJ7_fill_031fb cJ7_fill_031fb 4 none 0 0 G [.ref a_p0, .int x1] (w_Arr_fillB G n_p0 a_p0 p0) (none) (w_Arr_fillB G n_p0 a_p0 o_p0) := by
  refine zM.of [(0, .ref a_p0), (1, .int x1)] (own := RJ7) rfl (by decide +kernel) (Nat.le_of_ble_eq_true rfl) rfl rfl fun X hX F => ?_
  subst hX
  replace hf := (f_Arr_fillB.eq_1 ..).symm.trans hf
  refine z_iconst F (0) dJ7_fill_031fb_0 rfl ?_
  refine z_istore_n F [(2, .int 0), (0, .ref a_p0), (1, .int x1)] dJ7_fill_031fb_1 rfl (by decide) rfl ?_
  refine z_aload_n F 1 dJ7_fill_031fb_2 rfl rfl ?_
  refine z_alen F 0 1 (Int32.ofNat n_p0) rfl rfl rfl dJ7_fill_031fb_3 ?_
  refine z_istore_n F [(3, .int (Int32.ofNat n_p0)), (2, .int 0), (0, .ref a_p0), (1, .int x1)] dJ7_fill_031fb_4 rfl (by decide) rfl ?_
  obtain ⟨p0_2, hg, hf⟩ := zb1_some hf
  refine z_sub [2, 3, 1, 0] rfl ?_
  refine l_Arr_fillB_5 G n_p0 a_p0 x1 (Int32.ofNat n_p0) F p0_2 ?_ FU p0 0 hg
  have ee1 := Option.some.inj hf
  subst ee1
  exact z_vret F rfl rfl rfl dJ7_fill_031fb_20

abbrev w_Math_floorMod (G : zG) : va_W := []
def f_Math_floorMod (x0 : Int32) (x1 : Int32) : Option Int32 := (zgd (¬ x1 = 0) (if (0 : Int32) ≤ (x0 ^^^ x1) then (some (x0 - x0 / x1 * x1)) else (if (x0 - x0 / x1 * x1) = 0 then (some (x0 - x0 / x1 * x1)) else (some ((x0 - x0 / x1 * x1) + x1)))))
set_option maxRecDepth 100000 in
set_option maxHeartbeats 4000000 in
theorem c_Math_floorMod (l : Launch) (G : zG) (x0 : Int32) (x1 : Int32) (r_ : Int32) (hf : f_Math_floorMod x0 x1 = some r_) : zM l yJ9_floorMod_7cf53 cJ9_floorMod_7cf53 3 (some .int) 0 0 G [.int x0, .int x1] (w_Math_floorMod G) (some (.int r_)) (w_Math_floorMod G) := by
  refine zM.of [(0, .int x0), (1, .int x1)] (own := RJ9) rfl (by decide +kernel) (Nat.le_of_ble_eq_true rfl) rfl rfl fun X hX F => ?_
  subst hX
  replace hf := (f_Math_floorMod.eq_1 ..).symm.trans hf
  refine z_iload_n F 0 dJ9_floorMod_7cf53_0 rfl rfl ?_
  refine z_iload_n F 1 dJ9_floorMod_7cf53_1 rfl rfl ?_
  obtain ⟨hne, hf⟩ := zgd_some hf
  refine z_irem F hne dJ9_floorMod_7cf53_2 ?_
  refine z_istore_n F [(2, .int (x0 - x0 / x1 * x1)), (0, .int x0), (1, .int x1)] dJ9_floorMod_7cf53_3 rfl (by decide) rfl ?_
  refine z_iload_n F 1 dJ9_floorMod_7cf53_4 rfl rfl ?_
  refine z_iload_n F 2 dJ9_floorMod_7cf53_5 rfl rfl ?_
  refine z_ixor F dJ9_floorMod_7cf53_6 ?_
  refine z_if_ge F 18 dJ9_floorMod_7cf53_7 (by decide) hf (fun hf _ => ?_) (fun hf _ => ?_)
  · refine z_iload_n F 0 dJ9_floorMod_7cf53_18 rfl rfl ?_
    have ee1 := Option.some.inj hf
    subst ee1
    exact z_iret F rfl rfl rfl rfl dJ9_floorMod_7cf53_19
  · refine z_iload_n F 0 dJ9_floorMod_7cf53_10 rfl rfl ?_
    refine z_if_eq F 18 dJ9_floorMod_7cf53_11 (by decide) hf (fun hf _ => ?_) (fun hf _ => ?_)
    · refine z_iload_n F 0 dJ9_floorMod_7cf53_18 rfl rfl ?_
      have ee1 := Option.some.inj hf
      subst ee1
      exact z_iret F rfl rfl rfl rfl dJ9_floorMod_7cf53_19
    · refine z_iload_n F 0 dJ9_floorMod_7cf53_14 rfl rfl ?_
      refine z_iload_n F 2 dJ9_floorMod_7cf53_15 rfl rfl ?_
      refine z_iadd F dJ9_floorMod_7cf53_16 ?_
      have ee1 := Option.some.inj hf
      subst ee1
      exact z_iret F rfl rfl rfl rfl dJ9_floorMod_7cf53_17

abbrev w_Arr_fillI (G : zG) (n_p0 : Nat) (a_p0 : Nat) (p0 : Nat → Int32) : va_W := [(a_p0, cI G n_p0 p0)]
def f_Arr_fillI_L5 (n_p0 : Nat) (v1 : Int32) (v3 : Int32) : Nat → (Nat → Int32) → Int32 → Option ((Nat → Int32))
  | 0, _, _ => none
  | fuel + 1, p0, v2 => (if v3 ≤ v2 then (some p0) else (zs p0 n_p0 v2 v1 fun p0_1 => (f_Arr_fillI_L5 n_p0 v1 v3 fuel p0_1 (v2 + 1))))
def f_Arr_fillI (n_p0 : Nat) (p0 : Nat → Int32) (x1 : Int32) : Option ((Nat → Int32)) := (zb1 (f_Arr_fillI_L5 n_p0 x1 (Int32.ofNat n_p0) FU p0 0) fun p0_2 => (some p0_2))
set_option maxRecDepth 100000 in
set_option maxHeartbeats 4000000 in
theorem l_Arr_fillI_5 {X : zX} (G : zG) (n_p0 : Nat) (a_p0 : Nat) (v1 : Int32) (v3 : Int32) {v0 : Option Value} {w0 : va_W} (F : zF X G cJ7_fill_53178 RJ7 4 none 0 0 v0 w0) (e_p0 : Nat → Int32) (hk : Z X G 4 (w_Arr_fillI G n_p0 a_p0 e_p0) [] 20 []) :
    ∀ (fuel : Nat) (p0 : Nat → Int32) (v2 : Int32), f_Arr_fillI_L5 n_p0 v1 v3 fuel p0 v2 = some e_p0 → Z X G 4 (w_Arr_fillI G n_p0 a_p0 p0) [(0, .ref a_p0), (1, .int v1), (2, .int v2), (3, .int v3)] 5 [] := by
  intro fuel
  induction fuel with
  | zero => intro p0 v2 hf; exact absurd ((f_Arr_fillI_L5.eq_1 ..).symm.trans hf) (fun h => by cases h)
  | succ fuel ih =>
    intro p0 v2 hf
    replace hf := (f_Arr_fillI_L5.eq_2 ..).symm.trans hf
    refine z_iload_n F 2 dJ7_fill_53178_5 rfl rfl ?_
    refine z_iload_n F 3 dJ7_fill_53178_6 rfl rfl ?_
    refine z_icmp_ge F 20 dJ7_fill_53178_7 (by decide) hf (fun hf _ => ?_) (fun hf _ => ?_)
    · have ee1 := Option.some.inj hf
      subst ee1
      exact z_sub [] rfl hk
    · refine z_aload_n F 0 dJ7_fill_53178_10 rfl rfl ?_
      refine z_iload_n F 2 dJ7_fill_53178_11 rfl rfl ?_
      refine z_iload_n F 1 dJ7_fill_53178_12 rfl rfl ?_
      refine z_iast F 0 (fun p0_1 => (w_Arr_fillI G n_p0 a_p0 p0_1)) rfl hf (fun _ => rfl) dJ7_fill_53178_13 (fun p0_1 hf => ?_)
      refine z_iinc F [(2, .int (v2 + 1)), (0, .ref a_p0), (1, .int v1), (3, .int v3)] dJ7_fill_53178_14 2 rfl rfl (by decide) rfl ?_
      refine z_goto F 5 dJ7_fill_53178_17 (by decide) ?_
      exact z_sub [1, 2, 0, 3] rfl (ih p0_1 (v2 + 1) hf)

set_option maxRecDepth 100000 in
set_option maxHeartbeats 4000000 in
theorem c_Arr_fillI (l : Launch) (G : zG) (n_p0 : Nat) (a_p0 : Nat) (p0 : Nat → Int32) (x1 : Int32) (o_p0 : Nat → Int32) (hf : f_Arr_fillI n_p0 p0 x1 = some o_p0) : zM l yJ7_fill_53178 cJ7_fill_53178 4 none 0 0 G [.ref a_p0, .int x1] (w_Arr_fillI G n_p0 a_p0 p0) (none) (w_Arr_fillI G n_p0 a_p0 o_p0) := by
  refine zM.of [(0, .ref a_p0), (1, .int x1)] (own := RJ7) rfl (by decide +kernel) (Nat.le_of_ble_eq_true rfl) rfl rfl fun X hX F => ?_
  subst hX
  replace hf := (f_Arr_fillI.eq_1 ..).symm.trans hf
  refine z_iconst F (0) dJ7_fill_53178_0 rfl ?_
  refine z_istore_n F [(2, .int 0), (0, .ref a_p0), (1, .int x1)] dJ7_fill_53178_1 rfl (by decide) rfl ?_
  refine z_aload_n F 1 dJ7_fill_53178_2 rfl rfl ?_
  refine z_alen F 0 0 (Int32.ofNat n_p0) rfl rfl rfl dJ7_fill_53178_3 ?_
  refine z_istore_n F [(3, .int (Int32.ofNat n_p0)), (2, .int 0), (0, .ref a_p0), (1, .int x1)] dJ7_fill_53178_4 rfl (by decide) rfl ?_
  obtain ⟨p0_2, hg, hf⟩ := zb1_some hf
  refine z_sub [2, 3, 1, 0] rfl ?_
  refine l_Arr_fillI_5 G n_p0 a_p0 x1 (Int32.ofNat n_p0) F p0_2 ?_ FU p0 0 hg
  have ee1 := Option.some.inj hf
  subst ee1
  exact z_vret F rfl rfl rfl dJ7_fill_53178_20

abbrev w_Arr_fillJ (G : zG) (n_p0 : Nat) (a_p0 : Nat) (p0 : Nat → Int64) : va_W := [(a_p0, cJ G n_p0 p0)]
def f_Arr_fillJ_L6 (n_p0 : Nat) (v1 : Int64) (v4 : Int32) : Nat → (Nat → Int64) → Int32 → Option ((Nat → Int64))
  | 0, _, _ => none
  | fuel + 1, p0, v3 => (if v4 ≤ v3 then (some p0) else (zsJ p0 n_p0 v3 v1 fun p0_1 => (f_Arr_fillJ_L6 n_p0 v1 v4 fuel p0_1 (v3 + 1))))
def f_Arr_fillJ (n_p0 : Nat) (p0 : Nat → Int64) (x1 : Int64) : Option ((Nat → Int64)) := (zb1 (f_Arr_fillJ_L6 n_p0 x1 (Int32.ofNat n_p0) FU p0 0) fun p0_2 => (some p0_2))
set_option maxRecDepth 100000 in
set_option maxHeartbeats 4000000 in
theorem l_Arr_fillJ_6 {X : zX} (G : zG) (n_p0 : Nat) (a_p0 : Nat) (v1 : Int64) (v4 : Int32) {v0 : Option Value} {w0 : va_W} (F : zF X G cJ7_fill_d0a16 RJ7 5 none 0 0 v0 w0) (e_p0 : Nat → Int64) (hk : Z X G 5 (w_Arr_fillJ G n_p0 a_p0 e_p0) [] 22 []) :
    ∀ (fuel : Nat) (p0 : Nat → Int64) (v3 : Int32), f_Arr_fillJ_L6 n_p0 v1 v4 fuel p0 v3 = some e_p0 → Z X G 5 (w_Arr_fillJ G n_p0 a_p0 p0) [(0, .ref a_p0), (1, .long v1), (3, .int v3), (4, .int v4)] 6 [] := by
  intro fuel
  induction fuel with
  | zero => intro p0 v3 hf; exact absurd ((f_Arr_fillJ_L6.eq_1 ..).symm.trans hf) (fun h => by cases h)
  | succ fuel ih =>
    intro p0 v3 hf
    replace hf := (f_Arr_fillJ_L6.eq_2 ..).symm.trans hf
    refine z_iload_n F 2 dJ7_fill_d0a16_6 rfl rfl ?_
    refine z_iload F 3 dJ7_fill_d0a16_7 rfl ?_
    refine z_icmp_ge F 22 dJ7_fill_d0a16_9 (by decide) hf (fun hf _ => ?_) (fun hf _ => ?_)
    · have ee1 := Option.some.inj hf
      subst ee1
      exact z_sub [] rfl hk
    · refine z_aload_n F 0 dJ7_fill_d0a16_12 rfl rfl ?_
      refine z_iload_n F 2 dJ7_fill_d0a16_13 rfl rfl ?_
      refine z_lload_n F 1 dJ7_fill_d0a16_14 rfl rfl ?_
      refine z_last F 0 (fun p0_1 => (w_Arr_fillJ G n_p0 a_p0 p0_1)) rfl hf (fun _ => rfl) dJ7_fill_d0a16_15 (fun p0_1 hf => ?_)
      refine z_iinc F [(3, .int (v3 + 1)), (0, .ref a_p0), (1, .long v1), (4, .int v4)] dJ7_fill_d0a16_16 2 rfl rfl (by decide) rfl ?_
      refine z_goto F 6 dJ7_fill_d0a16_19 (by decide) ?_
      exact z_sub [1, 2, 0, 3] rfl (ih p0_1 (v3 + 1) hf)

set_option maxRecDepth 100000 in
set_option maxHeartbeats 4000000 in
theorem c_Arr_fillJ (l : Launch) (G : zG) (n_p0 : Nat) (a_p0 : Nat) (p0 : Nat → Int64) (x1 : Int64) (o_p0 : Nat → Int64) (hf : f_Arr_fillJ n_p0 p0 x1 = some o_p0) : zM l yJ7_fill_d0a16 cJ7_fill_d0a16 5 none 0 0 G [.ref a_p0, .long x1] (w_Arr_fillJ G n_p0 a_p0 p0) (none) (w_Arr_fillJ G n_p0 a_p0 o_p0) := by
  refine zM.of [(0, .ref a_p0), (1, .long x1)] (own := RJ7) rfl (by decide +kernel) (Nat.le_of_ble_eq_true rfl) rfl rfl fun X hX F => ?_
  subst hX
  replace hf := (f_Arr_fillJ.eq_1 ..).symm.trans hf
  refine z_iconst F (0) dJ7_fill_d0a16_0 rfl ?_
  refine z_istore_n F [(3, .int 0), (0, .ref a_p0), (1, .long x1)] dJ7_fill_d0a16_1 rfl (by decide) rfl ?_
  refine z_aload_n F 1 dJ7_fill_d0a16_2 rfl rfl ?_
  refine z_alen F 0 2 (Int32.ofNat n_p0) rfl rfl rfl dJ7_fill_d0a16_3 ?_
  refine z_istore F [(4, .int (Int32.ofNat n_p0)), (3, .int 0), (0, .ref a_p0), (1, .long x1)] dJ7_fill_d0a16_4 (by decide) rfl ?_
  obtain ⟨p0_2, hg, hf⟩ := zb1_some hf
  refine z_sub [2, 3, 1, 0] rfl ?_
  refine l_Arr_fillJ_6 G n_p0 a_p0 x1 (Int32.ofNat n_p0) F p0_2 ?_ FU p0 0 hg
  have ee1 := Option.some.inj hf
  subst ee1
  exact z_vret F rfl rfl rfl dJ7_fill_d0a16_22

