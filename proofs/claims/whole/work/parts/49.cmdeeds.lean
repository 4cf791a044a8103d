/-! LAYER (c): deeds of the reference (by wip/whole/c/c.py) -/
set_option maxRecDepth 100000 in
set_option maxHeartbeats 4000000 in
theorem qq_b33 {k : Nat} (h1 : 1 ≤ k) (hk : k < 12) : ∀ d j fuel (past : Nat → Int32), j + d = 9 → d < fuel → ∃ w, f_M_begins1_L33 (nI k) fuel past (nI j) = some w ∧ ∀ i, w i = if 9 * (k - 1) + j ≤ i ∧ i < 9 * k then past (i + 9) else past i := by
  intro d
  induction d with
  | zero =>
    intro j fuel past h hf
    obtain ⟨f, rfl⟩ : ∃ f, fuel = f + 1 := ⟨fuel - 1, by omega⟩
    refine ⟨past, ?_, fun i => ?_⟩
    · rw [f_M_begins1_L33]; simp (disch := omega) only [qq_b1, qq_b2, qq_b3, qq_b4, qq_b5, qq_b6, qq_b7, qq_b8, qq_b9, qq_b10, qq_b11, qq_b12, qq_b13, qq_b18, qq_b19, qq_s0l, qq_s0r, qq_s1l, qq_s1r, qq_s2l, qq_s2r, qq_s3l, qq_s3r, qq_s6l, qq_s6r, qq_s7l, qq_s7r, qq_bt, qq_bf, qq_l70, qq_l24, qq_l23, qq_l22, qq_l21, qq_l19, qq_l18, qq_l17, qq_l16, qq_l25, qq_l32, qq_l33, qq_l34, qq_l35, qq_l44, qq_l46, qq_l108, qq_l0, qq_l1, qq_l2, qq_l3, qq_l4, qq_l5, qq_l6, qq_l7, qq_l8, qq_l9, qq_l10, qq_l11, qq_l12, qq_l13, qq_l14, qq_l15, qq_l20, qq_l30, qq_l31, qq_l36, qq_l37, qq_l38, qq_l39, qq_l40, qq_l41, qq_l42, qq_l43, qq_l45, qq_l47, qq_l48, qq_l49, qq_l50, qq_l57, qq_l58, qq_l59, qq_l60, qq_l61, qq_l62, qq_l63, qq_l80, qq_l81, qq_l97, qq_l98, qq_l99, qq_l100, qq_l103, qq_l112, qq_l113, qq_l119, qq_l120, qq_l121, qq_l124, qq_l126, qq_l128, qq_l255, qq_l360, qq_l512, qq_l729, qq_zg, qq_zs, qq_zsJ, qq_zgT, qq_ltT, qq_ltF, qq_leT, qq_leF, qq_eqT, qq_eqF, qq_nltT, qq_ltnF, qq_nltnT, qq_nltnF, qq_nleT, qq_lenF, qq_nlenT, qq_nlenF, qq_eqnF, qq_neqF, qq_neqnF, qq_neqnT, nI_add, qq_subT, qq_subF, qq_addnT, qq_addnF, qq_naddT, qq_naddF, pk_mul, qq_and, qq_or, if_true, if_false, not_true, not_false_iff, qq_upd, qq_updE, qq_updN, reduceIte, eq_self, ne_eq, true_and, and_true, Nat.add_zero, Nat.zero_add, Nat.add_sub_cancel]
    · rw [if_neg (by omega)]
  | succ d ih =>
    intro j fuel past h hf
    obtain ⟨f, rfl⟩ : ∃ f, fuel = f + 1 := ⟨fuel - 1, by omega⟩
    obtain ⟨w, e, hw⟩ := ih (j + 1) f (upd past (9 * (k - 1) + j) (past (9 * k + j))) (by omega) (by omega)
    refine ⟨w, ?_, fun i => ?_⟩
    · rw [f_M_begins1_L33]; simp (disch := omega) only [qq_b1, qq_b2, qq_b3, qq_b4, qq_b5, qq_b6, qq_b7, qq_b8, qq_b9, qq_b10, qq_b11, qq_b12, qq_b13, qq_b18, qq_b19, qq_s0l, qq_s0r, qq_s1l, qq_s1r, qq_s2l, qq_s2r, qq_s3l, qq_s3r, qq_s6l, qq_s6r, qq_s7l, qq_s7r, qq_bt, qq_bf, qq_l70, qq_l24, qq_l23, qq_l22, qq_l21, qq_l19, qq_l18, qq_l17, qq_l16, qq_l25, qq_l32, qq_l33, qq_l34, qq_l35, qq_l44, qq_l46, qq_l108, qq_l0, qq_l1, qq_l2, qq_l3, qq_l4, qq_l5, qq_l6, qq_l7, qq_l8, qq_l9, qq_l10, qq_l11, qq_l12, qq_l13, qq_l14, qq_l15, qq_l20, qq_l30, qq_l31, qq_l36, qq_l37, qq_l38, qq_l39, qq_l40, qq_l41, qq_l42, qq_l43, qq_l45, qq_l47, qq_l48, qq_l49, qq_l50, qq_l57, qq_l58, qq_l59, qq_l60, qq_l61, qq_l62, qq_l63, qq_l80, qq_l81, qq_l97, qq_l98, qq_l99, qq_l100, qq_l103, qq_l112, qq_l113, qq_l119, qq_l120, qq_l121, qq_l124, qq_l126, qq_l128, qq_l255, qq_l360, qq_l512, qq_l729, qq_zg, qq_zs, qq_zsJ, qq_zgT, qq_ltT, qq_ltF, qq_leT, qq_leF, qq_eqT, qq_eqF, qq_nltT, qq_ltnF, qq_nltnT, qq_nltnF, qq_nleT, qq_lenF, qq_nlenT, qq_nlenF, qq_eqnF, qq_neqF, qq_neqnF, qq_neqnT, nI_add, qq_subT, qq_subF, qq_addnT, qq_addnF, qq_naddT, qq_naddF, pk_mul, qq_and, qq_or, if_true, if_false, not_true, not_false_iff, qq_upd, qq_updE, qq_updN, reduceIte, eq_self, ne_eq, true_and, and_true, Nat.add_zero, Nat.zero_add, Nat.add_sub_cancel]; exact e
    · rw [hw i]; simp only [upd]
      (repeat' split) <;> first | rfl | (exfalso; omega) | (apply congrArg; omega)
set_option maxRecDepth 100000 in
set_option maxHeartbeats 4000000 in
theorem qq_b11L : ∀ d k fuel (pastMany past : Nat → Int32), 1 ≤ k → k + d = 12 → d < fuel → ∃ w v, f_M_begins1_L11 fuel pastMany past (nI k) = some (w, v) ∧ (∀ i, w i = if k - 1 ≤ i ∧ i < 11 then pastMany (i + 1) else pastMany i) ∧ ∀ i, v i = if 9 * (k - 1) ≤ i ∧ i < 99 then past (i + 9) else past i := by
  intro d
  induction d with
  | zero =>
    intro k fuel pastMany past h1 h hf
    obtain ⟨f, rfl⟩ : ∃ f, fuel = f + 1 := ⟨fuel - 1, by omega⟩
    refine ⟨pastMany, past, ?_, fun i => ?_, fun i => ?_⟩
    · rw [f_M_begins1_L11]; simp (disch := omega) only [qq_b1, qq_b2, qq_b3, qq_b4, qq_b5, qq_b6, qq_b7, qq_b8, qq_b9, qq_b10, qq_b11, qq_b12, qq_b13, qq_b18, qq_b19, qq_s0l, qq_s0r, qq_s1l, qq_s1r, qq_s2l, qq_s2r, qq_s3l, qq_s3r, qq_s6l, qq_s6r, qq_s7l, qq_s7r, qq_bt, qq_bf, qq_l70, qq_l24, qq_l23, qq_l22, qq_l21, qq_l19, qq_l18, qq_l17, qq_l16, qq_l25, qq_l32, qq_l33, qq_l34, qq_l35, qq_l44, qq_l46, qq_l108, qq_l0, qq_l1, qq_l2, qq_l3, qq_l4, qq_l5, qq_l6, qq_l7, qq_l8, qq_l9, qq_l10, qq_l11, qq_l12, qq_l13, qq_l14, qq_l15, qq_l20, qq_l30, qq_l31, qq_l36, qq_l37, qq_l38, qq_l39, qq_l40, qq_l41, qq_l42, qq_l43, qq_l45, qq_l47, qq_l48, qq_l49, qq_l50, qq_l57, qq_l58, qq_l59, qq_l60, qq_l61, qq_l62, qq_l63, qq_l80, qq_l81, qq_l97, qq_l98, qq_l99, qq_l100, qq_l103, qq_l112, qq_l113, qq_l119, qq_l120, qq_l121, qq_l124, qq_l126, qq_l128, qq_l255, qq_l360, qq_l512, qq_l729, qq_zg, qq_zs, qq_zsJ, qq_zgT, qq_ltT, qq_ltF, qq_leT, qq_leF, qq_eqT, qq_eqF, qq_nltT, qq_ltnF, qq_nltnT, qq_nltnF, qq_nleT, qq_lenF, qq_nlenT, qq_nlenF, qq_eqnF, qq_neqF, qq_neqnF, qq_neqnT, nI_add, qq_subT, qq_subF, qq_addnT, qq_addnF, qq_naddT, qq_naddF, pk_mul, qq_and, qq_or, if_true, if_false, not_true, not_false_iff, qq_upd, qq_updE, qq_updN, reduceIte, eq_self, ne_eq, true_and, and_true, Nat.add_zero, Nat.zero_add, Nat.add_sub_cancel]
    · rw [if_neg (by omega)]
    · rw [if_neg (by omega)]
  | succ d ih =>
    intro k fuel pastMany past h1 h hf
    obtain ⟨f, rfl⟩ : ∃ f, fuel = f + 1 := ⟨fuel - 1, by omega⟩
    obtain ⟨p2, e2, hp2⟩ := qq_b33 h1 (by omega) 9 0 FU past (by omega) (by rw [qq_FU]; omega)
    obtain ⟨w, v, e, hw, hv⟩ := ih (k + 1) f (upd pastMany (k - 1) (pastMany k)) p2 (by omega) (by omega) (by omega)
    refine ⟨w, v, ?_, fun i => ?_, fun i => ?_⟩
    · rw [f_M_begins1_L11]; simp (disch := omega) only [e2, qq_b1, qq_b2, qq_b3, qq_b4, qq_b5, qq_b6, qq_b7, qq_b8, qq_b9, qq_b10, qq_b11, qq_b12, qq_b13, qq_b18, qq_b19, qq_s0l, qq_s0r, qq_s1l, qq_s1r, qq_s2l, qq_s2r, qq_s3l, qq_s3r, qq_s6l, qq_s6r, qq_s7l, qq_s7r, qq_bt, qq_bf, qq_l70, qq_l24, qq_l23, qq_l22, qq_l21, qq_l19, qq_l18, qq_l17, qq_l16, qq_l25, qq_l32, qq_l33, qq_l34, qq_l35, qq_l44, qq_l46, qq_l108, qq_l0, qq_l1, qq_l2, qq_l3, qq_l4, qq_l5, qq_l6, qq_l7, qq_l8, qq_l9, qq_l10, qq_l11, qq_l12, qq_l13, qq_l14, qq_l15, qq_l20, qq_l30, qq_l31, qq_l36, qq_l37, qq_l38, qq_l39, qq_l40, qq_l41, qq_l42, qq_l43, qq_l45, qq_l47, qq_l48, qq_l49, qq_l50, qq_l57, qq_l58, qq_l59, qq_l60, qq_l61, qq_l62, qq_l63, qq_l80, qq_l81, qq_l97, qq_l98, qq_l99, qq_l100, qq_l103, qq_l112, qq_l113, qq_l119, qq_l120, qq_l121, qq_l124, qq_l126, qq_l128, qq_l255, qq_l360, qq_l512, qq_l729, qq_zg, qq_zs, qq_zsJ, qq_zgT, qq_ltT, qq_ltF, qq_leT, qq_leF, qq_eqT, qq_eqF, qq_nltT, qq_ltnF, qq_nltnT, qq_nltnF, qq_nleT, qq_lenF, qq_nlenT, qq_nlenF, qq_eqnF, qq_neqF, qq_neqnF, qq_neqnT, nI_add, qq_subT, qq_subF, qq_addnT, qq_addnF, qq_naddT, qq_naddF, pk_mul, qq_and, qq_or, if_true, if_false, not_true, not_false_iff, qq_upd, qq_updE, qq_updN, reduceIte, eq_self, ne_eq, true_and, and_true, Nat.add_zero, Nat.zero_add, Nat.add_sub_cancel]; exact e
    · rw [hw i]; simp only [upd]
      (repeat' split) <;> first | rfl | (exfalso; omega) | (apply congrArg; omega)
    · rw [hv i]; simp only [hp2]
      (repeat' split) <;> first | rfl | (exfalso; omega) | (apply congrArg; omega)
set_option maxRecDepth 100000 in
set_option maxHeartbeats 4000000 in
theorem qq_b100 {line : Nat → Int32} {n z : Nat} (hn : n ≤ 9) (hz : z < 12) : ∀ d j fuel (past : Nat → Int32), j + d = n → d < fuel → ∃ w, f_M_begins1_L100 (nI n) (nI z) line fuel past (nI j) = some w ∧ ∀ i, w i = if 9 * z + j ≤ i ∧ i < 9 * z + n then line (i - 9 * z) else past i := by
  intro d
  induction d with
  | zero =>
    intro j fuel past h hf
    obtain ⟨f, rfl⟩ : ∃ f, fuel = f + 1 := ⟨fuel - 1, by omega⟩
    refine ⟨past, ?_, fun i => ?_⟩
    · rw [f_M_begins1_L100]; simp (disch := omega) only [qq_b1, qq_b2, qq_b3, qq_b4, qq_b5, qq_b6, qq_b7, qq_b8, qq_b9, qq_b10, qq_b11, qq_b12, qq_b13, qq_b18, qq_b19, qq_s0l, qq_s0r, qq_s1l, qq_s1r, qq_s2l, qq_s2r, qq_s3l, qq_s3r, qq_s6l, qq_s6r, qq_s7l, qq_s7r, qq_bt, qq_bf, qq_l70, qq_l24, qq_l23, qq_l22, qq_l21, qq_l19, qq_l18, qq_l17, qq_l16, qq_l25, qq_l32, qq_l33, qq_l34, qq_l35, qq_l44, qq_l46, qq_l108, qq_l0, qq_l1, qq_l2, qq_l3, qq_l4, qq_l5, qq_l6, qq_l7, qq_l8, qq_l9, qq_l10, qq_l11, qq_l12, qq_l13, qq_l14, qq_l15, qq_l20, qq_l30, qq_l31, qq_l36, qq_l37, qq_l38, qq_l39, qq_l40, qq_l41, qq_l42, qq_l43, qq_l45, qq_l47, qq_l48, qq_l49, qq_l50, qq_l57, qq_l58, qq_l59, qq_l60, qq_l61, qq_l62, qq_l63, qq_l80, qq_l81, qq_l97, qq_l98, qq_l99, qq_l100, qq_l103, qq_l112, qq_l113, qq_l119, qq_l120, qq_l121, qq_l124, qq_l126, qq_l128, qq_l255, qq_l360, qq_l512, qq_l729, qq_zg, qq_zs, qq_zsJ, qq_zgT, qq_ltT, qq_ltF, qq_leT, qq_leF, qq_eqT, qq_eqF, qq_nltT, qq_ltnF, qq_nltnT, qq_nltnF, qq_nleT, qq_lenF, qq_nlenT, qq_nlenF, qq_eqnF, qq_neqF, qq_neqnF, qq_neqnT, nI_add, qq_subT, qq_subF, qq_addnT, qq_addnF, qq_naddT, qq_naddF, pk_mul, qq_and, qq_or, if_true, if_false, not_true, not_false_iff, qq_upd, qq_updE, qq_updN, reduceIte, eq_self, ne_eq, true_and, and_true, Nat.add_zero, Nat.zero_add, Nat.add_sub_cancel]
    · rw [if_neg (by omega)]
  | succ d ih =>
    intro j fuel past h hf
    obtain ⟨f, rfl⟩ : ∃ f, fuel = f + 1 := ⟨fuel - 1, by omega⟩
    obtain ⟨w, e, hw⟩ := ih (j + 1) f (upd past (9 * z + j) (line j)) (by omega) (by omega)
    refine ⟨w, ?_, fun i => ?_⟩
    · rw [f_M_begins1_L100]; simp (disch := omega) only [qq_b1, qq_b2, qq_b3, qq_b4, qq_b5, qq_b6, qq_b7, qq_b8, qq_b9, qq_b10, qq_b11, qq_b12, qq_b13, qq_b18, qq_b19, qq_s0l, qq_s0r, qq_s1l, qq_s1r, qq_s2l, qq_s2r, qq_s3l, qq_s3r, qq_s6l, qq_s6r, qq_s7l, qq_s7r, qq_bt, qq_bf, qq_l70, qq_l24, qq_l23, qq_l22, qq_l21, qq_l19, qq_l18, qq_l17, qq_l16, qq_l25, qq_l32, qq_l33, qq_l34, qq_l35, qq_l44, qq_l46, qq_l108, qq_l0, qq_l1, qq_l2, qq_l3, qq_l4, qq_l5, qq_l6, qq_l7, qq_l8, qq_l9, qq_l10, qq_l11, qq_l12, qq_l13, qq_l14, qq_l15, qq_l20, qq_l30, qq_l31, qq_l36, qq_l37, qq_l38, qq_l39, qq_l40, qq_l41, qq_l42, qq_l43, qq_l45, qq_l47, qq_l48, qq_l49, qq_l50, qq_l57, qq_l58, qq_l59, qq_l60, qq_l61, qq_l62, qq_l63, qq_l80, qq_l81, qq_l97, qq_l98, qq_l99, qq_l100, qq_l103, qq_l112, qq_l113, qq_l119, qq_l120, qq_l121, qq_l124, qq_l126, qq_l128, qq_l255, qq_l360, qq_l512, qq_l729, qq_zg, qq_zs, qq_zsJ, qq_zgT, qq_ltT, qq_ltF, qq_leT, qq_leF, qq_eqT, qq_eqF, qq_nltT, qq_ltnF, qq_nltnT, qq_nltnF, qq_nleT, qq_lenF, qq_nlenT, qq_nlenF, qq_eqnF, qq_neqF, qq_neqnF, qq_neqnT, nI_add, qq_subT, qq_subF, qq_addnT, qq_addnF, qq_naddT, qq_naddF, pk_mul, qq_and, qq_or, if_true, if_false, not_true, not_false_iff, qq_upd, qq_updE, qq_updN, reduceIte, eq_self, ne_eq, true_and, and_true, Nat.add_zero, Nat.zero_add, Nat.add_sub_cancel]; exact e
    · rw [hw i]; simp only [upd]
      (repeat' split) <;> first | rfl | (exfalso; omega) | (apply congrArg; omega)
set_option maxRecDepth 100000 in
set_option maxHeartbeats 4000000 in
theorem qq_b146 {tm : Int32} {text : Nat → Int32} {lv : Nat → Nat → Nat → Nat → Nat → Bool} (hM : qq_LM tm text lv) {hts : Nat → Int32} {H : Nat → Nat} {P : Nat} (hH : qq_Ln hts H P) (hB : ∀ p, p < P → H p < 1000) (hP : P ≤ 9) {line : Nat → Int32} {q : Nat → Nat} {n : Nat} (hL : qq_Ln line q n) (hV : qq_Vl q n P) (hn : n ≤ 9) (tb : Int32) (tape : Nat → Int32) :
    ∀ d i fuel (base at_ ends fault opened rm tl : Int32) (names row W : Nat → Int32), i + d = P → d < fuel → (∀ p, p < i → W p = qq_nW (qq_cs lv H) q n p) → ∃ (b1 a1 e1 f1 o1 rm1 tl1 : Int32) (names1 row1 W1 : Nat → Int32), f_M_begins1_L146 (nI P) tm (nI n) tb hts tape text line fuel base at_ ends fault opened rm tl names row W (nI i) = some (b1, a1, e1, f1, o1, rm1, tl1, names1, row1, W1) ∧ ∀ p, p < P → W1 p = qq_nW (qq_cs lv H) q n p := by
  intro d
  induction d with
  | zero =>
    intro i fuel base at_ ends fault opened rm tl names row W h hf hW
    obtain ⟨f, rfl⟩ : ∃ f, fuel = f + 1 := ⟨fuel - 1, by omega⟩
    obtain rfl : i = P := by omega
    refine ⟨base, at_, ends, fault, opened, rm, tl, names, row, W, ?_, hW⟩
    rw [f_M_begins1_L146]
    simp (disch := omega) only [qq_b1, qq_b2, qq_b3, qq_b4, qq_b5, qq_b6, qq_b7, qq_b8, qq_b9, qq_b10, qq_b11, qq_b12, qq_b13, qq_b18, qq_b19, qq_s0l, qq_s0r, qq_s1l, qq_s1r, qq_s2l, qq_s2r, qq_s3l, qq_s3r, qq_s6l, qq_s6r, qq_s7l, qq_s7r, qq_bt, qq_bf, qq_l70, qq_l24, qq_l23, qq_l22, qq_l21, qq_l19, qq_l18, qq_l17, qq_l16, qq_l25, qq_l32, qq_l33, qq_l34, qq_l35, qq_l44, qq_l46, qq_l108, qq_l0, qq_l1, qq_l2, qq_l3, qq_l4, qq_l5, qq_l6, qq_l7, qq_l8, qq_l9, qq_l10, qq_l11, qq_l12, qq_l13, qq_l14, qq_l15, qq_l20, qq_l30, qq_l31, qq_l36, qq_l37, qq_l38, qq_l39, qq_l40, qq_l41, qq_l42, qq_l43, qq_l45, qq_l47, qq_l48, qq_l49, qq_l50, qq_l57, qq_l58, qq_l59, qq_l60, qq_l61, qq_l62, qq_l63, qq_l80, qq_l81, qq_l97, qq_l98, qq_l99, qq_l100, qq_l103, qq_l112, qq_l113, qq_l119, qq_l120, qq_l121, qq_l124, qq_l126, qq_l128, qq_l255, qq_l360, qq_l512, qq_l729, qq_zg, qq_zs, qq_zsJ, qq_zgT, qq_ltT, qq_ltF, qq_leT, qq_leF, qq_eqT, qq_eqF, qq_nltT, qq_ltnF, qq_nltnT, qq_nltnF, qq_nleT, qq_lenF, qq_nlenT, qq_nlenF, qq_eqnF, qq_neqF, qq_neqnF, qq_neqnT, nI_add, qq_subT, qq_subF, qq_addnT, qq_addnF, qq_naddT, qq_naddF, pk_mul, qq_and, qq_or, if_true, if_false, not_true, not_false_iff, qq_upd, qq_updE, qq_updN, reduceIte, eq_self, ne_eq, true_and, and_true, Nat.add_zero, Nat.zero_add, Nat.add_sub_cancel]
  | succ d ih =>
    intro i fuel base at_ ends fault opened rm tl names row W h hf hW
    obtain ⟨f, rfl⟩ : ∃ f, fuel = f + 1 := ⟨fuel - 1, by omega⟩
    rw [f_M_begins1_L146]
    have e0 := qq_mplaceOf hL hn (fun i hi => by have := hV.1 i hi; omega) (p := i) (by omega)
    by_cases hp : qq_pl q n i < n
    · rw [if_pos hp] at e0
      obtain ⟨b1, a1, en1, f1, o1, names1, row1, e1, hr1⟩ := qq_numberNow hM hH hB hP hL hV.1 hn hp base at_ ends fault opened rm tl tb tape names row
      obtain ⟨b2, a2, en2, f2, o2, rm2, tl2, names2, row2, W2, e2, hW2⟩ := ih (i + 1) f b1 a1 en1 f1 o1 (nI n) (-nI 1) names1 row1 (upd W i (nI (qq_num (qq_cs lv H) q (qq_pl q n i)))) (by omega) (by omega) (fun p hp2 => by
        unfold upd
        by_cases e : p = i
        · rw [if_pos e, e, qq_nW, if_pos hp]
        · rw [if_neg e]; exact hW p (by omega))
      refine ⟨b2, a2, en2, f2, o2, rm2, tl2, names2, row2, W2, ?_, hW2⟩
      simp (disch := omega) only [e0, e1, qq_b1, qq_b2, qq_b3, qq_b4, qq_b5, qq_b6, qq_b7, qq_b8, qq_b9, qq_b10, qq_b11, qq_b12, qq_b13, qq_b18, qq_b19, qq_s0l, qq_s0r, qq_s1l, qq_s1r, qq_s2l, qq_s2r, qq_s3l, qq_s3r, qq_s6l, qq_s6r, qq_s7l, qq_s7r, qq_bt, qq_bf, qq_l70, qq_l24, qq_l23, qq_l22, qq_l21, qq_l19, qq_l18, qq_l17, qq_l16, qq_l25, qq_l32, qq_l33, qq_l34, qq_l35, qq_l44, qq_l46, qq_l108, qq_l0, qq_l1, qq_l2, qq_l3, qq_l4, qq_l5, qq_l6, qq_l7, qq_l8, qq_l9, qq_l10, qq_l11, qq_l12, qq_l13, qq_l14, qq_l15, qq_l20, qq_l30, qq_l31, qq_l36, qq_l37, qq_l38, qq_l39, qq_l40, qq_l41, qq_l42, qq_l43, qq_l45, qq_l47, qq_l48, qq_l49, qq_l50, qq_l57, qq_l58, qq_l59, qq_l60, qq_l61, qq_l62, qq_l63, qq_l80, qq_l81, qq_l97, qq_l98, qq_l99, qq_l100, qq_l103, qq_l112, qq_l113, qq_l119, qq_l120, qq_l121, qq_l124, qq_l126, qq_l128, qq_l255, qq_l360, qq_l512, qq_l729, qq_zg, qq_zs, qq_zsJ, qq_zgT, qq_ltT, qq_ltF, qq_leT, qq_leF, qq_eqT, qq_eqF, qq_nltT, qq_ltnF, qq_nltnT, qq_nltnF, qq_nleT, qq_lenF, qq_nlenT, qq_nlenF, qq_eqnF, qq_neqF, qq_neqnF, qq_neqnT, nI_add, qq_subT, qq_subF, qq_addnT, qq_addnF, qq_naddT, qq_naddF, pk_mul, qq_and, qq_or, if_true, if_false, not_true, not_false_iff, qq_upd, qq_updE, qq_updN, reduceIte, eq_self, ne_eq, true_and, and_true, Nat.add_zero, Nat.zero_add, Nat.add_sub_cancel]
      exact e2
    · rw [if_neg hp] at e0
      obtain ⟨b2, a2, en2, f2, o2, rm2, tl2, names2, row2, W2, e2, hW2⟩ := ih (i + 1) f base at_ ends fault opened rm tl names row (upd W i (-nI 2)) (by omega) (by omega) (fun p hp2 => by
        unfold upd
        by_cases e : p = i
        · rw [if_pos e, e, qq_nW, if_neg hp]
        · rw [if_neg e]; exact hW p (by omega))
      refine ⟨b2, a2, en2, f2, o2, rm2, tl2, names2, row2, W2, ?_, hW2⟩
      simp (disch := omega) only [e0, qq_b1, qq_b2, qq_b3, qq_b4, qq_b5, qq_b6, qq_b7, qq_b8, qq_b9, qq_b10, qq_b11, qq_b12, qq_b13, qq_b18, qq_b19, qq_s0l, qq_s0r, qq_s1l, qq_s1r, qq_s2l, qq_s2r, qq_s3l, qq_s3r, qq_s6l, qq_s6r, qq_s7l, qq_s7r, qq_bt, qq_bf, qq_l70, qq_l24, qq_l23, qq_l22, qq_l21, qq_l19, qq_l18, qq_l17, qq_l16, qq_l25, qq_l32, qq_l33, qq_l34, qq_l35, qq_l44, qq_l46, qq_l108, qq_l0, qq_l1, qq_l2, qq_l3, qq_l4, qq_l5, qq_l6, qq_l7, qq_l8, qq_l9, qq_l10, qq_l11, qq_l12, qq_l13, qq_l14, qq_l15, qq_l20, qq_l30, qq_l31, qq_l36, qq_l37, qq_l38, qq_l39, qq_l40, qq_l41, qq_l42, qq_l43, qq_l45, qq_l47, qq_l48, qq_l49, qq_l50, qq_l57, qq_l58, qq_l59, qq_l60, qq_l61, qq_l62, qq_l63, qq_l80, qq_l81, qq_l97, qq_l98, qq_l99, qq_l100, qq_l103, qq_l112, qq_l113, qq_l119, qq_l120, qq_l121, qq_l124, qq_l126, qq_l128, qq_l255, qq_l360, qq_l512, qq_l729, qq_zg, qq_zs, qq_zsJ, qq_zgT, qq_ltT, qq_ltF, qq_leT, qq_leF, qq_eqT, qq_eqF, qq_nltT, qq_ltnF, qq_nltnT, qq_nltnF, qq_nleT, qq_lenF, qq_nlenT, qq_nlenF, qq_eqnF, qq_neqF, qq_neqnF, qq_neqnT, nI_add, qq_subT, qq_subF, qq_addnT, qq_addnF, qq_naddT, qq_naddF, pk_mul, qq_and, qq_or, if_true, if_false, not_true, not_false_iff, qq_upd, qq_updE, qq_updN, reduceIte, eq_self, ne_eq, true_and, and_true, Nat.add_zero, Nat.zero_add, Nat.add_sub_cancel]
      exact e2
set_option maxRecDepth 100000 in
set_option maxHeartbeats 4000000 in
theorem qq_begins1 {tm : Int32} {text : Nat → Int32} {lv : Nat → Nat → Nat → Nat → Nat → Bool} (hM : qq_LM tm text lv) {hts : Nat → Int32} {H : Nat → Nat} {P : Nat} (hH : qq_Ln hts H P) (hB : ∀ p, p < P → H p < 1000) (hP : P ≤ 9) {line : Nat → Int32} {q : Nat → Nat} {n : Nat} (hL : qq_Ln line q n) (hV : qq_Vl q n P) (hn : n ≤ 9) {z : Nat} (hz : z ≤ 12) (base at_ ends fault opened rm tl tb : Int32) (tape names row pastMany past W : Nat → Int32) :
    ∃ (b1 a1 e1 f1 o1 : Int32) (names1 row1 pm1 pa1 W1 : Nat → Int32), f_M_begins1 (nI P) tm base at_ ends fault opened (nI n) rm tl tb (nI z) hts tape text names line row pastMany past W = some (b1, a1, e1, f1, o1, nI n, -nI 1, nI (if z = 12 then 12 else z + 1), names1, row1, pm1, pa1, W1) ∧ qq_Ln row1 q n ∧ (∀ p, p < P → W1 p = qq_nW (qq_cs lv H) q n p) ∧
      (∀ i, i < 12 → pm1 i = if z = 12 then (if i = 11 then nI n else pastMany (i + 1)) else if i = z then nI n else pastMany i) ∧
      (∀ i j, i < 12 → j < 9 → pa1 (9 * i + j) = if z = 12 then (if i = 11 then (if j < n then line j else past (99 + j)) else past (9 * (i + 1) + j)) else if i = z ∧ j < n then line j else past (9 * i + j)) := by
  unfold f_M_begins1
  obtain ⟨b1, a1, en1, f1, o1, rm1, tl1, names1, row1, W1, e1, hW⟩ := qq_b146 hM hH hB hP hL hV hn tb tape P 0 FU base at_ ends fault opened rm tl names row W (by omega) (by rw [qq_FU]; omega) (fun p hp => absurd hp (Nat.not_lt_zero p))
  obtain ⟨w, e2, hw⟩ := qq_laysOut (row := row1) (a := rm1) (b := tl1) hL hn
  by_cases h12 : z = 12
  · subst h12
    obtain ⟨pm, pa, e3, hpm, hpa⟩ := qq_b11L 11 1 FU pastMany past (by omega) (by omega) (by rw [qq_FU]; omega)
    obtain ⟨pa2, e4, hpa2⟩ := qq_b100 (line := line) hn (z := 11) (by omega) n 0 FU pa (by omega) (by rw [qq_FU]; omega)
    refine ⟨b1, a1, en1, f1, o1, names1, w, upd pm 11 (nI n), pa2, W1, ?_, hw, hW, fun i hi => ?_, fun i j hi hj => ?_⟩
    · rw [if_pos rfl]
      simp (disch := omega) only [e3, e4, e1, e2, qq_b1, qq_b2, qq_b3, qq_b4, qq_b5, qq_b6, qq_b7, qq_b8, qq_b9, qq_b10, qq_b11, qq_b12, qq_b13, qq_b18, qq_b19, qq_s0l, qq_s0r, qq_s1l, qq_s1r, qq_s2l, qq_s2r, qq_s3l, qq_s3r, qq_s6l, qq_s6r, qq_s7l, qq_s7r, qq_bt, qq_bf, qq_l70, qq_l24, qq_l23, qq_l22, qq_l21, qq_l19, qq_l18, qq_l17, qq_l16, qq_l25, qq_l32, qq_l33, qq_l34, qq_l35, qq_l44, qq_l46, qq_l108, qq_l0, qq_l1, qq_l2, qq_l3, qq_l4, qq_l5, qq_l6, qq_l7, qq_l8, qq_l9, qq_l10, qq_l11, qq_l12, qq_l13, qq_l14, qq_l15, qq_l20, qq_l30, qq_l31, qq_l36, qq_l37, qq_l38, qq_l39, qq_l40, qq_l41, qq_l42, qq_l43, qq_l45, qq_l47, qq_l48, qq_l49, qq_l50, qq_l57, qq_l58, qq_l59, qq_l60, qq_l61, qq_l62, qq_l63, qq_l80, qq_l81, qq_l97, qq_l98, qq_l99, qq_l100, qq_l103, qq_l112, qq_l113, qq_l119, qq_l120, qq_l121, qq_l124, qq_l126, qq_l128, qq_l255, qq_l360, qq_l512, qq_l729, qq_zg, qq_zs, qq_zsJ, qq_zgT, qq_ltT, qq_ltF, qq_leT, qq_leF, qq_eqT, qq_eqF, qq_nltT, qq_ltnF, qq_nltnT, qq_nltnF, qq_nleT, qq_lenF, qq_nlenT, qq_nlenF, qq_eqnF, qq_neqF, qq_neqnF, qq_neqnT, nI_add, qq_subT, qq_subF, qq_addnT, qq_addnF, qq_naddT, qq_naddF, pk_mul, qq_and, qq_or, if_true, if_false, not_true, not_false_iff, qq_upd, qq_updE, qq_updN, reduceIte, eq_self, ne_eq, true_and, and_true, Nat.add_zero, Nat.zero_add, Nat.add_sub_cancel]
    · rw [if_pos rfl]
      unfold upd
      rw [hpm]
      (repeat' split) <;> first | rfl | (exfalso; omega) | (apply congrArg; omega)
    · rw [if_pos rfl, hpa2, hpa]
      by_cases h11 : i = 11
      · subst h11
        rw [if_pos rfl]
        by_cases hjn : j < n
        · rw [if_pos (by omega), if_pos hjn]; congr 1; omega
        · rw [if_neg (by omega), if_neg (by omega), if_neg hjn]
      · rw [if_neg (by omega), if_pos (by omega), if_neg h11]
        congr 1; omega
  · obtain ⟨pa2, e4, hpa2⟩ := qq_b100 (line := line) hn (z := z) (by omega) n 0 FU past (by omega) (by rw [qq_FU]; omega)
    refine ⟨b1, a1, en1, f1, o1, names1, w, upd pastMany z (nI n), pa2, W1, ?_, hw, hW, fun i hi => ?_, fun i j hi hj => ?_⟩
    · rw [if_neg h12]
      simp (disch := omega) only [e4, e1, e2, qq_b1, qq_b2, qq_b3, qq_b4, qq_b5, qq_b6, qq_b7, qq_b8, qq_b9, qq_b10, qq_b11, qq_b12, qq_b13, qq_b18, qq_b19, qq_s0l, qq_s0r, qq_s1l, qq_s1r, qq_s2l, qq_s2r, qq_s3l, qq_s3r, qq_s6l, qq_s6r, qq_s7l, qq_s7r, qq_bt, qq_bf, qq_l70, qq_l24, qq_l23, qq_l22, qq_l21, qq_l19, qq_l18, qq_l17, qq_l16, qq_l25, qq_l32, qq_l33, qq_l34, qq_l35, qq_l44, qq_l46, qq_l108, qq_l0, qq_l1, qq_l2, qq_l3, qq_l4, qq_l5, qq_l6, qq_l7, qq_l8, qq_l9, qq_l10, qq_l11, qq_l12, qq_l13, qq_l14, qq_l15, qq_l20, qq_l30, qq_l31, qq_l36, qq_l37, qq_l38, qq_l39, qq_l40, qq_l41, qq_l42, qq_l43, qq_l45, qq_l47, qq_l48, qq_l49, qq_l50, qq_l57, qq_l58, qq_l59, qq_l60, qq_l61, qq_l62, qq_l63, qq_l80, qq_l81, qq_l97, qq_l98, qq_l99, qq_l100, qq_l103, qq_l112, qq_l113, qq_l119, qq_l120, qq_l121, qq_l124, qq_l126, qq_l128, qq_l255, qq_l360, qq_l512, qq_l729, qq_zg, qq_zs, qq_zsJ, qq_zgT, qq_ltT, qq_ltF, qq_leT, qq_leF, qq_eqT, qq_eqF, qq_nltT, qq_ltnF, qq_nltnT, qq_nltnF, qq_nleT, qq_lenF, qq_nlenT, qq_nlenF, qq_eqnF, qq_neqF, qq_neqnF, qq_neqnT, nI_add, qq_subT, qq_subF, qq_addnT, qq_addnF, qq_naddT, qq_naddF, pk_mul, qq_and, qq_or, if_true, if_false, not_true, not_false_iff, qq_upd, qq_updE, qq_updN, reduceIte, eq_self, ne_eq, true_and, and_true, Nat.add_zero, Nat.zero_add, Nat.add_sub_cancel]
    · rw [if_neg h12]
      rfl
    · rw [if_neg h12, hpa2]
      by_cases h11 : i = z ∧ j < n
      · rw [if_pos (by omega), if_pos h11]; congr 1; omega
      · rw [if_neg (by omega), if_neg h11]
/-- YESTERDAY behind a deed -/
theorem qq_Dd_begin {f z n P : Nat} {klen : Nat → Int32} {kwho : Nat → Nat → Int32} {pastMany past pm1 pa1 line who1 : Nat → Int32} {q : Nat → Nat} (hf : f < 12) (hz : z ≤ 12) (hD : ∀ k, 1 ≤ k → k ≤ z → ∃ (pn : Nat) (pq : Nat → Nat), pn ≤ 9 ∧ klen ((f + z - k) % 12) = nI pn ∧ qq_Ln (kwho ((f + z - k) % 12)) pq pn ∧ pastMany (z - k) = nI pn ∧ (∀ j, j < pn → past (9 * (z - k) + j) = nI (pq j)) ∧ qq_Vl pq pn P)
    (hn : n ≤ 9) (hL : qq_Ln line q n) (hw : qq_Ln who1 q n) (hV : qq_Vl q n P)
    (hm : ∀ i, i < 12 → pm1 i = if z = 12 then (if i = 11 then nI n else pastMany (i + 1)) else if i = z then nI n else pastMany i)
    (ha : ∀ i j, i < 12 → j < 9 → pa1 (9 * i + j) = if z = 12 then (if i = 11 then (if j < n then line j else past (99 + j)) else past (9 * (i + 1) + j)) else if i = z ∧ j < n then line j else past (9 * i + j)) :
    qq_Dd (nI (if z = 12 then (f + 1) % 12 else f)) (nI (if z = 12 then 12 else z + 1)) (va_up klen (if z = 12 then f else (f + z) % 12) (nI n)) (va_up kwho (if z = 12 then f else (f + z) % 12) who1) (nI (if z = 12 then 12 else z + 1)) pm1 pa1 P := by
  by_cases h12 : z = 12
  · subst h12
    simp only [if_true] at hm ha ⊢
    refine ⟨(f + 1) % 12, 12, rfl, rfl, rfl, by omega, by omega, fun k h1 h2 => ?_⟩
    rcases Nat.eq_or_lt_of_le h1 with h3 | h3
    · subst h3
      have e : ((f + 1) % 12 + 12 - 1) % 12 = f := by omega
      refine ⟨n, q, hn, ?_, ?_, ?_, fun j hj => ?_, hV⟩
      · rw [e, va_up_self]
      · rw [e, va_up_self]; exact hw
      · rw [hm _ (by omega)]; rfl
      · rw [ha (12 - 1) j (by omega) (by omega), if_pos rfl, if_pos hj]; exact hL j hj
    · obtain ⟨pn, pq, g1, g2, g3, g4, g5, g6⟩ := hD (k - 1) (by omega) (by omega)
      have e : ((f + 1) % 12 + 12 - k) % 12 = (f + 12 - (k - 1)) % 12 := by omega
      have en : ((f + 1) % 12 + 12 - k) % 12 ≠ f := by omega
      have e2 : 12 - k + 1 = 12 - (k - 1) := by omega
      refine ⟨pn, pq, g1, ?_, ?_, ?_, fun j hj => ?_, g6⟩
      · rw [va_up_ne _ _ en, e]; exact g2
      · rw [va_up_ne _ _ en, e]; exact g3
      · rw [hm _ (by omega), if_neg (by omega), e2]; exact g4
      · rw [ha (12 - k) j (by omega) (by omega), if_neg (by omega), e2]; exact g5 j hj
  · simp only [h12, if_false] at hm ha ⊢
    refine ⟨f, z + 1, rfl, rfl, rfl, hf, by omega, fun k h1 h2 => ?_⟩
    rcases Nat.eq_or_lt_of_le h1 with h3 | h3
    · subst h3
      have e : (f + (z + 1) - 1) % 12 = (f + z) % 12 := by congr 1
      refine ⟨n, q, hn, ?_, ?_, ?_, fun j hj => ?_, hV⟩
      · rw [e, va_up_self]
      · rw [e, va_up_self]; exact hw
      · rw [hm _ (by omega), if_pos (by omega)]
      · rw [ha (z + 1 - 1) j (by omega) (by omega), if_pos ⟨by omega, hj⟩]; exact hL j hj
    · obtain ⟨pn, pq, g1, g2, g3, g4, g5, g6⟩ := hD (k - 1) (by omega) (by omega)
      have e : (f + (z + 1) - k) % 12 = (f + z - (k - 1)) % 12 := by congr 1; omega
      have en : (f + (z + 1) - k) % 12 ≠ (f + z) % 12 := by omega
      have e2 : z + 1 - k = z - (k - 1) := by omega
      refine ⟨pn, pq, g1, ?_, ?_, ?_, fun j hj => ?_, g6⟩
      · rw [va_up_ne _ _ en, e]; exact g2
      · rw [va_up_ne _ _ en, e]; exact g3
      · rw [hm _ (by omega), if_neg (by omega), e2]; exact g4
      · rw [ha (z + 1 - k) j (by omega) (by omega), if_neg (by omega), e2]; exact g5 j hj
set_option maxRecDepth 100000 in
set_option maxHeartbeats 4000000 in
theorem qq_e10 {row : Nat → Int32} {n : Nat} (hn : n ≤ 9) : ∀ d k fuel (line : Nat → Int32), k + d = n → d < fuel → ∃ w, f_M_ends1_L10 (nI n) row fuel line (nI k) = some w ∧ ∀ i, w i = if k ≤ i ∧ i < n then row i else line i := by
  intro d
  induction d with
  | zero =>
    intro k fuel line h hf
    obtain ⟨f, rfl⟩ : ∃ f, fuel = f + 1 := ⟨fuel - 1, by omega⟩
    refine ⟨line, ?_, fun i => ?_⟩
    · rw [f_M_ends1_L10]; simp (disch := omega) only [qq_b1, qq_b2, qq_b3, qq_b4, qq_b5, qq_b6, qq_b7, qq_b8, qq_b9, qq_b10, qq_b11, qq_b12, qq_b13, qq_b18, qq_b19, qq_s0l, qq_s0r, qq_s1l, qq_s1r, qq_s2l, qq_s2r, qq_s3l, qq_s3r, qq_s6l, qq_s6r, qq_s7l, qq_s7r, qq_bt, qq_bf, qq_l70, qq_l24, qq_l23, qq_l22, qq_l21, qq_l19, qq_l18, qq_l17, qq_l16, qq_l25, qq_l32, qq_l33, qq_l34, qq_l35, qq_l44, qq_l46, qq_l108, qq_l0, qq_l1, qq_l2, qq_l3, qq_l4, qq_l5, qq_l6, qq_l7, qq_l8, qq_l9, qq_l10, qq_l11, qq_l12, qq_l13, qq_l14, qq_l15, qq_l20, qq_l30, qq_l31, qq_l36, qq_l37, qq_l38, qq_l39, qq_l40, qq_l41, qq_l42, qq_l43, qq_l45, qq_l47, qq_l48, qq_l49, qq_l50, qq_l57, qq_l58, qq_l59, qq_l60, qq_l61, qq_l62, qq_l63, qq_l80, qq_l81, qq_l97, qq_l98, qq_l99, qq_l100, qq_l103, qq_l112, qq_l113, qq_l119, qq_l120, qq_l121, qq_l124, qq_l126, qq_l128, qq_l255, qq_l360, qq_l512, qq_l729, qq_zg, qq_zs, qq_zsJ, qq_zgT, qq_ltT, qq_ltF, qq_leT, qq_leF, qq_eqT, qq_eqF, qq_nltT, qq_ltnF, qq_nltnT, qq_nltnF, qq_nleT, qq_lenF, qq_nlenT, qq_nlenF, qq_eqnF, qq_neqF, qq_neqnF, qq_neqnT, nI_add, qq_subT, qq_subF, qq_addnT, qq_addnF, qq_naddT, qq_naddF, pk_mul, qq_and, qq_or, if_true, if_false, not_true, not_false_iff, qq_upd, qq_updE, qq_updN, reduceIte, eq_self, ne_eq, true_and, and_true, Nat.add_zero, Nat.zero_add, Nat.add_sub_cancel]
    · rw [if_neg (by omega)]
  | succ d ih =>
    intro k fuel line h hf
    obtain ⟨f, rfl⟩ : ∃ f, fuel = f + 1 := ⟨fuel - 1, by omega⟩
    obtain ⟨w, e, hw⟩ := ih (k + 1) f (upd line k (row k)) (by omega) (by omega)
    refine ⟨w, ?_, fun i => ?_⟩
    · rw [f_M_ends1_L10]; simp (disch := omega) only [qq_b1, qq_b2, qq_b3, qq_b4, qq_b5, qq_b6, qq_b7, qq_b8, qq_b9, qq_b10, qq_b11, qq_b12, qq_b13, qq_b18, qq_b19, qq_s0l, qq_s0r, qq_s1l, qq_s1r, qq_s2l, qq_s2r, qq_s3l, qq_s3r, qq_s6l, qq_s6r, qq_s7l, qq_s7r, qq_bt, qq_bf, qq_l70, qq_l24, qq_l23, qq_l22, qq_l21, qq_l19, qq_l18, qq_l17, qq_l16, qq_l25, qq_l32, qq_l33, qq_l34, qq_l35, qq_l44, qq_l46, qq_l108, qq_l0, qq_l1, qq_l2, qq_l3, qq_l4, qq_l5, qq_l6, qq_l7, qq_l8, qq_l9, qq_l10, qq_l11, qq_l12, qq_l13, qq_l14, qq_l15, qq_l20, qq_l30, qq_l31, qq_l36, qq_l37, qq_l38, qq_l39, qq_l40, qq_l41, qq_l42, qq_l43, qq_l45, qq_l47, qq_l48, qq_l49, qq_l50, qq_l57, qq_l58, qq_l59, qq_l60, qq_l61, qq_l62, qq_l63, qq_l80, qq_l81, qq_l97, qq_l98, qq_l99, qq_l100, qq_l103, qq_l112, qq_l113, qq_l119, qq_l120, qq_l121, qq_l124, qq_l126, qq_l128, qq_l255, qq_l360, qq_l512, qq_l729, qq_zg, qq_zs, qq_zsJ, qq_zgT, qq_ltT, qq_ltF, qq_leT, qq_leF, qq_eqT, qq_eqF, qq_nltT, qq_ltnF, qq_nltnT, qq_nltnF, qq_nleT, qq_lenF, qq_nlenT, qq_nlenF, qq_eqnF, qq_neqF, qq_neqnF, qq_neqnT, nI_add, qq_subT, qq_subF, qq_addnT, qq_addnF, qq_naddT, qq_naddF, pk_mul, qq_and, qq_or, if_true, if_false, not_true, not_false_iff, qq_upd, qq_updE, qq_updN, reduceIte, eq_self, ne_eq, true_and, and_true, Nat.add_zero, Nat.zero_add, Nat.add_sub_cancel]; exact e
    · rw [hw i]; simp only [upd]
      (repeat' split) <;> first | rfl | (exfalso; omega) | (apply congrArg; omega)
theorem qq_gr_le (a b : Int32) (h : ¬ a ≤ b) : b < a := Int32.not_le.mp h
theorem qq_gr_nlt (a b : Int32) (h : a ≤ b) : ¬ b < a := Int32.not_lt.mpr h
set_option maxRecDepth 100000 in
set_option maxHeartbeats 4000000 in
theorem qq_e38 {tm : Int32} {text : Nat → Int32} {lv : Nat → Nat → Nat → Nat → Nat → Bool} (hM : qq_LM tm text lv) {hts : Nat → Int32} {H : Nat → Nat} {P : Nat} {tl tb : Int32} (hH : ∀ p, p < P → f_M_heightOf tl tb hts (nI p) = some (nI (H p))) (hB : ∀ p, p < P → H p < 1000) (hP : P ≤ 9) {line row : Nat → Int32} {q : Nat → Nat} {n : Nat} (hLi : qq_Ln line q n) (hL : qq_Ln row q n) (hV : qq_Vl q n P) (hn : n ≤ 9) (W tape : Nat → Int32) :
    ∀ d i fuel (base at_ ends fault opened : Int32) (names : Nat → Int32) (s : (Nat → Int32) × (Nat → Int32)), i + d = n → d < fuel → ∃ (b1 a1 e1 f1 o1 : Int32) (names1 : Nat → Int32), f_M_ends1_L38 tm (nI n) tl tb hts tape text line row W fuel base at_ ends fault opened names s.1 s.2 (nI i) = some (b1, a1, e1, f1, o1, names1, (qq_enC (qq_cs lv H) q W d i s).1, (qq_enC (qq_cs lv H) q W d i s).2) := by
  intro d
  induction d with
  | zero =>
    intro i fuel base at_ ends fault opened names s h hf
    obtain ⟨f, rfl⟩ : ∃ f, fuel = f + 1 := ⟨fuel - 1, by omega⟩
    refine ⟨base, at_, ends, fault, opened, names, ?_⟩
    rw [f_M_ends1_L38]
    simp (disch := omega) only [qq_b1, qq_b2, qq_b3, qq_b4, qq_b5, qq_b6, qq_b7, qq_b8, qq_b9, qq_b10, qq_b11, qq_b12, qq_b13, qq_b18, qq_b19, qq_s0l, qq_s0r, qq_s1l, qq_s1r, qq_s2l, qq_s2r, qq_s3l, qq_s3r, qq_s6l, qq_s6r, qq_s7l, qq_s7r, qq_bt, qq_bf, qq_l70, qq_l24, qq_l23, qq_l22, qq_l21, qq_l19, qq_l18, qq_l17, qq_l16, qq_l25, qq_l32, qq_l33, qq_l34, qq_l35, qq_l44, qq_l46, qq_l108, qq_l0, qq_l1, qq_l2, qq_l3, qq_l4, qq_l5, qq_l6, qq_l7, qq_l8, qq_l9, qq_l10, qq_l11, qq_l12, qq_l13, qq_l14, qq_l15, qq_l20, qq_l30, qq_l31, qq_l36, qq_l37, qq_l38, qq_l39, qq_l40, qq_l41, qq_l42, qq_l43, qq_l45, qq_l47, qq_l48, qq_l49, qq_l50, qq_l57, qq_l58, qq_l59, qq_l60, qq_l61, qq_l62, qq_l63, qq_l80, qq_l81, qq_l97, qq_l98, qq_l99, qq_l100, qq_l103, qq_l112, qq_l113, qq_l119, qq_l120, qq_l121, qq_l124, qq_l126, qq_l128, qq_l255, qq_l360, qq_l512, qq_l729, qq_zg, qq_zs, qq_zsJ, qq_zgT, qq_ltT, qq_ltF, qq_leT, qq_leF, qq_eqT, qq_eqF, qq_nltT, qq_ltnF, qq_nltnT, qq_nltnF, qq_nleT, qq_lenF, qq_nlenT, qq_nlenF, qq_eqnF, qq_neqF, qq_neqnF, qq_neqnT, nI_add, qq_subT, qq_subF, qq_addnT, qq_addnF, qq_naddT, qq_naddF, pk_mul, qq_and, qq_or, if_true, if_false, not_true, not_false_iff, qq_upd, qq_updE, qq_updN, reduceIte, eq_self, ne_eq, true_and, and_true, Nat.add_zero, Nat.zero_add, Nat.add_sub_cancel]
    rfl
  | succ d ih =>
    intro i fuel base at_ ends fault opened names s h hf
    obtain ⟨f, rfl⟩ : ∃ f, fuel = f + 1 := ⟨fuel - 1, by omega⟩
    rw [f_M_ends1_L38]
    have hvi := hV.1 i (by omega)
    have hle := qq_num_le (qq_cs lv H) q i
    obtain ⟨b1, a1, en1, f1, o1, names1, e1⟩ := qq_mnumberAt hM hH hB hP hL hV.1 hn (k := i) (by omega) base at_ ends fault opened tape names
    obtain ⟨b2, a2, en2, f2, o2, names2, e2⟩ := ih (i + 1) f b1 a1 en1 f1 o1 names1 (upd s.1 (q i) (if W (q i) = -nI 2 then s.1 (q i) else if W (q i) = nI (qq_num (qq_cs lv H) q i) then s.1 (q i) else s.1 (q i) + nI 1), upd s.2 (q i) (if s.2 (q i) < nI (qq_num (qq_cs lv H) q i) then nI (qq_num (qq_cs lv H) q i) else s.2 (q i))) (by omega) (by omega)
    refine ⟨b2, a2, en2, f2, o2, names2, ?_⟩
    rw [qq_enC, ← e2]
    by_cases h4 : nI (qq_num (qq_cs lv H) q i) ≤ s.2 (q i)
    · have h5 := qq_gr_nlt _ _ h4
      by_cases h2 : W (q i) = -nI 2
      · simp (disch := omega) only [hLi i (by omega), e1, h2, h4, h5, qq_add0, qq_b1, qq_b2, qq_b3, qq_b4, qq_b5, qq_b6, qq_b7, qq_b8, qq_b9, qq_b10, qq_b11, qq_b12, qq_b13, qq_b18, qq_b19, qq_s0l, qq_s0r, qq_s1l, qq_s1r, qq_s2l, qq_s2r, qq_s3l, qq_s3r, qq_s6l, qq_s6r, qq_s7l, qq_s7r, qq_bt, qq_bf, qq_l70, qq_l24, qq_l23, qq_l22, qq_l21, qq_l19, qq_l18, qq_l17, qq_l16, qq_l25, qq_l32, qq_l33, qq_l34, qq_l35, qq_l44, qq_l46, qq_l108, qq_l0, qq_l1, qq_l2, qq_l3, qq_l4, qq_l5, qq_l6, qq_l7, qq_l8, qq_l9, qq_l10, qq_l11, qq_l12, qq_l13, qq_l14, qq_l15, qq_l20, qq_l30, qq_l31, qq_l36, qq_l37, qq_l38, qq_l39, qq_l40, qq_l41, qq_l42, qq_l43, qq_l45, qq_l47, qq_l48, qq_l49, qq_l50, qq_l57, qq_l58, qq_l59, qq_l60, qq_l61, qq_l62, qq_l63, qq_l80, qq_l81, qq_l97, qq_l98, qq_l99, qq_l100, qq_l103, qq_l112, qq_l113, qq_l119, qq_l120, qq_l121, qq_l124, qq_l126, qq_l128, qq_l255, qq_l360, qq_l512, qq_l729, qq_zg, qq_zs, qq_zsJ, qq_zgT, qq_ltT, qq_ltF, qq_leT, qq_leF, qq_eqT, qq_eqF, qq_nltT, qq_ltnF, qq_nltnT, qq_nltnF, qq_nleT, qq_lenF, qq_nlenT, qq_nlenF, qq_eqnF, qq_neqF, qq_neqnF, qq_neqnT, nI_add, qq_subT, qq_subF, qq_addnT, qq_addnF, qq_naddT, qq_naddF, pk_mul, qq_and, qq_or, if_true, if_false, not_true, not_false_iff, qq_upd, qq_updE, qq_updN, reduceIte, eq_self, ne_eq, true_and, and_true, Nat.add_zero, Nat.zero_add, Nat.add_sub_cancel]
      · by_cases h3 : W (q i) = nI (qq_num (qq_cs lv H) q i)
        · simp (disch := omega) only [hLi i (by omega), e1, h2, h3, h4, h5, qq_add0, qq_b1, qq_b2, qq_b3, qq_b4, qq_b5, qq_b6, qq_b7, qq_b8, qq_b9, qq_b10, qq_b11, qq_b12, qq_b13, qq_b18, qq_b19, qq_s0l, qq_s0r, qq_s1l, qq_s1r, qq_s2l, qq_s2r, qq_s3l, qq_s3r, qq_s6l, qq_s6r, qq_s7l, qq_s7r, qq_bt, qq_bf, qq_l70, qq_l24, qq_l23, qq_l22, qq_l21, qq_l19, qq_l18, qq_l17, qq_l16, qq_l25, qq_l32, qq_l33, qq_l34, qq_l35, qq_l44, qq_l46, qq_l108, qq_l0, qq_l1, qq_l2, qq_l3, qq_l4, qq_l5, qq_l6, qq_l7, qq_l8, qq_l9, qq_l10, qq_l11, qq_l12, qq_l13, qq_l14, qq_l15, qq_l20, qq_l30, qq_l31, qq_l36, qq_l37, qq_l38, qq_l39, qq_l40, qq_l41, qq_l42, qq_l43, qq_l45, qq_l47, qq_l48, qq_l49, qq_l50, qq_l57, qq_l58, qq_l59, qq_l60, qq_l61, qq_l62, qq_l63, qq_l80, qq_l81, qq_l97, qq_l98, qq_l99, qq_l100, qq_l103, qq_l112, qq_l113, qq_l119, qq_l120, qq_l121, qq_l124, qq_l126, qq_l128, qq_l255, qq_l360, qq_l512, qq_l729, qq_zg, qq_zs, qq_zsJ, qq_zgT, qq_ltT, qq_ltF, qq_leT, qq_leF, qq_eqT, qq_eqF, qq_nltT, qq_ltnF, qq_nltnT, qq_nltnF, qq_nleT, qq_lenF, qq_nlenT, qq_nlenF, qq_eqnF, qq_neqF, qq_neqnF, qq_neqnT, nI_add, qq_subT, qq_subF, qq_addnT, qq_addnF, qq_naddT, qq_naddF, pk_mul, qq_and, qq_or, if_true, if_false, not_true, not_false_iff, qq_upd, qq_updE, qq_updN, reduceIte, eq_self, ne_eq, true_and, and_true, Nat.add_zero, Nat.zero_add, Nat.add_sub_cancel]
        · simp (disch := omega) only [hLi i (by omega), e1, h2, h3, h4, h5, qq_add0, qq_b1, qq_b2, qq_b3, qq_b4, qq_b5, qq_b6, qq_b7, qq_b8, qq_b9, qq_b10, qq_b11, qq_b12, qq_b13, qq_b18, qq_b19, qq_s0l, qq_s0r, qq_s1l, qq_s1r, qq_s2l, qq_s2r, qq_s3l, qq_s3r, qq_s6l, qq_s6r, qq_s7l, qq_s7r, qq_bt, qq_bf, qq_l70, qq_l24, qq_l23, qq_l22, qq_l21, qq_l19, qq_l18, qq_l17, qq_l16, qq_l25, qq_l32, qq_l33, qq_l34, qq_l35, qq_l44, qq_l46, qq_l108, qq_l0, qq_l1, qq_l2, qq_l3, qq_l4, qq_l5, qq_l6, qq_l7, qq_l8, qq_l9, qq_l10, qq_l11, qq_l12, qq_l13, qq_l14, qq_l15, qq_l20, qq_l30, qq_l31, qq_l36, qq_l37, qq_l38, qq_l39, qq_l40, qq_l41, qq_l42, qq_l43, qq_l45, qq_l47, qq_l48, qq_l49, qq_l50, qq_l57, qq_l58, qq_l59, qq_l60, qq_l61, qq_l62, qq_l63, qq_l80, qq_l81, qq_l97, qq_l98, qq_l99, qq_l100, qq_l103, qq_l112, qq_l113, qq_l119, qq_l120, qq_l121, qq_l124, qq_l126, qq_l128, qq_l255, qq_l360, qq_l512, qq_l729, qq_zg, qq_zs, qq_zsJ, qq_zgT, qq_ltT, qq_ltF, qq_leT, qq_leF, qq_eqT, qq_eqF, qq_nltT, qq_ltnF, qq_nltnT, qq_nltnF, qq_nleT, qq_lenF, qq_nlenT, qq_nlenF, qq_eqnF, qq_neqF, qq_neqnF, qq_neqnT, nI_add, qq_subT, qq_subF, qq_addnT, qq_addnF, qq_naddT, qq_naddF, pk_mul, qq_and, qq_or, if_true, if_false, not_true, not_false_iff, qq_upd, qq_updE, qq_updN, reduceIte, eq_self, ne_eq, true_and, and_true, Nat.add_zero, Nat.zero_add, Nat.add_sub_cancel]
    · have h5 := qq_gr_le _ _ h4
      by_cases h2 : W (q i) = -nI 2
      · simp (disch := omega) only [hLi i (by omega), e1, h2, h4, h5, qq_add0, qq_b1, qq_b2, qq_b3, qq_b4, qq_b5, qq_b6, qq_b7, qq_b8, qq_b9, qq_b10, qq_b11, qq_b12, qq_b13, qq_b18, qq_b19, qq_s0l, qq_s0r, qq_s1l, qq_s1r, qq_s2l, qq_s2r, qq_s3l, qq_s3r, qq_s6l, qq_s6r, qq_s7l, qq_s7r, qq_bt, qq_bf, qq_l70, qq_l24, qq_l23, qq_l22, qq_l21, qq_l19, qq_l18, qq_l17, qq_l16, qq_l25, qq_l32, qq_l33, qq_l34, qq_l35, qq_l44, qq_l46, qq_l108, qq_l0, qq_l1, qq_l2, qq_l3, qq_l4, qq_l5, qq_l6, qq_l7, qq_l8, qq_l9, qq_l10, qq_l11, qq_l12, qq_l13, qq_l14, qq_l15, qq_l20, qq_l30, qq_l31, qq_l36, qq_l37, qq_l38, qq_l39, qq_l40, qq_l41, qq_l42, qq_l43, qq_l45, qq_l47, qq_l48, qq_l49, qq_l50, qq_l57, qq_l58, qq_l59, qq_l60, qq_l61, qq_l62, qq_l63, qq_l80, qq_l81, qq_l97, qq_l98, qq_l99, qq_l100, qq_l103, qq_l112, qq_l113, qq_l119, qq_l120, qq_l121, qq_l124, qq_l126, qq_l128, qq_l255, qq_l360, qq_l512, qq_l729, qq_zg, qq_zs, qq_zsJ, qq_zgT, qq_ltT, qq_ltF, qq_leT, qq_leF, qq_eqT, qq_eqF, qq_nltT, qq_ltnF, qq_nltnT, qq_nltnF, qq_nleT, qq_lenF, qq_nlenT, qq_nlenF, qq_eqnF, qq_neqF, qq_neqnF, qq_neqnT, nI_add, qq_subT, qq_subF, qq_addnT, qq_addnF, qq_naddT, qq_naddF, pk_mul, qq_and, qq_or, if_true, if_false, not_true, not_false_iff, qq_upd, qq_updE, qq_updN, reduceIte, eq_self, ne_eq, true_and, and_true, Nat.add_zero, Nat.zero_add, Nat.add_sub_cancel]
      · by_cases h3 : W (q i) = nI (qq_num (qq_cs lv H) q i)
        · simp (disch := omega) only [hLi i (by omega), e1, h2, h3, h4, h5, qq_add0, qq_b1, qq_b2, qq_b3, qq_b4, qq_b5, qq_b6, qq_b7, qq_b8, qq_b9, qq_b10, qq_b11, qq_b12, qq_b13, qq_b18, qq_b19, qq_s0l, qq_s0r, qq_s1l, qq_s1r, qq_s2l, qq_s2r, qq_s3l, qq_s3r, qq_s6l, qq_s6r, qq_s7l, qq_s7r, qq_bt, qq_bf, qq_l70, qq_l24, qq_l23, qq_l22, qq_l21, qq_l19, qq_l18, qq_l17, qq_l16, qq_l25, qq_l32, qq_l33, qq_l34, qq_l35, qq_l44, qq_l46, qq_l108, qq_l0, qq_l1, qq_l2, qq_l3, qq_l4, qq_l5, qq_l6, qq_l7, qq_l8, qq_l9, qq_l10, qq_l11, qq_l12, qq_l13, qq_l14, qq_l15, qq_l20, qq_l30, qq_l31, qq_l36, qq_l37, qq_l38, qq_l39, qq_l40, qq_l41, qq_l42, qq_l43, qq_l45, qq_l47, qq_l48, qq_l49, qq_l50, qq_l57, qq_l58, qq_l59, qq_l60, qq_l61, qq_l62, qq_l63, qq_l80, qq_l81, qq_l97, qq_l98, qq_l99, qq_l100, qq_l103, qq_l112, qq_l113, qq_l119, qq_l120, qq_l121, qq_l124, qq_l126, qq_l128, qq_l255, qq_l360, qq_l512, qq_l729, qq_zg, qq_zs, qq_zsJ, qq_zgT, qq_ltT, qq_ltF, qq_leT, qq_leF, qq_eqT, qq_eqF, qq_nltT, qq_ltnF, qq_nltnT, qq_nltnF, qq_nleT, qq_lenF, qq_nlenT, qq_nlenF, qq_eqnF, qq_neqF, qq_neqnF, qq_neqnT, nI_add, qq_subT, qq_subF, qq_addnT, qq_addnF, qq_naddT, qq_naddF, pk_mul, qq_and, qq_or, if_true, if_false, not_true, not_false_iff, qq_upd, qq_updE, qq_updN, reduceIte, eq_self, ne_eq, true_and, and_true, Nat.add_zero, Nat.zero_add, Nat.add_sub_cancel]
        · simp (disch := omega) only [hLi i (by omega), e1, h2, h3, h4, h5, qq_add0, qq_b1, qq_b2, qq_b3, qq_b4, qq_b5, qq_b6, qq_b7, qq_b8, qq_b9, qq_b10, qq_b11, qq_b12, qq_b13, qq_b18, qq_b19, qq_s0l, qq_s0r, qq_s1l, qq_s1r, qq_s2l, qq_s2r, qq_s3l, qq_s3r, qq_s6l, qq_s6r, qq_s7l, qq_s7r, qq_bt, qq_bf, qq_l70, qq_l24, qq_l23, qq_l22, qq_l21, qq_l19, qq_l18, qq_l17, qq_l16, qq_l25, qq_l32, qq_l33, qq_l34, qq_l35, qq_l44, qq_l46, qq_l108, qq_l0, qq_l1, qq_l2, qq_l3, qq_l4, qq_l5, qq_l6, qq_l7, qq_l8, qq_l9, qq_l10, qq_l11, qq_l12, qq_l13, qq_l14, qq_l15, qq_l20, qq_l30, qq_l31, qq_l36, qq_l37, qq_l38, qq_l39, qq_l40, qq_l41, qq_l42, qq_l43, qq_l45, qq_l47, qq_l48, qq_l49, qq_l50, qq_l57, qq_l58, qq_l59, qq_l60, qq_l61, qq_l62, qq_l63, qq_l80, qq_l81, qq_l97, qq_l98, qq_l99, qq_l100, qq_l103, qq_l112, qq_l113, qq_l119, qq_l120, qq_l121, qq_l124, qq_l126, qq_l128, qq_l255, qq_l360, qq_l512, qq_l729, qq_zg, qq_zs, qq_zsJ, qq_zgT, qq_ltT, qq_ltF, qq_leT, qq_leF, qq_eqT, qq_eqF, qq_nltT, qq_ltnF, qq_nltnT, qq_nltnF, qq_nleT, qq_lenF, qq_nlenT, qq_nlenF, qq_eqnF, qq_neqF, qq_neqnF, qq_neqnT, nI_add, qq_subT, qq_subF, qq_addnT, qq_addnF, qq_naddT, qq_naddF, pk_mul, qq_and, qq_or, if_true, if_false, not_true, not_false_iff, qq_upd, qq_updE, qq_updN, reduceIte, eq_self, ne_eq, true_and, and_true, Nat.add_zero, Nat.zero_add, Nat.add_sub_cancel]
theorem qq_ends1 {tm : Int32} {text : Nat → Int32} {lv : Nat → Nat → Nat → Nat → Nat → Bool} (hM : qq_LM tm text lv) {hts : Nat → Int32} {H : Nat → Nat} {P : Nat} {tl tb : Int32} (hH : ∀ p, p < P → f_M_heightOf tl tb hts (nI p) = some (nI (H p))) (hB : ∀ p, p < P → H p < 1000) (hP : P ≤ 9) {row : Nat → Int32} {q : Nat → Nat} {n : Nat} (hL : qq_Ln row q n) (hV : qq_Vl q n P) (hn : n ≤ 9) (lm : Int32) (line W tape ch gr : Nat → Int32) (base at_ ends fault opened : Int32) (names : Nat → Int32) :
    ∃ (b1 a1 e1 f1 o1 : Int32) (names1 line1 : Nat → Int32), f_M_ends1 tm base at_ ends fault opened lm (nI n) tl tb hts tape text names line row ch gr W = some (b1, a1, e1, f1, o1, nI n, names1, line1, (qq_enC (qq_cs lv H) q W n 0 (ch, gr)).1, (qq_enC (qq_cs lv H) q W n 0 (ch, gr)).2) ∧ qq_Ln line1 q n := by
  obtain ⟨w, e, hw⟩ := qq_e10 (row := row) hn n 0 FU line (by omega) (by rw [qq_FU]; omega)
  have hLw : qq_Ln w q n := fun i hi => by rw [hw i, if_pos (by omega)]; exact hL i hi
  obtain ⟨b1, a1, en1, f1, o1, names1, e1⟩ := qq_e38 hM hH hB hP hLw hL hV hn W tape n 0 FU base at_ ends fault opened names (ch, gr) (by omega) (by rw [qq_FU]; omega)
  refine ⟨b1, a1, en1, f1, o1, names1, w, ?_, hLw⟩
  unfold f_M_ends1
  simp only [] at e1
  simp (disch := omega) only [e, e1, qq_b1, qq_b2, qq_b3, qq_b4, qq_b5, qq_b6, qq_b7, qq_b8, qq_b9, qq_b10, qq_b11, qq_b12, qq_b13, qq_b18, qq_b19, qq_s0l, qq_s0r, qq_s1l, qq_s1r, qq_s2l, qq_s2r, qq_s3l, qq_s3r, qq_s6l, qq_s6r, qq_s7l, qq_s7r, qq_bt, qq_bf, qq_l70, qq_l24, qq_l23, qq_l22, qq_l21, qq_l19, qq_l18, qq_l17, qq_l16, qq_l25, qq_l32, qq_l33, qq_l34, qq_l35, qq_l44, qq_l46, qq_l108, qq_l0, qq_l1, qq_l2, qq_l3, qq_l4, qq_l5, qq_l6, qq_l7, qq_l8, qq_l9, qq_l10, qq_l11, qq_l12, qq_l13, qq_l14, qq_l15, qq_l20, qq_l30, qq_l31, qq_l36, qq_l37, qq_l38, qq_l39, qq_l40, qq_l41, qq_l42, qq_l43, qq_l45, qq_l47, qq_l48, qq_l49, qq_l50, qq_l57, qq_l58, qq_l59, qq_l60, qq_l61, qq_l62, qq_l63, qq_l80, qq_l81, qq_l97, qq_l98, qq_l99, qq_l100, qq_l103, qq_l112, qq_l113, qq_l119, qq_l120, qq_l121, qq_l124, qq_l126, qq_l128, qq_l255, qq_l360, qq_l512, qq_l729, qq_zg, qq_zs, qq_zsJ, qq_zgT, qq_ltT, qq_ltF, qq_leT, qq_leF, qq_eqT, qq_eqF, qq_nltT, qq_ltnF, qq_nltnT, qq_nltnF, qq_nleT, qq_lenF, qq_nlenT, qq_nlenF, qq_eqnF, qq_neqF, qq_neqnF, qq_neqnT, nI_add, qq_subT, qq_subF, qq_addnT, qq_addnF, qq_naddT, qq_naddF, pk_mul, qq_and, qq_or, if_true, if_false, not_true, not_false_iff, qq_upd, qq_updE, qq_updN, reduceIte, eq_self, ne_eq, true_and, and_true, Nat.add_zero, Nat.zero_add, Nat.add_sub_cancel]
