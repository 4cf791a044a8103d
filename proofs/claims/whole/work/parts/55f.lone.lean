/-! LAYER (c): an operand of the law (by wip/whole/c/c.py) -/
theorem qq_m1n : (-nI 1 : Int32) < 0 := by decide +kernel
set_option maxRecDepth 100000 in
set_option maxHeartbeats 4000000 in
theorem qq_onePre {tp : Nat → Int32} {b : Nat → Nat} {n : Nat} (hX : qq_TX tp b n) {fuel o a s : Nat} (ho : o < 6) (h : qq_L6 tp b n (f_M_one fuel) (o + 1)) (ha : a < n) (hc : (b a = 33 ∧ s = 33) ∨ (b a = 45 ∧ s = 126)) :
  (∃ a2 code v, a < a2 ∧ a2 ≤ n ∧ code.length + a ≤ a2 ∧ qq_EV code v ∧ qq_RO b n (f_M_one (fuel + 1)) o a v a2 ∧ ∀ out W ia out2 W2, out.length + W.length ≤ a → qq_fl 6 (out ++ code) W = (out2, W2) → W.length - W2.length ≤ o → qq_to tp n a out W o (nI 1) ia a2 out2 W2 (o - (W.length - W2.length)) (nI 0) ia)
  ∨ (∃ e, e ≤ n ∧ qq_RB b n (f_M_one (fuel + 1)) o a e ∧ ∀ out W ia, out.length + W.length ≤ a → qq_bd tp n a out W o (nI 1) ia e) := by
  have hn := hX.1
  have hop : ∀ out W ia, out.length + W.length ≤ a → qq_to tp n a out W o (nI 1) ia (a + 1) out (s :: W) (o + 1) (nI 1) ia := fun out W ia hl => qq_stOpen hX ha (by omega) ho hl
  have hs : s = 33 ∨ s = 126 := by omega
  have hrs : 6 ≤ ly_rk s := by rcases hs with rfl | rfl <;> decide
  rcases h (a + 1) ha with ⟨a2, code, v, g1, g2, g3, g4, g5, g6⟩ | ⟨e, g1, g2, g3⟩
  · refine Or.inl ⟨a2, code ++ [-nI s], fun nm => qq_un s (v nm), by omega, g2, by rw [qq_len1]; omega, qq_EV_un g4 hs, fun base tape text names hB => ?_, fun out W ia out2 W2 hl hfl hw => ?_⟩
    · have e1 := g5 _ _ _ names hB
      have eB := hB a (by omega)
      rcases hc with ⟨h1, rfl⟩ | ⟨h1, rfl⟩
      · rw [h1] at eB
        rw [f_M_one, if_pos qq_m1n, eB, qq_b1]
        by_cases h0 : v names = nI 0
        · simp (disch := omega) only [e1, h0, qq_un, Nat.reduceEqDiff, qq_b1, qq_b2, qq_b3, qq_b4, qq_b5, qq_b6, qq_b7, qq_b8, qq_b9, qq_b10, qq_b11, qq_b12, qq_b13, qq_b18, qq_b19, qq_s0l, qq_s0r, qq_s1l, qq_s1r, qq_s2l, qq_s2r, qq_s3l, qq_s3r, qq_s6l, qq_s6r, qq_s7l, qq_s7r, qq_bt, qq_bf, qq_l70, qq_l24, qq_l23, qq_l22, qq_l21, qq_l19, qq_l18, qq_l17, qq_l16, qq_l25, qq_l32, qq_l33, qq_l34, qq_l35, qq_l44, qq_l46, qq_l108, qq_l0, qq_l1, qq_l2, qq_l3, qq_l4, qq_l5, qq_l6, qq_l7, qq_l8, qq_l9, qq_l10, qq_l11, qq_l12, qq_l13, qq_l14, qq_l15, qq_l20, qq_l30, qq_l31, qq_l36, qq_l37, qq_l38, qq_l39, qq_l40, qq_l41, qq_l42, qq_l43, qq_l45, qq_l47, qq_l48, qq_l49, qq_l50, qq_l57, qq_l58, qq_l59, qq_l60, qq_l61, qq_l62, qq_l63, qq_l80, qq_l81, qq_l97, qq_l98, qq_l99, qq_l100, qq_l103, qq_l112, qq_l113, qq_l119, qq_l120, qq_l121, qq_l124, qq_l126, qq_l128, qq_l255, qq_l360, qq_l512, qq_l729, qq_zg, qq_zs, qq_zsJ, qq_zgT, qq_ltT, qq_ltF, qq_leT, qq_leF, qq_eqT, qq_eqF, qq_nltT, qq_ltnF, qq_nltnT, qq_nltnF, qq_nleT, qq_lenF, qq_nlenT, qq_nlenF, qq_eqnF, qq_neqF, qq_neqnF, qq_neqnT, nI_add, qq_subT, qq_subF, qq_addnT, qq_addnF, qq_naddT, qq_naddF, pk_mul, qq_and, qq_or, if_true, if_false, not_true, not_false_iff, qq_upd, qq_updE, qq_updN, reduceIte, eq_self, ne_eq, true_and, and_true, Nat.add_zero, Nat.zero_add, Nat.add_sub_cancel]
        · simp (disch := omega) only [e1, h0, qq_un, Nat.reduceEqDiff, qq_b1, qq_b2, qq_b3, qq_b4, qq_b5, qq_b6, qq_b7, qq_b8, qq_b9, qq_b10, qq_b11, qq_b12, qq_b13, qq_b18, qq_b19, qq_s0l, qq_s0r, qq_s1l, qq_s1r, qq_s2l, qq_s2r, qq_s3l, qq_s3r, qq_s6l, qq_s6r, qq_s7l, qq_s7r, qq_bt, qq_bf, qq_l70, qq_l24, qq_l23, qq_l22, qq_l21, qq_l19, qq_l18, qq_l17, qq_l16, qq_l25, qq_l32, qq_l33, qq_l34, qq_l35, qq_l44, qq_l46, qq_l108, qq_l0, qq_l1, qq_l2, qq_l3, qq_l4, qq_l5, qq_l6, qq_l7, qq_l8, qq_l9, qq_l10, qq_l11, qq_l12, qq_l13, qq_l14, qq_l15, qq_l20, qq_l30, qq_l31, qq_l36, qq_l37, qq_l38, qq_l39, qq_l40, qq_l41, qq_l42, qq_l43, qq_l45, qq_l47, qq_l48, qq_l49, qq_l50, qq_l57, qq_l58, qq_l59, qq_l60, qq_l61, qq_l62, qq_l63, qq_l80, qq_l81, qq_l97, qq_l98, qq_l99, qq_l100, qq_l103, qq_l112, qq_l113, qq_l119, qq_l120, qq_l121, qq_l124, qq_l126, qq_l128, qq_l255, qq_l360, qq_l512, qq_l729, qq_zg, qq_zs, qq_zsJ, qq_zgT, qq_ltT, qq_ltF, qq_leT, qq_leF, qq_eqT, qq_eqF, qq_nltT, qq_ltnF, qq_nltnT, qq_nltnF, qq_nleT, qq_lenF, qq_nlenT, qq_nlenF, qq_eqnF, qq_neqF, qq_neqnF, qq_neqnT, nI_add, qq_subT, qq_subF, qq_addnT, qq_addnF, qq_naddT, qq_naddF, pk_mul, qq_and, qq_or, if_true, if_false, not_true, not_false_iff, qq_upd, qq_updE, qq_updN, reduceIte, eq_self, ne_eq, true_and, and_true, Nat.add_zero, Nat.zero_add, Nat.add_sub_cancel]
      · rw [h1] at eB
        rw [f_M_one, if_pos qq_m1n, eB, qq_b1]
        simp (disch := omega) only [e1, qq_un, Nat.reduceEqDiff, qq_b1, qq_b2, qq_b3, qq_b4, qq_b5, qq_b6, qq_b7, qq_b8, qq_b9, qq_b10, qq_b11, qq_b12, qq_b13, qq_b18, qq_b19, qq_s0l, qq_s0r, qq_s1l, qq_s1r, qq_s2l, qq_s2r, qq_s3l, qq_s3r, qq_s6l, qq_s6r, qq_s7l, qq_s7r, qq_bt, qq_bf, qq_l70, qq_l24, qq_l23, qq_l22, qq_l21, qq_l19, qq_l18, qq_l17, qq_l16, qq_l25, qq_l32, qq_l33, qq_l34, qq_l35, qq_l44, qq_l46, qq_l108, qq_l0, qq_l1, qq_l2, qq_l3, qq_l4, qq_l5, qq_l6, qq_l7, qq_l8, qq_l9, qq_l10, qq_l11, qq_l12, qq_l13, qq_l14, qq_l15, qq_l20, qq_l30, qq_l31, qq_l36, qq_l37, qq_l38, qq_l39, qq_l40, qq_l41, qq_l42, qq_l43, qq_l45, qq_l47, qq_l48, qq_l49, qq_l50, qq_l57, qq_l58, qq_l59, qq_l60, qq_l61, qq_l62, qq_l63, qq_l80, qq_l81, qq_l97, qq_l98, qq_l99, qq_l100, qq_l103, qq_l112, qq_l113, qq_l119, qq_l120, qq_l121, qq_l124, qq_l126, qq_l128, qq_l255, qq_l360, qq_l512, qq_l729, qq_zg, qq_zs, qq_zsJ, qq_zgT, qq_ltT, qq_ltF, qq_leT, qq_leF, qq_eqT, qq_eqF, qq_nltT, qq_ltnF, qq_nltnT, qq_nltnF, qq_nleT, qq_lenF, qq_nlenT, qq_nlenF, qq_eqnF, qq_neqF, qq_neqnF, qq_neqnT, nI_add, qq_subT, qq_subF, qq_addnT, qq_addnF, qq_naddT, qq_naddF, pk_mul, qq_and, qq_or, if_true, if_false, not_true, not_false_iff, qq_upd, qq_updE, qq_updN, reduceIte, eq_self, ne_eq, true_and, and_true, Nat.add_zero, Nat.zero_add, Nat.add_sub_cancel]
    · have h2 : qq_fl 6 (out ++ code) (s :: W) = (out2, W2) := by
        rw [qq_fl_go hrs, List.append_assoc]; exact hfl
      have hle := qq_fl_le 6 W (out ++ (code ++ [-nI s]))
      rw [hfl] at hle
      simp only [] at hle
      have t := g6 out (s :: W) ia out2 W2 (by rw [List.length_cons]; omega) h2 (by rw [List.length_cons]; omega)
      rw [List.length_cons, show o + 1 - (W.length + 1 - W2.length) = o - (W.length - W2.length) by omega] at t
      exact qq_to_to (hop out W ia hl) t
  · refine Or.inr ⟨e, g1, fun base tape text names hB => ?_, fun out W ia hl => qq_to_bd (hop out W ia hl) (g3 out (s :: W) ia (by rw [List.length_cons]; omega)) ha⟩
    obtain ⟨r, a2, o2, q1, q2⟩ := g2 base tape text names hB
    have eB := hB a (by omega)
    rcases hc with ⟨h1, rfl⟩ | ⟨h1, rfl⟩
    · rw [h1] at eB
      by_cases h0 : r = nI 0
      · refine ⟨nI 1, a2, o2 - nI 1, q1, ?_⟩
        rw [f_M_one, if_pos qq_m1n, eB, qq_b1]
        simp (disch := omega) only [q2, h0, qq_b1, qq_b2, qq_b3, qq_b4, qq_b5, qq_b6, qq_b7, qq_b8, qq_b9, qq_b10, qq_b11, qq_b12, qq_b13, qq_b18, qq_b19, qq_s0l, qq_s0r, qq_s1l, qq_s1r, qq_s2l, qq_s2r, qq_s3l, qq_s3r, qq_s6l, qq_s6r, qq_s7l, qq_s7r, qq_bt, qq_bf, qq_l70, qq_l24, qq_l23, qq_l22, qq_l21, qq_l19, qq_l18, qq_l17, qq_l16, qq_l25, qq_l32, qq_l33, qq_l34, qq_l35, qq_l44, qq_l46, qq_l108, qq_l0, qq_l1, qq_l2, qq_l3, qq_l4, qq_l5, qq_l6, qq_l7, qq_l8, qq_l9, qq_l10, qq_l11, qq_l12, qq_l13, qq_l14, qq_l15, qq_l20, qq_l30, qq_l31, qq_l36, qq_l37, qq_l38, qq_l39, qq_l40, qq_l41, qq_l42, qq_l43, qq_l45, qq_l47, qq_l48, qq_l49, qq_l50, qq_l57, qq_l58, qq_l59, qq_l60, qq_l61, qq_l62, qq_l63, qq_l80, qq_l81, qq_l97, qq_l98, qq_l99, qq_l100, qq_l103, qq_l112, qq_l113, qq_l119, qq_l120, qq_l121, qq_l124, qq_l126, qq_l128, qq_l255, qq_l360, qq_l512, qq_l729, qq_zg, qq_zs, qq_zsJ, qq_zgT, qq_ltT, qq_ltF, qq_leT, qq_leF, qq_eqT, qq_eqF, qq_nltT, qq_ltnF, qq_nltnT, qq_nltnF, qq_nleT, qq_lenF, qq_nlenT, qq_nlenF, qq_eqnF, qq_neqF, qq_neqnF, qq_neqnT, nI_add, qq_subT, qq_subF, qq_addnT, qq_addnF, qq_naddT, qq_naddF, pk_mul, qq_and, qq_or, if_true, if_false, not_true, not_false_iff, qq_upd, qq_updE, qq_updN, reduceIte, eq_self, ne_eq, true_and, and_true, Nat.add_zero, Nat.zero_add, Nat.add_sub_cancel]
      · refine ⟨nI 0, a2, o2 - nI 1, q1, ?_⟩
        rw [f_M_one, if_pos qq_m1n, eB, qq_b1]
        simp (disch := omega) only [q2, h0, qq_b1, qq_b2, qq_b3, qq_b4, qq_b5, qq_b6, qq_b7, qq_b8, qq_b9, qq_b10, qq_b11, qq_b12, qq_b13, qq_b18, qq_b19, qq_s0l, qq_s0r, qq_s1l, qq_s1r, qq_s2l, qq_s2r, qq_s3l, qq_s3r, qq_s6l, qq_s6r, qq_s7l, qq_s7r, qq_bt, qq_bf, qq_l70, qq_l24, qq_l23, qq_l22, qq_l21, qq_l19, qq_l18, qq_l17, qq_l16, qq_l25, qq_l32, qq_l33, qq_l34, qq_l35, qq_l44, qq_l46, qq_l108, qq_l0, qq_l1, qq_l2, qq_l3, qq_l4, qq_l5, qq_l6, qq_l7, qq_l8, qq_l9, qq_l10, qq_l11, qq_l12, qq_l13, qq_l14, qq_l15, qq_l20, qq_l30, qq_l31, qq_l36, qq_l37, qq_l38, qq_l39, qq_l40, qq_l41, qq_l42, qq_l43, qq_l45, qq_l47, qq_l48, qq_l49, qq_l50, qq_l57, qq_l58, qq_l59, qq_l60, qq_l61, qq_l62, qq_l63, qq_l80, qq_l81, qq_l97, qq_l98, qq_l99, qq_l100, qq_l103, qq_l112, qq_l113, qq_l119, qq_l120, qq_l121, qq_l124, qq_l126, qq_l128, qq_l255, qq_l360, qq_l512, qq_l729, qq_zg, qq_zs, qq_zsJ, qq_zgT, qq_ltT, qq_ltF, qq_leT, qq_leF, qq_eqT, qq_eqF, qq_nltT, qq_ltnF, qq_nltnT, qq_nltnF, qq_nleT, qq_lenF, qq_nlenT, qq_nlenF, qq_eqnF, qq_neqF, qq_neqnF, qq_neqnT, nI_add, qq_subT, qq_subF, qq_addnT, qq_addnF, qq_naddT, qq_naddF, pk_mul, qq_and, qq_or, if_true, if_false, not_true, not_false_iff, qq_upd, qq_updE, qq_updN, reduceIte, eq_self, ne_eq, true_and, and_true, Nat.add_zero, Nat.zero_add, Nat.add_sub_cancel]
    · rw [h1] at eB
      refine ⟨-r, a2, o2 - nI 1, q1, ?_⟩
      rw [f_M_one, if_pos qq_m1n, eB, qq_b1]
      simp (disch := omega) only [q2, qq_b1, qq_b2, qq_b3, qq_b4, qq_b5, qq_b6, qq_b7, qq_b8, qq_b9, qq_b10, qq_b11, qq_b12, qq_b13, qq_b18, qq_b19, qq_s0l, qq_s0r, qq_s1l, qq_s1r, qq_s2l, qq_s2r, qq_s3l, qq_s3r, qq_s6l, qq_s6r, qq_s7l, qq_s7r, qq_bt, qq_bf, qq_l70, qq_l24, qq_l23, qq_l22, qq_l21, qq_l19, qq_l18, qq_l17, qq_l16, qq_l25, qq_l32, qq_l33, qq_l34, qq_l35, qq_l44, qq_l46, qq_l108, qq_l0, qq_l1, qq_l2, qq_l3, qq_l4, qq_l5, qq_l6, qq_l7, qq_l8, qq_l9, qq_l10, qq_l11, qq_l12, qq_l13, qq_l14, qq_l15, qq_l20, qq_l30, qq_l31, qq_l36, qq_l37, qq_l38, qq_l39, qq_l40, qq_l41, qq_l42, qq_l43, qq_l45, qq_l47, qq_l48, qq_l49, qq_l50, qq_l57, qq_l58, qq_l59, qq_l60, qq_l61, qq_l62, qq_l63, qq_l80, qq_l81, qq_l97, qq_l98, qq_l99, qq_l100, qq_l103, qq_l112, qq_l113, qq_l119, qq_l120, qq_l121, qq_l124, qq_l126, qq_l128, qq_l255, qq_l360, qq_l512, qq_l729, qq_zg, qq_zs, qq_zsJ, qq_zgT, qq_ltT, qq_ltF, qq_leT, qq_leF, qq_eqT, qq_eqF, qq_nltT, qq_ltnF, qq_nltnT, qq_nltnF, qq_nleT, qq_lenF, qq_nlenT, qq_nlenF, qq_eqnF, qq_neqF, qq_neqnF, qq_neqnT, nI_add, qq_subT, qq_subF, qq_addnT, qq_addnF, qq_naddT, qq_naddF, pk_mul, qq_and, qq_or, if_true, if_false, not_true, not_false_iff, qq_upd, qq_updE, qq_updN, reduceIte, eq_self, ne_eq, true_and, and_true, Nat.add_zero, Nat.zero_add, Nat.add_sub_cancel]
set_option maxRecDepth 100000 in
set_option maxHeartbeats 4000000 in
theorem qq_oneBr {tp : Nat → Int32} {b : Nat → Nat} {n : Nat} (hX : qq_TX tp b n) {fuel o a : Nat} (ho : o < 6) (h : qq_L6 tp b n (f_M_one fuel) (o + 1)) (ha : a < n) (hc : b a = 40) :
  (∃ a2 code v, a < a2 ∧ a2 ≤ n ∧ code.length + a ≤ a2 ∧ qq_EV code v ∧ qq_RO b n (f_M_one (fuel + 1)) o a v a2 ∧ ∀ out W ia out2 W2, out.length + W.length ≤ a → qq_fl 6 (out ++ code) W = (out2, W2) → W.length - W2.length ≤ o → qq_to tp n a out W o (nI 1) ia a2 out2 W2 (o - (W.length - W2.length)) (nI 0) ia)
  ∨ (∃ e, e ≤ n ∧ qq_RB b n (f_M_one (fuel + 1)) o a e ∧ ∀ out W ia, out.length + W.length ≤ a → qq_bd tp n a out W o (nI 1) ia e) := by
  have hn := hX.1
  have hop : ∀ out W ia, out.length + W.length ≤ a → qq_to tp n a out W o (nI 1) ia (a + 1) out (40 :: W) (o + 1) (nI 1) ia := fun out W ia hl => qq_stOpen hX ha (by omega) ho hl
  rcases qq_eith hX h (a + 1) ha with ⟨a2, code, v, g1, g2, g3, g4, g5, g6⟩ | ⟨e, g1, g2, g3⟩
  · have hb2 := hX.2.2.1 a2
    by_cases h41 : b a2 = 41
    · have hlt : a2 < n := qq_ba hX g2 (by omega)
      refine Or.inl ⟨a2 + 1, code, v, by omega, hlt, by omega, g4, fun base tape text names hB => ?_, fun out W ia out2 W2 hl hfl hw => ?_⟩
      · have e1 := g5 _ _ _ names hB
        have eB := hB a (by omega)
        have eB2 := hB a2 g2
        rw [hc] at eB
        rw [h41] at eB2
        rw [f_M_one, if_pos qq_m1n, eB, qq_b1]
        simp (disch := omega) only [e1, f_M_takes, eB2, qq_b1, qq_b2, qq_b3, qq_b4, qq_b5, qq_b6, qq_b7, qq_b8, qq_b9, qq_b10, qq_b11, qq_b12, qq_b13, qq_b18, qq_b19, qq_s0l, qq_s0r, qq_s1l, qq_s1r, qq_s2l, qq_s2r, qq_s3l, qq_s3r, qq_s6l, qq_s6r, qq_s7l, qq_s7r, qq_bt, qq_bf, qq_l70, qq_l24, qq_l23, qq_l22, qq_l21, qq_l19, qq_l18, qq_l17, qq_l16, qq_l25, qq_l32, qq_l33, qq_l34, qq_l35, qq_l44, qq_l46, qq_l108, qq_l0, qq_l1, qq_l2, qq_l3, qq_l4, qq_l5, qq_l6, qq_l7, qq_l8, qq_l9, qq_l10, qq_l11, qq_l12, qq_l13, qq_l14, qq_l15, qq_l20, qq_l30, qq_l31, qq_l36, qq_l37, qq_l38, qq_l39, qq_l40, qq_l41, qq_l42, qq_l43, qq_l45, qq_l47, qq_l48, qq_l49, qq_l50, qq_l57, qq_l58, qq_l59, qq_l60, qq_l61, qq_l62, qq_l63, qq_l80, qq_l81, qq_l97, qq_l98, qq_l99, qq_l100, qq_l103, qq_l112, qq_l113, qq_l119, qq_l120, qq_l121, qq_l124, qq_l126, qq_l128, qq_l255, qq_l360, qq_l512, qq_l729, qq_zg, qq_zs, qq_zsJ, qq_zgT, qq_ltT, qq_ltF, qq_leT, qq_leF, qq_eqT, qq_eqF, qq_nltT, qq_ltnF, qq_nltnT, qq_nltnF, qq_nleT, qq_lenF, qq_nlenT, qq_nlenF, qq_eqnF, qq_neqF, qq_neqnF, qq_neqnT, nI_add, qq_subT, qq_subF, qq_addnT, qq_addnF, qq_naddT, qq_naddF, pk_mul, qq_and, qq_or, if_true, if_false, not_true, not_false_iff, qq_upd, qq_updE, qq_updN, reduceIte, eq_self, ne_eq, true_and, and_true, Nat.add_zero, Nat.zero_add, Nat.add_sub_cancel]
      · have hle := qq_fl_le 6 W (out ++ code)
        rw [hfl] at hle
        simp only [] at hle
        obtain ⟨out1, W1, s1, s2, s3, s4⟩ := g6 out (40 :: W) ia (by rw [List.length_cons]; omega) (show ly_rk 40 < 1 by decide)
        have t := qq_stClose hX (ia := ia) (o := o + 1) hlt h41 s4 s2 hfl (by omega)
        rw [show o + 1 - 1 - (W.length - W2.length) = o - (W.length - W2.length) by omega] at t
        exact qq_to_to (hop out W ia hl) (qq_to_to s1 t)
    · refine Or.inr ⟨a2, g2, fun base tape text names hB => ?_, fun out W ia hl => ?_⟩
      · have e1 := g5 _ _ _ names hB
        have eB := hB a (by omega)
        have eB2 := hB a2 g2
        rw [hc] at eB
        refine ⟨nI 0, a2, nI (o + 1), g2, ?_⟩
        rw [f_M_one, if_pos qq_m1n, eB, qq_b1]
        simp (disch := omega) only [e1, f_M_takes, f_M_wrong, eB2, qq_b1, qq_b2, qq_b3, qq_b4, qq_b5, qq_b6, qq_b7, qq_b8, qq_b9, qq_b10, qq_b11, qq_b12, qq_b13, qq_b18, qq_b19, qq_s0l, qq_s0r, qq_s1l, qq_s1r, qq_s2l, qq_s2r, qq_s3l, qq_s3r, qq_s6l, qq_s6r, qq_s7l, qq_s7r, qq_bt, qq_bf, qq_l70, qq_l24, qq_l23, qq_l22, qq_l21, qq_l19, qq_l18, qq_l17, qq_l16, qq_l25, qq_l32, qq_l33, qq_l34, qq_l35, qq_l44, qq_l46, qq_l108, qq_l0, qq_l1, qq_l2, qq_l3, qq_l4, qq_l5, qq_l6, qq_l7, qq_l8, qq_l9, qq_l10, qq_l11, qq_l12, qq_l13, qq_l14, qq_l15, qq_l20, qq_l30, qq_l31, qq_l36, qq_l37, qq_l38, qq_l39, qq_l40, qq_l41, qq_l42, qq_l43, qq_l45, qq_l47, qq_l48, qq_l49, qq_l50, qq_l57, qq_l58, qq_l59, qq_l60, qq_l61, qq_l62, qq_l63, qq_l80, qq_l81, qq_l97, qq_l98, qq_l99, qq_l100, qq_l103, qq_l112, qq_l113, qq_l119, qq_l120, qq_l121, qq_l124, qq_l126, qq_l128, qq_l255, qq_l360, qq_l512, qq_l729, qq_zg, qq_zs, qq_zsJ, qq_zgT, qq_ltT, qq_ltF, qq_leT, qq_leF, qq_eqT, qq_eqF, qq_nltT, qq_ltnF, qq_nltnT, qq_nltnF, qq_nleT, qq_lenF, qq_nlenT, qq_nlenF, qq_eqnF, qq_neqF, qq_neqnF, qq_neqnT, nI_add, qq_subT, qq_subF, qq_addnT, qq_addnF, qq_naddT, qq_naddF, pk_mul, qq_and, qq_or, if_true, if_false, not_true, not_false_iff, qq_upd, qq_updE, qq_updN, reduceIte, eq_self, ne_eq, true_and, and_true, Nat.add_zero, Nat.zero_add, Nat.add_sub_cancel]
      · obtain ⟨out1, W1, s1, s2, s3, s4⟩ := g6 out (40 :: W) ia (by rw [List.length_cons]; omega) (show ly_rk 40 < 1 by decide)
        refine qq_to_bd (hop out W ia hl) (qq_to_bd s1 ?_ g2) ha
        by_cases hp : a2 = n ∨ b a2 = 59 ∨ b a2 = 63
        · exact qq_stPartF hX g2 (by omega) hp
        · unfold qq_NX at s3
          exact qq_stSignF hX (by omega) (by omega) s4 (by omega)
  · refine Or.inr ⟨e, g1, fun base tape text names hB => ?_, fun out W ia hl => qq_to_bd (hop out W ia hl) (g3 out (40 :: W) ia (by rw [List.length_cons]; omega) (show ly_rk 40 < 1 by decide)) ha⟩
    obtain ⟨r, a2, o2, q1, q2⟩ := g2 base tape text names hB
    have eB := hB a (by omega)
    rw [hc] at eB
    refine ⟨nI 0, a2, o2, q1, ?_⟩
    rw [f_M_one, if_pos qq_m1n, eB, qq_b1]
    simp (disch := omega) only [q2, f_M_takes, f_M_wrong, qq_b1, qq_b2, qq_b3, qq_b4, qq_b5, qq_b6, qq_b7, qq_b8, qq_b9, qq_b10, qq_b11, qq_b12, qq_b13, qq_b18, qq_b19, qq_s0l, qq_s0r, qq_s1l, qq_s1r, qq_s2l, qq_s2r, qq_s3l, qq_s3r, qq_s6l, qq_s6r, qq_s7l, qq_s7r, qq_bt, qq_bf, qq_l70, qq_l24, qq_l23, qq_l22, qq_l21, qq_l19, qq_l18, qq_l17, qq_l16, qq_l25, qq_l32, qq_l33, qq_l34, qq_l35, qq_l44, qq_l46, qq_l108, qq_l0, qq_l1, qq_l2, qq_l3, qq_l4, qq_l5, qq_l6, qq_l7, qq_l8, qq_l9, qq_l10, qq_l11, qq_l12, qq_l13, qq_l14, qq_l15, qq_l20, qq_l30, qq_l31, qq_l36, qq_l37, qq_l38, qq_l39, qq_l40, qq_l41, qq_l42, qq_l43, qq_l45, qq_l47, qq_l48, qq_l49, qq_l50, qq_l57, qq_l58, qq_l59, qq_l60, qq_l61, qq_l62, qq_l63, qq_l80, qq_l81, qq_l97, qq_l98, qq_l99, qq_l100, qq_l103, qq_l112, qq_l113, qq_l119, qq_l120, qq_l121, qq_l124, qq_l126, qq_l128, qq_l255, qq_l360, qq_l512, qq_l729, qq_zg, qq_zs, qq_zsJ, qq_zgT, qq_ltT, qq_ltF, qq_leT, qq_leF, qq_eqT, qq_eqF, qq_nltT, qq_ltnF, qq_nltnT, qq_nltnF, qq_nleT, qq_lenF, qq_nlenT, qq_nlenF, qq_eqnF, qq_neqF, qq_neqnF, qq_neqnT, nI_add, qq_subT, qq_subF, qq_addnT, qq_addnF, qq_naddT, qq_naddF, pk_mul, qq_and, qq_or, if_true, if_false, not_true, not_false_iff, qq_upd, qq_updE, qq_updN, reduceIte, eq_self, ne_eq, true_and, and_true, Nat.add_zero, Nat.zero_add, Nat.add_sub_cancel]
/-! the reference's operand, case by case -/
set_option maxRecDepth 100000 in
set_option maxHeartbeats 4000000 in
theorem qq_or6 {b : Nat → Nat} {n a fuel : Nat} {base : Int32} {tape text names : Nat → Int32} (hn : a ≤ n ∧ n ≤ 120) (hop : b a = 33 ∨ b a = 45 ∨ b a = 40) (eB : f_M_byteAt base (nI a) (nI n) tape text = some (nI (b a))) :
    f_M_one (fuel + 1) base (nI a) (nI n) (-nI 1) (nI 6) tape text names = some (nI 0, nI a, nI a, nI 6) := by
  rcases hop with h1 | h1 | h1
  · rw [h1] at eB; rw [f_M_one, if_pos qq_m1n, eB, qq_b1]; simp (disch := omega) only [f_M_wrong, qq_b1, qq_b2, qq_b3, qq_b4, qq_b5, qq_b6, qq_b7, qq_b8, qq_b9, qq_b10, qq_b11, qq_b12, qq_b13, qq_b18, qq_b19, qq_s0l, qq_s0r, qq_s1l, qq_s1r, qq_s2l, qq_s2r, qq_s3l, qq_s3r, qq_s6l, qq_s6r, qq_s7l, qq_s7r, qq_bt, qq_bf, qq_l70, qq_l24, qq_l23, qq_l22, qq_l21, qq_l19, qq_l18, qq_l17, qq_l16, qq_l25, qq_l32, qq_l33, qq_l34, qq_l35, qq_l44, qq_l46, qq_l108, qq_l0, qq_l1, qq_l2, qq_l3, qq_l4, qq_l5, qq_l6, qq_l7, qq_l8, qq_l9, qq_l10, qq_l11, qq_l12, qq_l13, qq_l14, qq_l15, qq_l20, qq_l30, qq_l31, qq_l36, qq_l37, qq_l38, qq_l39, qq_l40, qq_l41, qq_l42, qq_l43, qq_l45, qq_l47, qq_l48, qq_l49, qq_l50, qq_l57, qq_l58, qq_l59, qq_l60, qq_l61, qq_l62, qq_l63, qq_l80, qq_l81, qq_l97, qq_l98, qq_l99, qq_l100, qq_l103, qq_l112, qq_l113, qq_l119, qq_l120, qq_l121, qq_l124, qq_l126, qq_l128, qq_l255, qq_l360, qq_l512, qq_l729, qq_zg, qq_zs, qq_zsJ, qq_zgT, qq_ltT, qq_ltF, qq_leT, qq_leF, qq_eqT, qq_eqF, qq_nltT, qq_ltnF, qq_nltnT, qq_nltnF, qq_nleT, qq_lenF, qq_nlenT, qq_nlenF, qq_eqnF, qq_neqF, qq_neqnF, qq_neqnT, nI_add, qq_subT, qq_subF, qq_addnT, qq_addnF, qq_naddT, qq_naddF, pk_mul, qq_and, qq_or, if_true, if_false, not_true, not_false_iff, qq_upd, qq_updE, qq_updN, reduceIte, eq_self, ne_eq, true_and, and_true, Nat.add_zero, Nat.zero_add, Nat.add_sub_cancel]
  · rw [h1] at eB; rw [f_M_one, if_pos qq_m1n, eB, qq_b1]; simp (disch := omega) only [f_M_wrong, qq_b1, qq_b2, qq_b3, qq_b4, qq_b5, qq_b6, qq_b7, qq_b8, qq_b9, qq_b10, qq_b11, qq_b12, qq_b13, qq_b18, qq_b19, qq_s0l, qq_s0r, qq_s1l, qq_s1r, qq_s2l, qq_s2r, qq_s3l, qq_s3r, qq_s6l, qq_s6r, qq_s7l, qq_s7r, qq_bt, qq_bf, qq_l70, qq_l24, qq_l23, qq_l22, qq_l21, qq_l19, qq_l18, qq_l17, qq_l16, qq_l25, qq_l32, qq_l33, qq_l34, qq_l35, qq_l44, qq_l46, qq_l108, qq_l0, qq_l1, qq_l2, qq_l3, qq_l4, qq_l5, qq_l6, qq_l7, qq_l8, qq_l9, qq_l10, qq_l11, qq_l12, qq_l13, qq_l14, qq_l15, qq_l20, qq_l30, qq_l31, qq_l36, qq_l37, qq_l38, qq_l39, qq_l40, qq_l41, qq_l42, qq_l43, qq_l45, qq_l47, qq_l48, qq_l49, qq_l50, qq_l57, qq_l58, qq_l59, qq_l60, qq_l61, qq_l62, qq_l63, qq_l80, qq_l81, qq_l97, qq_l98, qq_l99, qq_l100, qq_l103, qq_l112, qq_l113, qq_l119, qq_l120, qq_l121, qq_l124, qq_l126, qq_l128, qq_l255, qq_l360, qq_l512, qq_l729, qq_zg, qq_zs, qq_zsJ, qq_zgT, qq_ltT, qq_ltF, qq_leT, qq_leF, qq_eqT, qq_eqF, qq_nltT, qq_ltnF, qq_nltnT, qq_nltnF, qq_nleT, qq_lenF, qq_nlenT, qq_nlenF, qq_eqnF, qq_neqF, qq_neqnF, qq_neqnT, nI_add, qq_subT, qq_subF, qq_addnT, qq_addnF, qq_naddT, qq_naddF, pk_mul, qq_and, qq_or, if_true, if_false, not_true, not_false_iff, qq_upd, qq_updE, qq_updN, reduceIte, eq_self, ne_eq, true_and, and_true, Nat.add_zero, Nat.zero_add, Nat.add_sub_cancel]
  · rw [h1] at eB; rw [f_M_one, if_pos qq_m1n, eB, qq_b1]; simp (disch := omega) only [f_M_wrong, qq_b1, qq_b2, qq_b3, qq_b4, qq_b5, qq_b6, qq_b7, qq_b8, qq_b9, qq_b10, qq_b11, qq_b12, qq_b13, qq_b18, qq_b19, qq_s0l, qq_s0r, qq_s1l, qq_s1r, qq_s2l, qq_s2r, qq_s3l, qq_s3r, qq_s6l, qq_s6r, qq_s7l, qq_s7r, qq_bt, qq_bf, qq_l70, qq_l24, qq_l23, qq_l22, qq_l21, qq_l19, qq_l18, qq_l17, qq_l16, qq_l25, qq_l32, qq_l33, qq_l34, qq_l35, qq_l44, qq_l46, qq_l108, qq_l0, qq_l1, qq_l2, qq_l3, qq_l4, qq_l5, qq_l6, qq_l7, qq_l8, qq_l9, qq_l10, qq_l11, qq_l12, qq_l13, qq_l14, qq_l15, qq_l20, qq_l30, qq_l31, qq_l36, qq_l37, qq_l38, qq_l39, qq_l40, qq_l41, qq_l42, qq_l43, qq_l45, qq_l47, qq_l48, qq_l49, qq_l50, qq_l57, qq_l58, qq_l59, qq_l60, qq_l61, qq_l62, qq_l63, qq_l80, qq_l81, qq_l97, qq_l98, qq_l99, qq_l100, qq_l103, qq_l112, qq_l113, qq_l119, qq_l120, qq_l121, qq_l124, qq_l126, qq_l128, qq_l255, qq_l360, qq_l512, qq_l729, qq_zg, qq_zs, qq_zsJ, qq_zgT, qq_ltT, qq_ltF, qq_leT, qq_leF, qq_eqT, qq_eqF, qq_nltT, qq_ltnF, qq_nltnT, qq_nltnF, qq_nleT, qq_lenF, qq_nlenT, qq_nlenF, qq_eqnF, qq_neqF, qq_neqnF, qq_neqnT, nI_add, qq_subT, qq_subF, qq_addnT, qq_addnF, qq_naddT, qq_naddF, pk_mul, qq_and, qq_or, if_true, if_false, not_true, not_false_iff, qq_upd, qq_updE, qq_updN, reduceIte, eq_self, ne_eq, true_and, and_true, Nat.add_zero, Nat.zero_add, Nat.add_sub_cancel]
set_option maxRecDepth 100000 in
set_option maxHeartbeats 4000000 in
theorem qq_orN97 {n a o fuel : Nat} {base : Int32} {tape text names : Nat → Int32} (hn : a ≤ n ∧ n ≤ 120) (eB : f_M_byteAt base (nI a) (nI n) tape text = some (nI 97)) :
    f_M_one (fuel + 1) base (nI a) (nI n) (-nI 1) (nI o) tape text names = some (names 0, nI (a + 1), -nI 1, nI o) := by
  rw [f_M_one, if_pos qq_m1n, eB, qq_b1]
  simp (disch := omega) only [f_M_nameOf, qq_b1, qq_b2, qq_b3, qq_b4, qq_b5, qq_b6, qq_b7, qq_b8, qq_b9, qq_b10, qq_b11, qq_b12, qq_b13, qq_b18, qq_b19, qq_s0l, qq_s0r, qq_s1l, qq_s1r, qq_s2l, qq_s2r, qq_s3l, qq_s3r, qq_s6l, qq_s6r, qq_s7l, qq_s7r, qq_bt, qq_bf, qq_l70, qq_l24, qq_l23, qq_l22, qq_l21, qq_l19, qq_l18, qq_l17, qq_l16, qq_l25, qq_l32, qq_l33, qq_l34, qq_l35, qq_l44, qq_l46, qq_l108, qq_l0, qq_l1, qq_l2, qq_l3, qq_l4, qq_l5, qq_l6, qq_l7, qq_l8, qq_l9, qq_l10, qq_l11, qq_l12, qq_l13, qq_l14, qq_l15, qq_l20, qq_l30, qq_l31, qq_l36, qq_l37, qq_l38, qq_l39, qq_l40, qq_l41, qq_l42, qq_l43, qq_l45, qq_l47, qq_l48, qq_l49, qq_l50, qq_l57, qq_l58, qq_l59, qq_l60, qq_l61, qq_l62, qq_l63, qq_l80, qq_l81, qq_l97, qq_l98, qq_l99, qq_l100, qq_l103, qq_l112, qq_l113, qq_l119, qq_l120, qq_l121, qq_l124, qq_l126, qq_l128, qq_l255, qq_l360, qq_l512, qq_l729, qq_zg, qq_zs, qq_zsJ, qq_zgT, qq_ltT, qq_ltF, qq_leT, qq_leF, qq_eqT, qq_eqF, qq_nltT, qq_ltnF, qq_nltnT, qq_nltnF, qq_nleT, qq_lenF, qq_nlenT, qq_nlenF, qq_eqnF, qq_neqF, qq_neqnF, qq_neqnT, nI_add, qq_subT, qq_subF, qq_addnT, qq_addnF, qq_naddT, qq_naddF, pk_mul, qq_and, qq_or, if_true, if_false, not_true, not_false_iff, qq_upd, qq_updE, qq_updN, reduceIte, eq_self, ne_eq, true_and, and_true, Nat.add_zero, Nat.zero_add, Nat.add_sub_cancel]
set_option maxRecDepth 100000 in
set_option maxHeartbeats 4000000 in
theorem qq_orN98 {n a o fuel : Nat} {base : Int32} {tape text names : Nat → Int32} (hn : a ≤ n ∧ n ≤ 120) (eB : f_M_byteAt base (nI a) (nI n) tape text = some (nI 98)) :
    f_M_one (fuel + 1) base (nI a) (nI n) (-nI 1) (nI o) tape text names = some (names 1, nI (a + 1), -nI 1, nI o) := by
  rw [f_M_one, if_pos qq_m1n, eB, qq_b1]
  simp (disch := omega) only [f_M_nameOf, qq_b1, qq_b2, qq_b3, qq_b4, qq_b5, qq_b6, qq_b7, qq_b8, qq_b9, qq_b10, qq_b11, qq_b12, qq_b13, qq_b18, qq_b19, qq_s0l, qq_s0r, qq_s1l, qq_s1r, qq_s2l, qq_s2r, qq_s3l, qq_s3r, qq_s6l, qq_s6r, qq_s7l, qq_s7r, qq_bt, qq_bf, qq_l70, qq_l24, qq_l23, qq_l22, qq_l21, qq_l19, qq_l18, qq_l17, qq_l16, qq_l25, qq_l32, qq_l33, qq_l34, qq_l35, qq_l44, qq_l46, qq_l108, qq_l0, qq_l1, qq_l2, qq_l3, qq_l4, qq_l5, qq_l6, qq_l7, qq_l8, qq_l9, qq_l10, qq_l11, qq_l12, qq_l13, qq_l14, qq_l15, qq_l20, qq_l30, qq_l31, qq_l36, qq_l37, qq_l38, qq_l39, qq_l40, qq_l41, qq_l42, qq_l43, qq_l45, qq_l47, qq_l48, qq_l49, qq_l50, qq_l57, qq_l58, qq_l59, qq_l60, qq_l61, qq_l62, qq_l63, qq_l80, qq_l81, qq_l97, qq_l98, qq_l99, qq_l100, qq_l103, qq_l112, qq_l113, qq_l119, qq_l120, qq_l121, qq_l124, qq_l126, qq_l128, qq_l255, qq_l360, qq_l512, qq_l729, qq_zg, qq_zs, qq_zsJ, qq_zgT, qq_ltT, qq_ltF, qq_leT, qq_leF, qq_eqT, qq_eqF, qq_nltT, qq_ltnF, qq_nltnT, qq_nltnF, qq_nleT, qq_lenF, qq_nlenT, qq_nlenF, qq_eqnF, qq_neqF, qq_neqnF, qq_neqnT, nI_add, qq_subT, qq_subF, qq_addnT, qq_addnF, qq_naddT, qq_naddF, pk_mul, qq_and, qq_or, if_true, if_false, not_true, not_false_iff, qq_upd, qq_updE, qq_updN, reduceIte, eq_self, ne_eq, true_and, and_true, Nat.add_zero, Nat.zero_add, Nat.add_sub_cancel]
set_option maxRecDepth 100000 in
set_option maxHeartbeats 4000000 in
theorem qq_orN103 {n a o fuel : Nat} {base : Int32} {tape text names : Nat → Int32} (hn : a ≤ n ∧ n ≤ 120) (eB : f_M_byteAt base (nI a) (nI n) tape text = some (nI 103)) :
    f_M_one (fuel + 1) base (nI a) (nI n) (-nI 1) (nI o) tape text names = some (names 2, nI (a + 1), -nI 1, nI o) := by
  rw [f_M_one, if_pos qq_m1n, eB, qq_b1]
  simp (disch := omega) only [f_M_nameOf, qq_b1, qq_b2, qq_b3, qq_b4, qq_b5, qq_b6, qq_b7, qq_b8, qq_b9, qq_b10, qq_b11, qq_b12, qq_b13, qq_b18, qq_b19, qq_s0l, qq_s0r, qq_s1l, qq_s1r, qq_s2l, qq_s2r, qq_s3l, qq_s3r, qq_s6l, qq_s6r, qq_s7l, qq_s7r, qq_bt, qq_bf, qq_l70, qq_l24, qq_l23, qq_l22, qq_l21, qq_l19, qq_l18, qq_l17, qq_l16, qq_l25, qq_l32, qq_l33, qq_l34, qq_l35, qq_l44, qq_l46, qq_l108, qq_l0, qq_l1, qq_l2, qq_l3, qq_l4, qq_l5, qq_l6, qq_l7, qq_l8, qq_l9, qq_l10, qq_l11, qq_l12, qq_l13, qq_l14, qq_l15, qq_l20, qq_l30, qq_l31, qq_l36, qq_l37, qq_l38, qq_l39, qq_l40, qq_l41, qq_l42, qq_l43, qq_l45, qq_l47, qq_l48, qq_l49, qq_l50, qq_l57, qq_l58, qq_l59, qq_l60, qq_l61, qq_l62, qq_l63, qq_l80, qq_l81, qq_l97, qq_l98, qq_l99, qq_l100, qq_l103, qq_l112, qq_l113, qq_l119, qq_l120, qq_l121, qq_l124, qq_l126, qq_l128, qq_l255, qq_l360, qq_l512, qq_l729, qq_zg, qq_zs, qq_zsJ, qq_zgT, qq_ltT, qq_ltF, qq_leT, qq_leF, qq_eqT, qq_eqF, qq_nltT, qq_ltnF, qq_nltnT, qq_nltnF, qq_nleT, qq_lenF, qq_nlenT, qq_nlenF, qq_eqnF, qq_neqF, qq_neqnF, qq_neqnT, nI_add, qq_subT, qq_subF, qq_addnT, qq_addnF, qq_naddT, qq_naddF, pk_mul, qq_and, qq_or, if_true, if_false, not_true, not_false_iff, qq_upd, qq_updE, qq_updN, reduceIte, eq_self, ne_eq, true_and, and_true, Nat.add_zero, Nat.zero_add, Nat.add_sub_cancel]
set_option maxRecDepth 100000 in
set_option maxHeartbeats 4000000 in
theorem qq_orN112 {n a o fuel : Nat} {base : Int32} {tape text names : Nat → Int32} (hn : a ≤ n ∧ n ≤ 120) (eB : f_M_byteAt base (nI a) (nI n) tape text = some (nI 112)) :
    f_M_one (fuel + 1) base (nI a) (nI n) (-nI 1) (nI o) tape text names = some (names 3, nI (a + 1), -nI 1, nI o) := by
  rw [f_M_one, if_pos qq_m1n, eB, qq_b1]
  simp (disch := omega) only [f_M_nameOf, qq_b1, qq_b2, qq_b3, qq_b4, qq_b5, qq_b6, qq_b7, qq_b8, qq_b9, qq_b10, qq_b11, qq_b12, qq_b13, qq_b18, qq_b19, qq_s0l, qq_s0r, qq_s1l, qq_s1r, qq_s2l, qq_s2r, qq_s3l, qq_s3r, qq_s6l, qq_s6r, qq_s7l, qq_s7r, qq_bt, qq_bf, qq_l70, qq_l24, qq_l23, qq_l22, qq_l21, qq_l19, qq_l18, qq_l17, qq_l16, qq_l25, qq_l32, qq_l33, qq_l34, qq_l35, qq_l44, qq_l46, qq_l108, qq_l0, qq_l1, qq_l2, qq_l3, qq_l4, qq_l5, qq_l6, qq_l7, qq_l8, qq_l9, qq_l10, qq_l11, qq_l12, qq_l13, qq_l14, qq_l15, qq_l20, qq_l30, qq_l31, qq_l36, qq_l37, qq_l38, qq_l39, qq_l40, qq_l41, qq_l42, qq_l43, qq_l45, qq_l47, qq_l48, qq_l49, qq_l50, qq_l57, qq_l58, qq_l59, qq_l60, qq_l61, qq_l62, qq_l63, qq_l80, qq_l81, qq_l97, qq_l98, qq_l99, qq_l100, qq_l103, qq_l112, qq_l113, qq_l119, qq_l120, qq_l121, qq_l124, qq_l126, qq_l128, qq_l255, qq_l360, qq_l512, qq_l729, qq_zg, qq_zs, qq_zsJ, qq_zgT, qq_ltT, qq_ltF, qq_leT, qq_leF, qq_eqT, qq_eqF, qq_nltT, qq_ltnF, qq_nltnT, qq_nltnF, qq_nleT, qq_lenF, qq_nlenT, qq_nlenF, qq_eqnF, qq_neqF, qq_neqnF, qq_neqnT, nI_add, qq_subT, qq_subF, qq_addnT, qq_addnF, qq_naddT, qq_naddF, pk_mul, qq_and, qq_or, if_true, if_false, not_true, not_false_iff, qq_upd, qq_updE, qq_updN, reduceIte, eq_self, ne_eq, true_and, and_true, Nat.add_zero, Nat.zero_add, Nat.add_sub_cancel]
set_option maxRecDepth 100000 in
set_option maxHeartbeats 4000000 in
theorem qq_orN113 {n a o fuel : Nat} {base : Int32} {tape text names : Nat → Int32} (hn : a ≤ n ∧ n ≤ 120) (eB : f_M_byteAt base (nI a) (nI n) tape text = some (nI 113)) :
    f_M_one (fuel + 1) base (nI a) (nI n) (-nI 1) (nI o) tape text names = some (names 4, nI (a + 1), -nI 1, nI o) := by
  rw [f_M_one, if_pos qq_m1n, eB, qq_b1]
  simp (disch := omega) only [f_M_nameOf, qq_b1, qq_b2, qq_b3, qq_b4, qq_b5, qq_b6, qq_b7, qq_b8, qq_b9, qq_b10, qq_b11, qq_b12, qq_b13, qq_b18, qq_b19, qq_s0l, qq_s0r, qq_s1l, qq_s1r, qq_s2l, qq_s2r, qq_s3l, qq_s3r, qq_s6l, qq_s6r, qq_s7l, qq_s7r, qq_bt, qq_bf, qq_l70, qq_l24, qq_l23, qq_l22, qq_l21, qq_l19, qq_l18, qq_l17, qq_l16, qq_l25, qq_l32, qq_l33, qq_l34, qq_l35, qq_l44, qq_l46, qq_l108, qq_l0, qq_l1, qq_l2, qq_l3, qq_l4, qq_l5, qq_l6, qq_l7, qq_l8, qq_l9, qq_l10, qq_l11, qq_l12, qq_l13, qq_l14, qq_l15, qq_l20, qq_l30, qq_l31, qq_l36, qq_l37, qq_l38, qq_l39, qq_l40, qq_l41, qq_l42, qq_l43, qq_l45, qq_l47, qq_l48, qq_l49, qq_l50, qq_l57, qq_l58, qq_l59, qq_l60, qq_l61, qq_l62, qq_l63, qq_l80, qq_l81, qq_l97, qq_l98, qq_l99, qq_l100, qq_l103, qq_l112, qq_l113, qq_l119, qq_l120, qq_l121, qq_l124, qq_l126, qq_l128, qq_l255, qq_l360, qq_l512, qq_l729, qq_zg, qq_zs, qq_zsJ, qq_zgT, qq_ltT, qq_ltF, qq_leT, qq_leF, qq_eqT, qq_eqF, qq_nltT, qq_ltnF, qq_nltnT, qq_nltnF, qq_nleT, qq_lenF, qq_nlenT, qq_nlenF, qq_eqnF, qq_neqF, qq_neqnF, qq_neqnT, nI_add, qq_subT, qq_subF, qq_addnT, qq_addnF, qq_naddT, qq_naddF, pk_mul, qq_and, qq_or, if_true, if_false, not_true, not_false_iff, qq_upd, qq_updE, qq_updN, reduceIte, eq_self, ne_eq, true_and, and_true, Nat.add_zero, Nat.zero_add, Nat.add_sub_cancel]
theorem qq_orNm {b : Nat → Nat} {n a o fuel : Nat} {base : Int32} {tape text names : Nat → Int32} (hn : a ≤ n ∧ n ≤ 120) (hnm : b a = 97 ∨ b a = 98 ∨ b a = 103 ∨ b a = 112 ∨ b a = 113) (eB : f_M_byteAt base (nI a) (nI n) tape text = some (nI (b a))) :
    f_M_one (fuel + 1) base (nI a) (nI n) (-nI 1) (nI o) tape text names = some (names (qq_nx (b a)), nI (a + 1), -nI 1, nI o) := by
  rcases hnm with h1 | h1 | h1 | h1 | h1 <;> rw [h1] at eB ⊢
  · exact qq_orN97 hn eB
  · exact qq_orN98 hn eB
  · exact qq_orN103 hn eB
  · exact qq_orN112 hn eB
  · exact qq_orN113 hn eB
/-! neither a sign nor a name: what the digits give -/
set_option maxRecDepth 100000 in
set_option maxHeartbeats 4000000 in
theorem qq_orD {c n a o fuel : Nat} {base : Int32} {tape text names : Nat → Int32} (hn : a ≤ n ∧ n ≤ 120) (hc : c < 256 ∧ (c ≠ 33 ∧ c ≠ 45 ∧ c ≠ 40 ∧ c ≠ 97 ∧ c ≠ 98 ∧ c ≠ 103 ∧ c ≠ 112 ∧ c ≠ 113)) (eB : f_M_byteAt base (nI a) (nI n) tape text = some (nI c)) :
    f_M_one (fuel + 1) base (nI a) (nI n) (-nI 1) (nI o) tape text names = zb3 (f_M_one_L176 base (nI n) tape text FU (nI a) (nI 0) (nI 0)) fun at__60 v3_61 v4_62 => if v4_62 = nI 0 then (zb2 (f_M_wrong at__60 (-nI 1)) fun r_63 fault_64 => (some (r_63, at__60, fault_64, nI o))) else (some (v3_61, at__60, -nI 1, nI o)) := by
  have hno : f_M_nameOf (nI c) = -nI 1 := by
    unfold f_M_nameOf
    simp (disch := omega) only [qq_b1, qq_b2, qq_b3, qq_b4, qq_b5, qq_b6, qq_b7, qq_b8, qq_b9, qq_b10, qq_b11, qq_b12, qq_b13, qq_b18, qq_b19, qq_s0l, qq_s0r, qq_s1l, qq_s1r, qq_s2l, qq_s2r, qq_s3l, qq_s3r, qq_s6l, qq_s6r, qq_s7l, qq_s7r, qq_bt, qq_bf, qq_l70, qq_l24, qq_l23, qq_l22, qq_l21, qq_l19, qq_l18, qq_l17, qq_l16, qq_l25, qq_l32, qq_l33, qq_l34, qq_l35, qq_l44, qq_l46, qq_l108, qq_l0, qq_l1, qq_l2, qq_l3, qq_l4, qq_l5, qq_l6, qq_l7, qq_l8, qq_l9, qq_l10, qq_l11, qq_l12, qq_l13, qq_l14, qq_l15, qq_l20, qq_l30, qq_l31, qq_l36, qq_l37, qq_l38, qq_l39, qq_l40, qq_l41, qq_l42, qq_l43, qq_l45, qq_l47, qq_l48, qq_l49, qq_l50, qq_l57, qq_l58, qq_l59, qq_l60, qq_l61, qq_l62, qq_l63, qq_l80, qq_l81, qq_l97, qq_l98, qq_l99, qq_l100, qq_l103, qq_l112, qq_l113, qq_l119, qq_l120, qq_l121, qq_l124, qq_l126, qq_l128, qq_l255, qq_l360, qq_l512, qq_l729, qq_zg, qq_zs, qq_zsJ, qq_zgT, qq_ltT, qq_ltF, qq_leT, qq_leF, qq_eqT, qq_eqF, qq_nltT, qq_ltnF, qq_nltnT, qq_nltnF, qq_nleT, qq_lenF, qq_nlenT, qq_nlenF, qq_eqnF, qq_neqF, qq_neqnF, qq_neqnT, nI_add, qq_subT, qq_subF, qq_addnT, qq_addnF, qq_naddT, qq_naddF, pk_mul, qq_and, qq_or, if_true, if_false, not_true, not_false_iff, qq_upd, qq_updE, qq_updN, reduceIte, eq_self, ne_eq, true_and, and_true, Nat.add_zero, Nat.zero_add, Nat.add_sub_cancel]
  have k1 : ¬ nI c = 33 := by rw [qq_l33, qq_eqF ⟨by omega, by omega, by omega⟩]; exact not_false
  have k2 : ¬ nI c = 45 := by rw [qq_l45, qq_eqF ⟨by omega, by omega, by omega⟩]; exact not_false
  have k3 : ¬ nI c = 40 := by rw [qq_l40, qq_eqF ⟨by omega, by omega, by omega⟩]; exact not_false
  rw [f_M_one, if_pos qq_m1n, eB, qq_b1, if_neg k1, if_neg k2, if_neg k3, hno, if_pos qq_m1n]
  rfl
theorem qq_fz3 {T1 T2 T3 ρ : Type} {o : Option (T1 × T2 × T3)} {x1 : T1} {x2 : T2} {x3 : T3} {k : T1 → T2 → T3 → Option ρ} {r : Option ρ} (h : o = some (x1, x2, x3)) (h2 : k x1 x2 x3 = r) : zb3 o k = r := by subst h; exact h2
set_option maxRecDepth 100000 in
set_option maxHeartbeats 4000000 in
theorem qq_orNum {c n a o fuel m2 y : Nat} {base : Int32} {tape text names : Nat → Int32} (hn : a ≤ n ∧ n ≤ 120) (hc : c < 256 ∧ (c ≠ 33 ∧ c ≠ 45 ∧ c ≠ 40 ∧ c ≠ 97 ∧ c ≠ 98 ∧ c ≠ 103 ∧ c ≠ 112 ∧ c ≠ 113)) (eB : f_M_byteAt base (nI a) (nI n) tape text = some (nI c)) (e1 : f_M_one_L176 base (nI n) tape text FU (nI a) (nI 0) (nI 0) = some (nI (a + m2), nI y, nI m2)) (hm : 0 < m2 ∧ m2 ≤ 4) :
    f_M_one (fuel + 1) base (nI a) (nI n) (-nI 1) (nI o) tape text names = some (nI y, nI (a + m2), -nI 1, nI o) := by
  have h0 : ¬ nI m2 = nI 0 := by rw [qq_eqF ⟨by omega, by omega, by omega⟩]; exact not_false
  exact (qq_orD hn hc eB).trans (qq_fz3 e1 (if_neg h0))
set_option maxRecDepth 100000 in
set_option maxHeartbeats 4000000 in
theorem qq_orFL {c n a : Nat} {base : Int32} {tape text : Nat → Int32} (hn : a ≤ n ∧ n ≤ 120) (hb : c < 256) (eB : f_M_byteAt base (nI a) (nI n) tape text = some (nI c)) (hd : c < 48 ∨ 57 < c) : ∀ fuel, 0 < fuel → f_M_one_L176 base (nI n) tape text fuel (nI a) (nI 0) (nI 0) = some (nI a, nI 0, nI 0) := by
  intro fuel hf
  obtain ⟨f, rfl⟩ : ∃ f, fuel = f + 1 := ⟨fuel - 1, by omega⟩
  rw [f_M_one_L176]
  rcases hd with h | h
  · simp (disch := omega) only [eB, qq_b1, qq_b2, qq_b3, qq_b4, qq_b5, qq_b6, qq_b7, qq_b8, qq_b9, qq_b10, qq_b11, qq_b12, qq_b13, qq_b18, qq_b19, qq_s0l, qq_s0r, qq_s1l, qq_s1r, qq_s2l, qq_s2r, qq_s3l, qq_s3r, qq_s6l, qq_s6r, qq_s7l, qq_s7r, qq_bt, qq_bf, qq_l70, qq_l24, qq_l23, qq_l22, qq_l21, qq_l19, qq_l18, qq_l17, qq_l16, qq_l25, qq_l32, qq_l33, qq_l34, qq_l35, qq_l44, qq_l46, qq_l108, qq_l0, qq_l1, qq_l2, qq_l3, qq_l4, qq_l5, qq_l6, qq_l7, qq_l8, qq_l9, qq_l10, qq_l11, qq_l12, qq_l13, qq_l14, qq_l15, qq_l20, qq_l30, qq_l31, qq_l36, qq_l37, qq_l38, qq_l39, qq_l40, qq_l41, qq_l42, qq_l43, qq_l45, qq_l47, qq_l48, qq_l49, qq_l50, qq_l57, qq_l58, qq_l59, qq_l60, qq_l61, qq_l62, qq_l63, qq_l80, qq_l81, qq_l97, qq_l98, qq_l99, qq_l100, qq_l103, qq_l112, qq_l113, qq_l119, qq_l120, qq_l121, qq_l124, qq_l126, qq_l128, qq_l255, qq_l360, qq_l512, qq_l729, qq_zg, qq_zs, qq_zsJ, qq_zgT, qq_ltT, qq_ltF, qq_leT, qq_leF, qq_eqT, qq_eqF, qq_nltT, qq_ltnF, qq_nltnT, qq_nltnF, qq_nleT, qq_lenF, qq_nlenT, qq_nlenF, qq_eqnF, qq_neqF, qq_neqnF, qq_neqnT, nI_add, qq_subT, qq_subF, qq_addnT, qq_addnF, qq_naddT, qq_naddF, pk_mul, qq_and, qq_or, if_true, if_false, not_true, not_false_iff, qq_upd, qq_updE, qq_updN, reduceIte, eq_self, ne_eq, true_and, and_true, Nat.add_zero, Nat.zero_add, Nat.add_sub_cancel]
  · simp (disch := omega) only [eB, qq_b1, qq_b2, qq_b3, qq_b4, qq_b5, qq_b6, qq_b7, qq_b8, qq_b9, qq_b10, qq_b11, qq_b12, qq_b13, qq_b18, qq_b19, qq_s0l, qq_s0r, qq_s1l, qq_s1r, qq_s2l, qq_s2r, qq_s3l, qq_s3r, qq_s6l, qq_s6r, qq_s7l, qq_s7r, qq_bt, qq_bf, qq_l70, qq_l24, qq_l23, qq_l22, qq_l21, qq_l19, qq_l18, qq_l17, qq_l16, qq_l25, qq_l32, qq_l33, qq_l34, qq_l35, qq_l44, qq_l46, qq_l108, qq_l0, qq_l1, qq_l2, qq_l3, qq_l4, qq_l5, qq_l6, qq_l7, qq_l8, qq_l9, qq_l10, qq_l11, qq_l12, qq_l13, qq_l14, qq_l15, qq_l20, qq_l30, qq_l31, qq_l36, qq_l37, qq_l38, qq_l39, qq_l40, qq_l41, qq_l42, qq_l43, qq_l45, qq_l47, qq_l48, qq_l49, qq_l50, qq_l57, qq_l58, qq_l59, qq_l60, qq_l61, qq_l62, qq_l63, qq_l80, qq_l81, qq_l97, qq_l98, qq_l99, qq_l100, qq_l103, qq_l112, qq_l113, qq_l119, qq_l120, qq_l121, qq_l124, qq_l126, qq_l128, qq_l255, qq_l360, qq_l512, qq_l729, qq_zg, qq_zs, qq_zsJ, qq_zgT, qq_ltT, qq_ltF, qq_leT, qq_leF, qq_eqT, qq_eqF, qq_nltT, qq_ltnF, qq_nltnT, qq_nltnF, qq_nleT, qq_lenF, qq_nlenT, qq_nlenF, qq_eqnF, qq_neqF, qq_neqnF, qq_neqnT, nI_add, qq_subT, qq_subF, qq_addnT, qq_addnF, qq_naddT, qq_naddF, pk_mul, qq_and, qq_or, if_true, if_false, not_true, not_false_iff, qq_upd, qq_updE, qq_updN, reduceIte, eq_self, ne_eq, true_and, and_true, Nat.add_zero, Nat.zero_add, Nat.add_sub_cancel]
theorem qq_wrong {a : Nat} : f_M_wrong (nI a) (-nI 1) = some (nI 0, nI a) := by
  unfold f_M_wrong
  rw [if_neg (show ¬ (0 : Int32) ≤ -nI 1 by decide +kernel)]
  rfl
set_option maxRecDepth 100000 in
set_option maxHeartbeats 4000000 in
theorem qq_orF {c n a o fuel : Nat} {base : Int32} {tape text names : Nat → Int32} (hn : a ≤ n ∧ n ≤ 120) (hc : c < 256 ∧ (c ≠ 33 ∧ c ≠ 45 ∧ c ≠ 40 ∧ c ≠ 97 ∧ c ≠ 98 ∧ c ≠ 103 ∧ c ≠ 112 ∧ c ≠ 113)) (eB : f_M_byteAt base (nI a) (nI n) tape text = some (nI c)) (hd : c < 48 ∨ 57 < c) :
    f_M_one (fuel + 1) base (nI a) (nI n) (-nI 1) (nI o) tape text names = some (nI 0, nI a, nI a, nI o) := by
  refine (qq_orD hn hc eB).trans (qq_fz3 (qq_orFL hn hc.1 eB hd FU (by rw [qq_FU]; omega)) ((if_pos rfl).trans ?_))
  rw [qq_wrong, qq_b2]
set_option maxRecDepth 100000 in
set_option maxHeartbeats 4000000 in
theorem qq_oneS {tp : Nat → Int32} {b : Nat → Nat} {n : Nat} (hX : qq_TX tp b n) {fuel o : Nat} (ho : o ≤ 6) (h : o < 6 → qq_L6 tp b n (f_M_one fuel) (o + 1)) : qq_L6 tp b n (f_M_one (fuel + 1)) o := by
  intro a ha
  have hn := hX.1
  have hb := hX.2.2.1 a
  by_cases hop : b a = 33 ∨ b a = 45 ∨ b a = 40
  · have hlt : a < n := qq_ba hX ha (by omega)
    rcases Nat.lt_or_ge o 6 with h6 | h6
    · rcases hop with h1 | h1 | h1
      · exact qq_onePre hX h6 (h h6) hlt (Or.inl ⟨h1, rfl⟩)
      · exact qq_onePre hX h6 (h h6) hlt (Or.inr ⟨h1, rfl⟩)
      · exact qq_oneBr hX h6 (h h6) hlt h1
    · obtain rfl : o = 6 := by omega
      exact Or.inr ⟨a, ha, fun base tape text names hB => ⟨nI 0, a, nI 6, ha, qq_or6 ⟨ha, hn⟩ hop (hB a ha)⟩, fun out W ia hl => qq_stOpenF hX hlt hop⟩
  · by_cases hnm : b a = 97 ∨ b a = 98 ∨ b a = 103 ∨ b a = 112 ∨ b a = 113
    · have hlt : a < n := qq_ba hX ha (by omega)
      exact Or.inl ⟨a + 1, [-nI (b a)], fun nm => nm (qq_nx (b a)), by omega, hlt, Nat.le_of_eq (Nat.add_comm 1 a), qq_EV_name hnm, fun base tape text names hB => qq_orNm ⟨ha, hn⟩ hnm (hB a ha), fun out W ia out2 W2 hl hfl hw => qq_stName hX hlt hnm hl ⟨hw, ho⟩ hfl⟩
    · by_cases hd : 48 ≤ b a ∧ b a ≤ 57
      · have hlt : a < n := qq_ba hX ha (by omega)
        obtain ⟨m2, y, h1, h2, h3, h4, h5, h6, h7, h8⟩ := qq_numL hX (a := a) 4 0 0 rfl (by decide) ha
        have hm : 0 < m2 := h5 (by omega) hd.1 hd.2
        refine Or.inl ⟨a + m2, [nI y], fun _ => nI y, by omega, h3, by rw [List.length_cons, List.length_nil]; omega, qq_EV_num h4, fun base tape text names hB => ?_, fun out W ia out2 W2 hl hfl hw => qq_stNum hX hd h3 ⟨hm, h2⟩ h7 hl ⟨hw, ho⟩ hfl⟩
        exact qq_orNum ⟨ha, hn⟩ ⟨hb, by omega⟩ (hB a ha) (by have e1 := h8 base tape text FU (by rw [qq_FU]; omega) hB; rw [Nat.add_zero] at e1; exact e1) ⟨hm, h2⟩
      · refine Or.inr ⟨a, ha, fun base tape text names hB => ⟨nI 0, a, nI o, ha, ?_⟩, fun out W ia hl => qq_stOperF hX ha (by omega)⟩
        exact qq_orF ⟨ha, hn⟩ ⟨hb, by omega⟩ (hB a ha) (by omega)
theorem qq_one {tp : Nat → Int32} {b : Nat → Nat} {n : Nat} (hX : qq_TX tp b n) : ∀ fuel o, o ≤ 6 → 7 ≤ fuel + o → qq_L6 tp b n (f_M_one fuel) o := by
  intro fuel
  induction fuel with
  | zero => intro o h1 h2; omega
  | succ fuel ih => intro o h1 h2; exact qq_oneS hX h1 (fun h => ih (o + 1) h (by omega))
theorem qq_expr {tp : Nat → Int32} {b : Nat → Nat} {n : Nat} (hX : qq_TX tp b n) : qq_LV tp b n 1 (f_M_either (f_M_one 20)) 0 := qq_eith hX (qq_one hX 20 0 (by omega) (by omega))
