/-! LAYER (c): a row of people (by wip/whole/c/c.py) -/
/-- put in, taken out, changed -/
def qq_ins (q : Nat → Nat) (k p : Nat) : Nat → Nat := fun i => if i < k then q i else if i = k then p else q (i - 1)
def qq_rem (q : Nat → Nat) (k : Nat) : Nat → Nat := fun i => if i < k then q i else q (i + 1)
def qq_swp (q : Nat → Nat) (i j : Nat) : Nat → Nat := fun t => if t = j then q i else if t = i then q j else q t
/-- the place of one: n where there is none -/
def qq_pl (q : Nat → Nat) (n p : Nat) : Nat := qq_fst (fun j => q j == p) n 0
theorem qq_pl_le (q : Nat → Nat) (n p : Nat) : qq_pl q n p ≤ n := by
  have := qq_fst_le (fun j => q j == p) n 0
  unfold qq_pl; omega
theorem qq_pl_is {q : Nat → Nat} {n p : Nat} (h : qq_pl q n p < n) : q (qq_pl q n p) = p := by
  have := qq_fst_is (fun j => q j == p) n 0 (by unfold qq_pl at h; omega)
  simpa [qq_pl] using this
theorem qq_pl_not {q : Nat → Nat} {n p : Nat} (h : ¬ qq_pl q n p < n) : ∀ j, j < n → q j ≠ p := by
  intro j hj e
  have := qq_fst_not (fun j => q j == p) n 0 j (by omega) (by have := qq_pl_le q n p; unfold qq_pl at h this; omega)
  simp [e] at this
theorem qq_pl_eq {q : Nat → Nat} {n P j : Nat} (hV : qq_Vl q n P) (hj : j < n) : qq_pl q n (q j) = j := by
  have h1 : qq_pl q n (q j) < n := by
    rcases Nat.lt_or_ge (qq_pl q n (q j)) n with h | h
    · exact h
    · exact absurd rfl (qq_pl_not (q := q) (n := n) (p := q j) (by omega) j hj)
  exact hV.2 _ _ h1 hj (qq_pl_is h1)
theorem qq_isPlaceT {n j : Nat} (h : j < n ∧ n < 1000) : f_Line_isPlace (nI n) (nI j) = nI 1 := by
  unfold f_Line_isPlace; simp (disch := omega) only [qq_b1, qq_b2, qq_b3, qq_b4, qq_b5, qq_b6, qq_b7, qq_b8, qq_b9, qq_b10, qq_b11, qq_b12, qq_b13, qq_b18, qq_b19, qq_s0l, qq_s0r, qq_s1l, qq_s1r, qq_s2l, qq_s2r, qq_s3l, qq_s3r, qq_s6l, qq_s6r, qq_s7l, qq_s7r, qq_bt, qq_bf, qq_l70, qq_l24, qq_l23, qq_l22, qq_l21, qq_l19, qq_l18, qq_l17, qq_l16, qq_l25, qq_l32, qq_l33, qq_l34, qq_l35, qq_l44, qq_l46, qq_l108, qq_l0, qq_l1, qq_l2, qq_l3, qq_l4, qq_l5, qq_l6, qq_l7, qq_l8, qq_l9, qq_l10, qq_l11, qq_l12, qq_l13, qq_l14, qq_l15, qq_l20, qq_l30, qq_l31, qq_l36, qq_l37, qq_l38, qq_l39, qq_l40, qq_l41, qq_l42, qq_l43, qq_l45, qq_l47, qq_l48, qq_l49, qq_l50, qq_l57, qq_l58, qq_l59, qq_l60, qq_l61, qq_l62, qq_l63, qq_l80, qq_l81, qq_l97, qq_l98, qq_l99, qq_l100, qq_l103, qq_l112, qq_l113, qq_l119, qq_l120, qq_l121, qq_l124, qq_l126, qq_l128, qq_l255, qq_l360, qq_l512, qq_l729, qq_zg, qq_zs, qq_zsJ, qq_zgT, qq_ltT, qq_ltF, qq_leT, qq_leF, qq_eqT, qq_eqF, qq_nltT, qq_ltnF, qq_nltnT, qq_nltnF, qq_nleT, qq_lenF, qq_nlenT, qq_nlenF, qq_eqnF, qq_neqF, qq_neqnF, qq_neqnT, nI_add, qq_subT, qq_subF, qq_addnT, qq_addnF, qq_naddT, qq_naddF, pk_mul, qq_and, qq_or, if_true, if_false, not_true, not_false_iff, qq_upd, qq_updE, qq_updN, reduceIte, eq_self, ne_eq, true_and, and_true, Nat.add_zero, Nat.zero_add, Nat.add_sub_cancel]
theorem qq_isPlaceF {n j : Nat} (h : n ≤ j ∧ j < 2147483648) : f_Line_isPlace (nI n) (nI j) = nI 0 := by
  unfold f_Line_isPlace; simp (disch := omega) only [qq_b1, qq_b2, qq_b3, qq_b4, qq_b5, qq_b6, qq_b7, qq_b8, qq_b9, qq_b10, qq_b11, qq_b12, qq_b13, qq_b18, qq_b19, qq_s0l, qq_s0r, qq_s1l, qq_s1r, qq_s2l, qq_s2r, qq_s3l, qq_s3r, qq_s6l, qq_s6r, qq_s7l, qq_s7r, qq_bt, qq_bf, qq_l70, qq_l24, qq_l23, qq_l22, qq_l21, qq_l19, qq_l18, qq_l17, qq_l16, qq_l25, qq_l32, qq_l33, qq_l34, qq_l35, qq_l44, qq_l46, qq_l108, qq_l0, qq_l1, qq_l2, qq_l3, qq_l4, qq_l5, qq_l6, qq_l7, qq_l8, qq_l9, qq_l10, qq_l11, qq_l12, qq_l13, qq_l14, qq_l15, qq_l20, qq_l30, qq_l31, qq_l36, qq_l37, qq_l38, qq_l39, qq_l40, qq_l41, qq_l42, qq_l43, qq_l45, qq_l47, qq_l48, qq_l49, qq_l50, qq_l57, qq_l58, qq_l59, qq_l60, qq_l61, qq_l62, qq_l63, qq_l80, qq_l81, qq_l97, qq_l98, qq_l99, qq_l100, qq_l103, qq_l112, qq_l113, qq_l119, qq_l120, qq_l121, qq_l124, qq_l126, qq_l128, qq_l255, qq_l360, qq_l512, qq_l729, qq_zg, qq_zs, qq_zsJ, qq_zgT, qq_ltT, qq_ltF, qq_leT, qq_leF, qq_eqT, qq_eqF, qq_nltT, qq_ltnF, qq_nltnT, qq_nltnF, qq_nleT, qq_lenF, qq_nlenT, qq_nlenF, qq_eqnF, qq_neqF, qq_neqnF, qq_neqnT, nI_add, qq_subT, qq_subF, qq_addnT, qq_addnF, qq_naddT, qq_naddF, pk_mul, qq_and, qq_or, if_true, if_false, not_true, not_false_iff, qq_upd, qq_updE, qq_updN, reduceIte, eq_self, ne_eq, true_and, and_true, Nat.add_zero, Nat.zero_add, Nat.add_sub_cancel]
theorem qq_isPlaceN {n j : Nat} (h : 0 < j ∧ j ≤ 2147483648) : f_Line_isPlace (nI n) (-nI j) = nI 0 := by
  unfold f_Line_isPlace; simp (disch := omega) only [qq_b1, qq_b2, qq_b3, qq_b4, qq_b5, qq_b6, qq_b7, qq_b8, qq_b9, qq_b10, qq_b11, qq_b12, qq_b13, qq_b18, qq_b19, qq_s0l, qq_s0r, qq_s1l, qq_s1r, qq_s2l, qq_s2r, qq_s3l, qq_s3r, qq_s6l, qq_s6r, qq_s7l, qq_s7r, qq_bt, qq_bf, qq_l70, qq_l24, qq_l23, qq_l22, qq_l21, qq_l19, qq_l18, qq_l17, qq_l16, qq_l25, qq_l32, qq_l33, qq_l34, qq_l35, qq_l44, qq_l46, qq_l108, qq_l0, qq_l1, qq_l2, qq_l3, qq_l4, qq_l5, qq_l6, qq_l7, qq_l8, qq_l9, qq_l10, qq_l11, qq_l12, qq_l13, qq_l14, qq_l15, qq_l20, qq_l30, qq_l31, qq_l36, qq_l37, qq_l38, qq_l39, qq_l40, qq_l41, qq_l42, qq_l43, qq_l45, qq_l47, qq_l48, qq_l49, qq_l50, qq_l57, qq_l58, qq_l59, qq_l60, qq_l61, qq_l62, qq_l63, qq_l80, qq_l81, qq_l97, qq_l98, qq_l99, qq_l100, qq_l103, qq_l112, qq_l113, qq_l119, qq_l120, qq_l121, qq_l124, qq_l126, qq_l128, qq_l255, qq_l360, qq_l512, qq_l729, qq_zg, qq_zs, qq_zsJ, qq_zgT, qq_ltT, qq_ltF, qq_leT, qq_leF, qq_eqT, qq_eqF, qq_nltT, qq_ltnF, qq_nltnT, qq_nltnF, qq_nleT, qq_lenF, qq_nlenT, qq_nlenF, qq_eqnF, qq_neqF, qq_neqnF, qq_neqnT, nI_add, qq_subT, qq_subF, qq_addnT, qq_addnF, qq_naddT, qq_naddF, pk_mul, qq_and, qq_or, if_true, if_false, not_true, not_false_iff, qq_upd, qq_updE, qq_updN, reduceIte, eq_self, ne_eq, true_and, and_true, Nat.add_zero, Nat.zero_add, Nat.add_sub_cancel]
theorem qq_at {who : Nat → Int32} {q : Nat → Nat} {n j : Nat} (hL : qq_Ln who q n) (h : j < n ∧ n ≤ 9) : f_Line_at (nI n) who (nI j) = some (nI (q j)) := by
  unfold f_Line_at
  simp (disch := omega) only [qq_isPlaceT, qq_b1, qq_b2, qq_b3, qq_b4, qq_b5, qq_b6, qq_b7, qq_b8, qq_b9, qq_b10, qq_b11, qq_b12, qq_b13, qq_b18, qq_b19, qq_s0l, qq_s0r, qq_s1l, qq_s1r, qq_s2l, qq_s2r, qq_s3l, qq_s3r, qq_s6l, qq_s6r, qq_s7l, qq_s7r, qq_bt, qq_bf, qq_l70, qq_l24, qq_l23, qq_l22, qq_l21, qq_l19, qq_l18, qq_l17, qq_l16, qq_l25, qq_l32, qq_l33, qq_l34, qq_l35, qq_l44, qq_l46, qq_l108, qq_l0, qq_l1, qq_l2, qq_l3, qq_l4, qq_l5, qq_l6, qq_l7, qq_l8, qq_l9, qq_l10, qq_l11, qq_l12, qq_l13, qq_l14, qq_l15, qq_l20, qq_l30, qq_l31, qq_l36, qq_l37, qq_l38, qq_l39, qq_l40, qq_l41, qq_l42, qq_l43, qq_l45, qq_l47, qq_l48, qq_l49, qq_l50, qq_l57, qq_l58, qq_l59, qq_l60, qq_l61, qq_l62, qq_l63, qq_l80, qq_l81, qq_l97, qq_l98, qq_l99, qq_l100, qq_l103, qq_l112, qq_l113, qq_l119, qq_l120, qq_l121, qq_l124, qq_l126, qq_l128, qq_l255, qq_l360, qq_l512, qq_l729, qq_zg, qq_zs, qq_zsJ, qq_zgT, qq_ltT, qq_ltF, qq_leT, qq_leF, qq_eqT, qq_eqF, qq_nltT, qq_ltnF, qq_nltnT, qq_nltnF, qq_nleT, qq_lenF, qq_nlenT, qq_nlenF, qq_eqnF, qq_neqF, qq_neqnF, qq_neqnT, nI_add, qq_subT, qq_subF, qq_addnT, qq_addnF, qq_naddT, qq_naddF, pk_mul, qq_and, qq_or, if_true, if_false, not_true, not_false_iff, qq_upd, qq_updE, qq_updN, reduceIte, eq_self, ne_eq, true_and, and_true, Nat.add_zero, Nat.zero_add, Nat.add_sub_cancel]
  rw [hL j h.1]
theorem qq_atF {who : Nat → Int32} {n j : Nat} (h : n ≤ j ∧ j < 2147483648) : f_Line_at (nI n) who (nI j) = some (-nI 2) := by
  unfold f_Line_at
  simp (disch := omega) only [qq_isPlaceF, qq_b1, qq_b2, qq_b3, qq_b4, qq_b5, qq_b6, qq_b7, qq_b8, qq_b9, qq_b10, qq_b11, qq_b12, qq_b13, qq_b18, qq_b19, qq_s0l, qq_s0r, qq_s1l, qq_s1r, qq_s2l, qq_s2r, qq_s3l, qq_s3r, qq_s6l, qq_s6r, qq_s7l, qq_s7r, qq_bt, qq_bf, qq_l70, qq_l24, qq_l23, qq_l22, qq_l21, qq_l19, qq_l18, qq_l17, qq_l16, qq_l25, qq_l32, qq_l33, qq_l34, qq_l35, qq_l44, qq_l46, qq_l108, qq_l0, qq_l1, qq_l2, qq_l3, qq_l4, qq_l5, qq_l6, qq_l7, qq_l8, qq_l9, qq_l10, qq_l11, qq_l12, qq_l13, qq_l14, qq_l15, qq_l20, qq_l30, qq_l31, qq_l36, qq_l37, qq_l38, qq_l39, qq_l40, qq_l41, qq_l42, qq_l43, qq_l45, qq_l47, qq_l48, qq_l49, qq_l50, qq_l57, qq_l58, qq_l59, qq_l60, qq_l61, qq_l62, qq_l63, qq_l80, qq_l81, qq_l97, qq_l98, qq_l99, qq_l100, qq_l103, qq_l112, qq_l113, qq_l119, qq_l120, qq_l121, qq_l124, qq_l126, qq_l128, qq_l255, qq_l360, qq_l512, qq_l729, qq_zg, qq_zs, qq_zsJ, qq_zgT, qq_ltT, qq_ltF, qq_leT, qq_leF, qq_eqT, qq_eqF, qq_nltT, qq_ltnF, qq_nltnT, qq_nltnF, qq_nleT, qq_lenF, qq_nlenT, qq_nlenF, qq_eqnF, qq_neqF, qq_neqnF, qq_neqnT, nI_add, qq_subT, qq_subF, qq_addnT, qq_addnF, qq_naddT, qq_naddF, pk_mul, qq_and, qq_or, if_true, if_false, not_true, not_false_iff, qq_upd, qq_updE, qq_updN, reduceIte, eq_self, ne_eq, true_and, and_true, Nat.add_zero, Nat.zero_add, Nat.add_sub_cancel]
set_option maxRecDepth 100000 in
set_option maxHeartbeats 4000000 in
theorem qq_placeOf_L {who : Nat → Int32} {q : Nat → Nat} {n : Nat} (hL : qq_Ln who q n) (hn : n ≤ 9) (x : Int32) : ∀ d i fuel, i + d = n → d < fuel → f_Line_placeOf_L2 (nI n) who x fuel (nI i) = some (if qq_fst (fun j => decide (nI (q j) = x)) d i < n then .inr (nI (qq_fst (fun j => decide (nI (q j) = x)) d i)) else .inl ()) := by
  intro d
  induction d with
  | zero =>
    intro i fuel h hf
    obtain ⟨f, rfl⟩ : ∃ f, fuel = f + 1 := ⟨fuel - 1, by omega⟩
    rw [f_Line_placeOf_L2]
    simp (disch := omega) only [qq_b1, qq_b2, qq_b3, qq_b4, qq_b5, qq_b6, qq_b7, qq_b8, qq_b9, qq_b10, qq_b11, qq_b12, qq_b13, qq_b18, qq_b19, qq_s0l, qq_s0r, qq_s1l, qq_s1r, qq_s2l, qq_s2r, qq_s3l, qq_s3r, qq_s6l, qq_s6r, qq_s7l, qq_s7r, qq_bt, qq_bf, qq_l70, qq_l24, qq_l23, qq_l22, qq_l21, qq_l19, qq_l18, qq_l17, qq_l16, qq_l25, qq_l32, qq_l33, qq_l34, qq_l35, qq_l44, qq_l46, qq_l108, qq_l0, qq_l1, qq_l2, qq_l3, qq_l4, qq_l5, qq_l6, qq_l7, qq_l8, qq_l9, qq_l10, qq_l11, qq_l12, qq_l13, qq_l14, qq_l15, qq_l20, qq_l30, qq_l31, qq_l36, qq_l37, qq_l38, qq_l39, qq_l40, qq_l41, qq_l42, qq_l43, qq_l45, qq_l47, qq_l48, qq_l49, qq_l50, qq_l57, qq_l58, qq_l59, qq_l60, qq_l61, qq_l62, qq_l63, qq_l80, qq_l81, qq_l97, qq_l98, qq_l99, qq_l100, qq_l103, qq_l112, qq_l113, qq_l119, qq_l120, qq_l121, qq_l124, qq_l126, qq_l128, qq_l255, qq_l360, qq_l512, qq_l729, qq_zg, qq_zs, qq_zsJ, qq_zgT, qq_ltT, qq_ltF, qq_leT, qq_leF, qq_eqT, qq_eqF, qq_nltT, qq_ltnF, qq_nltnT, qq_nltnF, qq_nleT, qq_lenF, qq_nlenT, qq_nlenF, qq_eqnF, qq_neqF, qq_neqnF, qq_neqnT, nI_add, qq_subT, qq_subF, qq_addnT, qq_addnF, qq_naddT, qq_naddF, pk_mul, qq_and, qq_or, if_true, if_false, not_true, not_false_iff, qq_upd, qq_updE, qq_updN, reduceIte, eq_self, ne_eq, true_and, and_true, Nat.add_zero, Nat.zero_add, Nat.add_sub_cancel]
    rw [if_neg (by unfold qq_fst; omega)]
  | succ d ih =>
    intro i fuel h hf
    obtain ⟨f, rfl⟩ : ∃ f, fuel = f + 1 := ⟨fuel - 1, by omega⟩
    rw [f_Line_placeOf_L2]
    simp (disch := omega) only [qq_b1, qq_b2, qq_b3, qq_b4, qq_b5, qq_b6, qq_b7, qq_b8, qq_b9, qq_b10, qq_b11, qq_b12, qq_b13, qq_b18, qq_b19, qq_s0l, qq_s0r, qq_s1l, qq_s1r, qq_s2l, qq_s2r, qq_s3l, qq_s3r, qq_s6l, qq_s6r, qq_s7l, qq_s7r, qq_bt, qq_bf, qq_l70, qq_l24, qq_l23, qq_l22, qq_l21, qq_l19, qq_l18, qq_l17, qq_l16, qq_l25, qq_l32, qq_l33, qq_l34, qq_l35, qq_l44, qq_l46, qq_l108, qq_l0, qq_l1, qq_l2, qq_l3, qq_l4, qq_l5, qq_l6, qq_l7, qq_l8, qq_l9, qq_l10, qq_l11, qq_l12, qq_l13, qq_l14, qq_l15, qq_l20, qq_l30, qq_l31, qq_l36, qq_l37, qq_l38, qq_l39, qq_l40, qq_l41, qq_l42, qq_l43, qq_l45, qq_l47, qq_l48, qq_l49, qq_l50, qq_l57, qq_l58, qq_l59, qq_l60, qq_l61, qq_l62, qq_l63, qq_l80, qq_l81, qq_l97, qq_l98, qq_l99, qq_l100, qq_l103, qq_l112, qq_l113, qq_l119, qq_l120, qq_l121, qq_l124, qq_l126, qq_l128, qq_l255, qq_l360, qq_l512, qq_l729, qq_zg, qq_zs, qq_zsJ, qq_zgT, qq_ltT, qq_ltF, qq_leT, qq_leF, qq_eqT, qq_eqF, qq_nltT, qq_ltnF, qq_nltnT, qq_nltnF, qq_nleT, qq_lenF, qq_nlenT, qq_nlenF, qq_eqnF, qq_neqF, qq_neqnF, qq_neqnT, nI_add, qq_subT, qq_subF, qq_addnT, qq_addnF, qq_naddT, qq_naddF, pk_mul, qq_and, qq_or, if_true, if_false, not_true, not_false_iff, qq_upd, qq_updE, qq_updN, reduceIte, eq_self, ne_eq, true_and, and_true, Nat.add_zero, Nat.zero_add, Nat.add_sub_cancel]
    rw [hL i (by omega), qq_fst]
    by_cases hc : nI (q i) = x
    · rw [if_pos hc, if_pos (decide_eq_true hc), if_pos (by omega)]
    · rw [if_neg hc, decide_eq_false hc]
      simp only [Bool.false_eq_true, if_false]
      exact ih (i + 1) f (by omega) (by omega)
theorem qq_placeOf {who : Nat → Int32} {q : Nat → Nat} {n p : Nat} (hL : qq_Ln who q n) (hn : n ≤ 9) (hq : ∀ i, i < n → q i < 9) (hp : p < 2147483648) : f_Line_placeOf (nI n) who (nI p) = some (if qq_pl q n p < n then nI (qq_pl q n p) else -nI 2) := by
  have e : qq_fst (fun j => decide (nI (q j) = nI p)) n 0 = qq_pl q n p := qq_fst_congr (fun t h1 h2 => by
    have := hq t (by omega)
    rw [Bool.eq_iff_iff, decide_eq_true_eq, beq_iff_eq, nI_eq (by omega) (by omega)])
  unfold f_Line_placeOf
  have h1 := qq_placeOf_L hL hn (nI p) n 0 FU (by omega) (by rw [qq_FU]; omega)
  rw [e] at h1
  rw [qq_l0, h1]
  split <;> simp (disch := omega) only [qq_b1, qq_b2, qq_b3, qq_b4, qq_b5, qq_b6, qq_b7, qq_b8, qq_b9, qq_b10, qq_b11, qq_b12, qq_b13, qq_b18, qq_b19, qq_s0l, qq_s0r, qq_s1l, qq_s1r, qq_s2l, qq_s2r, qq_s3l, qq_s3r, qq_s6l, qq_s6r, qq_s7l, qq_s7r, qq_bt, qq_bf, qq_l70, qq_l24, qq_l23, qq_l22, qq_l21, qq_l19, qq_l18, qq_l17, qq_l16, qq_l25, qq_l32, qq_l33, qq_l34, qq_l35, qq_l44, qq_l46, qq_l108, qq_l0, qq_l1, qq_l2, qq_l3, qq_l4, qq_l5, qq_l6, qq_l7, qq_l8, qq_l9, qq_l10, qq_l11, qq_l12, qq_l13, qq_l14, qq_l15, qq_l20, qq_l30, qq_l31, qq_l36, qq_l37, qq_l38, qq_l39, qq_l40, qq_l41, qq_l42, qq_l43, qq_l45, qq_l47, qq_l48, qq_l49, qq_l50, qq_l57, qq_l58, qq_l59, qq_l60, qq_l61, qq_l62, qq_l63, qq_l80, qq_l81, qq_l97, qq_l98, qq_l99, qq_l100, qq_l103, qq_l112, qq_l113, qq_l119, qq_l120, qq_l121, qq_l124, qq_l126, qq_l128, qq_l255, qq_l360, qq_l512, qq_l729, qq_zg, qq_zs, qq_zsJ, qq_zgT, qq_ltT, qq_ltF, qq_leT, qq_leF, qq_eqT, qq_eqF, qq_nltT, qq_ltnF, qq_nltnT, qq_nltnF, qq_nleT, qq_lenF, qq_nlenT, qq_nlenF, qq_eqnF, qq_neqF, qq_neqnF, qq_neqnT, nI_add, qq_subT, qq_subF, qq_addnT, qq_addnF, qq_naddT, qq_naddF, pk_mul, qq_and, qq_or, if_true, if_false, not_true, not_false_iff, qq_upd, qq_updE, qq_updN, reduceIte, eq_self, ne_eq, true_and, and_true, Nat.add_zero, Nat.zero_add, Nat.add_sub_cancel]
theorem qq_placeOfN {who : Nat → Int32} {q : Nat → Nat} {n p : Nat} (hL : qq_Ln who q n) (hn : n ≤ 9) (hq : ∀ i, i < n → q i < 9) (h0 : 0 < p) (hp : p ≤ 2147483648) : f_Line_placeOf (nI n) who (-nI p) = some (-nI 2) := by
  have e : qq_fst (fun j => decide (nI (q j) = -nI p)) n 0 = 0 + n := qq_fst_none _ (fun t h1 h2 => by
    have := hq t (by omega)
    rw [decide_eq_false_iff_not, qq_eqnF (by omega)]
    exact not_false)
  unfold f_Line_placeOf
  have h1 := qq_placeOf_L hL hn (-nI p) n 0 FU (by omega) (by rw [qq_FU]; omega)
  rw [e, if_neg (by omega)] at h1
  rw [qq_l0, h1]
  simp (disch := omega) only [qq_b1, qq_b2, qq_b3, qq_b4, qq_b5, qq_b6, qq_b7, qq_b8, qq_b9, qq_b10, qq_b11, qq_b12, qq_b13, qq_b18, qq_b19, qq_s0l, qq_s0r, qq_s1l, qq_s1r, qq_s2l, qq_s2r, qq_s3l, qq_s3r, qq_s6l, qq_s6r, qq_s7l, qq_s7r, qq_bt, qq_bf, qq_l70, qq_l24, qq_l23, qq_l22, qq_l21, qq_l19, qq_l18, qq_l17, qq_l16, qq_l25, qq_l32, qq_l33, qq_l34, qq_l35, qq_l44, qq_l46, qq_l108, qq_l0, qq_l1, qq_l2, qq_l3, qq_l4, qq_l5, qq_l6, qq_l7, qq_l8, qq_l9, qq_l10, qq_l11, qq_l12, qq_l13, qq_l14, qq_l15, qq_l20, qq_l30, qq_l31, qq_l36, qq_l37, qq_l38, qq_l39, qq_l40, qq_l41, qq_l42, qq_l43, qq_l45, qq_l47, qq_l48, qq_l49, qq_l50, qq_l57, qq_l58, qq_l59, qq_l60, qq_l61, qq_l62, qq_l63, qq_l80, qq_l81, qq_l97, qq_l98, qq_l99, qq_l100, qq_l103, qq_l112, qq_l113, qq_l119, qq_l120, qq_l121, qq_l124, qq_l126, qq_l128, qq_l255, qq_l360, qq_l512, qq_l729, qq_zg, qq_zs, qq_zsJ, qq_zgT, qq_ltT, qq_ltF, qq_leT, qq_leF, qq_eqT, qq_eqF, qq_nltT, qq_ltnF, qq_nltnT, qq_nltnF, qq_nleT, qq_lenF, qq_nlenT, qq_nlenF, qq_eqnF, qq_neqF, qq_neqnF, qq_neqnT, nI_add, qq_subT, qq_subF, qq_addnT, qq_addnF, qq_naddT, qq_naddF, pk_mul, qq_and, qq_or, if_true, if_false, not_true, not_false_iff, qq_upd, qq_updE, qq_updN, reduceIte, eq_self, ne_eq, true_and, and_true, Nat.add_zero, Nat.zero_add, Nat.add_sub_cancel]
set_option maxRecDepth 100000 in
set_option maxHeartbeats 4000000 in
theorem qq_mplaceOf_L {who : Nat → Int32} {q : Nat → Nat} {n : Nat} (hL : qq_Ln who q n) (hn : n ≤ 9) (x : Int32) : ∀ d i fuel, i + d = n → d < fuel → f_M_placeOf_L2 (nI n) who x fuel (nI i) = some (if qq_fst (fun j => decide (nI (q j) = x)) d i < n then .inr (nI (qq_fst (fun j => decide (nI (q j) = x)) d i)) else .inl ()) := by
  intro d
  induction d with
  | zero =>
    intro i fuel h hf
    obtain ⟨f, rfl⟩ : ∃ f, fuel = f + 1 := ⟨fuel - 1, by omega⟩
    rw [f_M_placeOf_L2]
    simp (disch := omega) only [qq_b1, qq_b2, qq_b3, qq_b4, qq_b5, qq_b6, qq_b7, qq_b8, qq_b9, qq_b10, qq_b11, qq_b12, qq_b13, qq_b18, qq_b19, qq_s0l, qq_s0r, qq_s1l, qq_s1r, qq_s2l, qq_s2r, qq_s3l, qq_s3r, qq_s6l, qq_s6r, qq_s7l, qq_s7r, qq_bt, qq_bf, qq_l70, qq_l24, qq_l23, qq_l22, qq_l21, qq_l19, qq_l18, qq_l17, qq_l16, qq_l25, qq_l32, qq_l33, qq_l34, qq_l35, qq_l44, qq_l46, qq_l108, qq_l0, qq_l1, qq_l2, qq_l3, qq_l4, qq_l5, qq_l6, qq_l7, qq_l8, qq_l9, qq_l10, qq_l11, qq_l12, qq_l13, qq_l14, qq_l15, qq_l20, qq_l30, qq_l31, qq_l36, qq_l37, qq_l38, qq_l39, qq_l40, qq_l41, qq_l42, qq_l43, qq_l45, qq_l47, qq_l48, qq_l49, qq_l50, qq_l57, qq_l58, qq_l59, qq_l60, qq_l61, qq_l62, qq_l63, qq_l80, qq_l81, qq_l97, qq_l98, qq_l99, qq_l100, qq_l103, qq_l112, qq_l113, qq_l119, qq_l120, qq_l121, qq_l124, qq_l126, qq_l128, qq_l255, qq_l360, qq_l512, qq_l729, qq_zg, qq_zs, qq_zsJ, qq_zgT, qq_ltT, qq_ltF, qq_leT, qq_leF, qq_eqT, qq_eqF, qq_nltT, qq_ltnF, qq_nltnT, qq_nltnF, qq_nleT, qq_lenF, qq_nlenT, qq_nlenF, qq_eqnF, qq_neqF, qq_neqnF, qq_neqnT, nI_add, qq_subT, qq_subF, qq_addnT, qq_addnF, qq_naddT, qq_naddF, pk_mul, qq_and, qq_or, if_true, if_false, not_true, not_false_iff, qq_upd, qq_updE, qq_updN, reduceIte, eq_self, ne_eq, true_and, and_true, Nat.add_zero, Nat.zero_add, Nat.add_sub_cancel]
    rw [if_neg (by unfold qq_fst; omega)]
  | succ d ih =>
    intro i fuel h hf
    obtain ⟨f, rfl⟩ : ∃ f, fuel = f + 1 := ⟨fuel - 1, by omega⟩
    rw [f_M_placeOf_L2]
    simp (disch := omega) only [qq_b1, qq_b2, qq_b3, qq_b4, qq_b5, qq_b6, qq_b7, qq_b8, qq_b9, qq_b10, qq_b11, qq_b12, qq_b13, qq_b18, qq_b19, qq_s0l, qq_s0r, qq_s1l, qq_s1r, qq_s2l, qq_s2r, qq_s3l, qq_s3r, qq_s6l, qq_s6r, qq_s7l, qq_s7r, qq_bt, qq_bf, qq_l70, qq_l24, qq_l23, qq_l22, qq_l21, qq_l19, qq_l18, qq_l17, qq_l16, qq_l25, qq_l32, qq_l33, qq_l34, qq_l35, qq_l44, qq_l46, qq_l108, qq_l0, qq_l1, qq_l2, qq_l3, qq_l4, qq_l5, qq_l6, qq_l7, qq_l8, qq_l9, qq_l10, qq_l11, qq_l12, qq_l13, qq_l14, qq_l15, qq_l20, qq_l30, qq_l31, qq_l36, qq_l37, qq_l38, qq_l39, qq_l40, qq_l41, qq_l42, qq_l43, qq_l45, qq_l47, qq_l48, qq_l49, qq_l50, qq_l57, qq_l58, qq_l59, qq_l60, qq_l61, qq_l62, qq_l63, qq_l80, qq_l81, qq_l97, qq_l98, qq_l99, qq_l100, qq_l103, qq_l112, qq_l113, qq_l119, qq_l120, qq_l121, qq_l124, qq_l126, qq_l128, qq_l255, qq_l360, qq_l512, qq_l729, qq_zg, qq_zs, qq_zsJ, qq_zgT, qq_ltT, qq_ltF, qq_leT, qq_leF, qq_eqT, qq_eqF, qq_nltT, qq_ltnF, qq_nltnT, qq_nltnF, qq_nleT, qq_lenF, qq_nlenT, qq_nlenF, qq_eqnF, qq_neqF, qq_neqnF, qq_neqnT, nI_add, qq_subT, qq_subF, qq_addnT, qq_addnF, qq_naddT, qq_naddF, pk_mul, qq_and, qq_or, if_true, if_false, not_true, not_false_iff, qq_upd, qq_updE, qq_updN, reduceIte, eq_self, ne_eq, true_and, and_true, Nat.add_zero, Nat.zero_add, Nat.add_sub_cancel]
    rw [hL i (by omega), qq_fst]
    by_cases hc : nI (q i) = x
    · rw [if_pos hc, if_pos (decide_eq_true hc), if_pos (by omega)]
    · rw [if_neg hc, decide_eq_false hc]
      simp only [Bool.false_eq_true, if_false]
      exact ih (i + 1) f (by omega) (by omega)
theorem qq_mplaceOf {who : Nat → Int32} {q : Nat → Nat} {n p : Nat} (hL : qq_Ln who q n) (hn : n ≤ 9) (hq : ∀ i, i < n → q i < 9) (hp : p < 2147483648) : f_M_placeOf (nI n) who (nI p) = some (if qq_pl q n p < n then nI (qq_pl q n p) else -nI 2) := by
  have e : qq_fst (fun j => decide (nI (q j) = nI p)) n 0 = qq_pl q n p := qq_fst_congr (fun t h1 h2 => by
    have := hq t (by omega)
    rw [Bool.eq_iff_iff, decide_eq_true_eq, beq_iff_eq, nI_eq (by omega) (by omega)])
  unfold f_M_placeOf
  have h1 := qq_mplaceOf_L hL hn (nI p) n 0 FU (by omega) (by rw [qq_FU]; omega)
  rw [e] at h1
  rw [qq_l0, h1]
  split <;> simp (disch := omega) only [qq_b1, qq_b2, qq_b3, qq_b4, qq_b5, qq_b6, qq_b7, qq_b8, qq_b9, qq_b10, qq_b11, qq_b12, qq_b13, qq_b18, qq_b19, qq_s0l, qq_s0r, qq_s1l, qq_s1r, qq_s2l, qq_s2r, qq_s3l, qq_s3r, qq_s6l, qq_s6r, qq_s7l, qq_s7r, qq_bt, qq_bf, qq_l70, qq_l24, qq_l23, qq_l22, qq_l21, qq_l19, qq_l18, qq_l17, qq_l16, qq_l25, qq_l32, qq_l33, qq_l34, qq_l35, qq_l44, qq_l46, qq_l108, qq_l0, qq_l1, qq_l2, qq_l3, qq_l4, qq_l5, qq_l6, qq_l7, qq_l8, qq_l9, qq_l10, qq_l11, qq_l12, qq_l13, qq_l14, qq_l15, qq_l20, qq_l30, qq_l31, qq_l36, qq_l37, qq_l38, qq_l39, qq_l40, qq_l41, qq_l42, qq_l43, qq_l45, qq_l47, qq_l48, qq_l49, qq_l50, qq_l57, qq_l58, qq_l59, qq_l60, qq_l61, qq_l62, qq_l63, qq_l80, qq_l81, qq_l97, qq_l98, qq_l99, qq_l100, qq_l103, qq_l112, qq_l113, qq_l119, qq_l120, qq_l121, qq_l124, qq_l126, qq_l128, qq_l255, qq_l360, qq_l512, qq_l729, qq_zg, qq_zs, qq_zsJ, qq_zgT, qq_ltT, qq_ltF, qq_leT, qq_leF, qq_eqT, qq_eqF, qq_nltT, qq_ltnF, qq_nltnT, qq_nltnF, qq_nleT, qq_lenF, qq_nlenT, qq_nlenF, qq_eqnF, qq_neqF, qq_neqnF, qq_neqnT, nI_add, qq_subT, qq_subF, qq_addnT, qq_addnF, qq_naddT, qq_naddF, pk_mul, qq_and, qq_or, if_true, if_false, not_true, not_false_iff, qq_upd, qq_updE, qq_updN, reduceIte, eq_self, ne_eq, true_and, and_true, Nat.add_zero, Nat.zero_add, Nat.add_sub_cancel]
theorem qq_misPlaceT {n j : Nat} (h : j < n ∧ n < 1000) : f_M_isPlace (nI n) (nI j) = nI 1 := by
  unfold f_M_isPlace
  rw [qq_l1, qq_subT (by omega)]
  refine qq_wiT (by omega) ?_
  rw [Int32.toInt_toInt64, qq_toI (by omega)]
  exact ⟨by show (0 : Int) ≤ _; omega, by omega⟩
theorem qq_misPlaceF {n j : Nat} (h : n ≤ j ∧ j < 2147483648) (h9 : n < 1000) : f_M_isPlace (nI n) (nI j) = nI 0 := by
  unfold f_M_isPlace
  refine qq_wiF (by omega) ?_
  rcases Nat.eq_zero_or_pos n with e | e
  · subst e
    right
    rw [qq_l1, qq_subF (by omega), Int32.toInt_toInt64, qq_toN (by omega)]
    omega
  · right
    rw [qq_l1, qq_subT (by omega), Int32.toInt_toInt64, qq_toI (by omega)]
    omega
theorem qq_misPlaceN {n j : Nat} (h : 0 < j ∧ j ≤ 2147483648) : f_M_isPlace (nI n) (-nI j) = nI 0 := by
  unfold f_M_isPlace
  refine qq_wnF (by omega) ?_
  show -(j : Int) < 0
  omega
/-! put in -/
set_option maxRecDepth 100000 in
set_option maxHeartbeats 4000000 in
theorem qq_insL {k : Nat} : ∀ d m fuel (who : Nat → Int32), m = k + d → m ≤ 8 → d < fuel → ∃ w, f_Line_insert_L27 (nI k) fuel who (nI m) = some w ∧ ∀ i, w i = if k < i ∧ i ≤ m then who (i - 1) else who i := by
  intro d
  induction d with
  | zero =>
    intro m fuel who h h8 hf
    obtain ⟨f, rfl⟩ : ∃ f, fuel = f + 1 := ⟨fuel - 1, by omega⟩
    refine ⟨who, ?_, fun i => ?_⟩
    · rw [f_Line_insert_L27]; simp (disch := omega) only [qq_b1, qq_b2, qq_b3, qq_b4, qq_b5, qq_b6, qq_b7, qq_b8, qq_b9, qq_b10, qq_b11, qq_b12, qq_b13, qq_b18, qq_b19, qq_s0l, qq_s0r, qq_s1l, qq_s1r, qq_s2l, qq_s2r, qq_s3l, qq_s3r, qq_s6l, qq_s6r, qq_s7l, qq_s7r, qq_bt, qq_bf, qq_l70, qq_l24, qq_l23, qq_l22, qq_l21, qq_l19, qq_l18, qq_l17, qq_l16, qq_l25, qq_l32, qq_l33, qq_l34, qq_l35, qq_l44, qq_l46, qq_l108, qq_l0, qq_l1, qq_l2, qq_l3, qq_l4, qq_l5, qq_l6, qq_l7, qq_l8, qq_l9, qq_l10, qq_l11, qq_l12, qq_l13, qq_l14, qq_l15, qq_l20, qq_l30, qq_l31, qq_l36, qq_l37, qq_l38, qq_l39, qq_l40, qq_l41, qq_l42, qq_l43, qq_l45, qq_l47, qq_l48, qq_l49, qq_l50, qq_l57, qq_l58, qq_l59, qq_l60, qq_l61, qq_l62, qq_l63, qq_l80, qq_l81, qq_l97, qq_l98, qq_l99, qq_l100, qq_l103, qq_l112, qq_l113, qq_l119, qq_l120, qq_l121, qq_l124, qq_l126, qq_l128, qq_l255, qq_l360, qq_l512, qq_l729, qq_zg, qq_zs, qq_zsJ, qq_zgT, qq_ltT, qq_ltF, qq_leT, qq_leF, qq_eqT, qq_eqF, qq_nltT, qq_ltnF, qq_nltnT, qq_nltnF, qq_nleT, qq_lenF, qq_nlenT, qq_nlenF, qq_eqnF, qq_neqF, qq_neqnF, qq_neqnT, nI_add, qq_subT, qq_subF, qq_addnT, qq_addnF, qq_naddT, qq_naddF, pk_mul, qq_and, qq_or, if_true, if_false, not_true, not_false_iff, qq_upd, qq_updE, qq_updN, reduceIte, eq_self, ne_eq, true_and, and_true, Nat.add_zero, Nat.zero_add, Nat.add_sub_cancel]
    · rw [if_neg (by omega)]
  | succ d ih =>
    intro m fuel who h h8 hf
    obtain ⟨f, rfl⟩ : ∃ f, fuel = f + 1 := ⟨fuel - 1, by omega⟩
    obtain ⟨w, e, hw⟩ := ih (m - 1) f (upd who m (who (m - 1))) (by omega) (by omega) (by omega)
    refine ⟨w, ?_, fun i => ?_⟩
    · rw [f_Line_insert_L27]; simp (disch := omega) only [qq_b1, qq_b2, qq_b3, qq_b4, qq_b5, qq_b6, qq_b7, qq_b8, qq_b9, qq_b10, qq_b11, qq_b12, qq_b13, qq_b18, qq_b19, qq_s0l, qq_s0r, qq_s1l, qq_s1r, qq_s2l, qq_s2r, qq_s3l, qq_s3r, qq_s6l, qq_s6r, qq_s7l, qq_s7r, qq_bt, qq_bf, qq_l70, qq_l24, qq_l23, qq_l22, qq_l21, qq_l19, qq_l18, qq_l17, qq_l16, qq_l25, qq_l32, qq_l33, qq_l34, qq_l35, qq_l44, qq_l46, qq_l108, qq_l0, qq_l1, qq_l2, qq_l3, qq_l4, qq_l5, qq_l6, qq_l7, qq_l8, qq_l9, qq_l10, qq_l11, qq_l12, qq_l13, qq_l14, qq_l15, qq_l20, qq_l30, qq_l31, qq_l36, qq_l37, qq_l38, qq_l39, qq_l40, qq_l41, qq_l42, qq_l43, qq_l45, qq_l47, qq_l48, qq_l49, qq_l50, qq_l57, qq_l58, qq_l59, qq_l60, qq_l61, qq_l62, qq_l63, qq_l80, qq_l81, qq_l97, qq_l98, qq_l99, qq_l100, qq_l103, qq_l112, qq_l113, qq_l119, qq_l120, qq_l121, qq_l124, qq_l126, qq_l128, qq_l255, qq_l360, qq_l512, qq_l729, qq_zg, qq_zs, qq_zsJ, qq_zgT, qq_ltT, qq_ltF, qq_leT, qq_leF, qq_eqT, qq_eqF, qq_nltT, qq_ltnF, qq_nltnT, qq_nltnF, qq_nleT, qq_lenF, qq_nlenT, qq_nlenF, qq_eqnF, qq_neqF, qq_neqnF, qq_neqnT, nI_add, qq_subT, qq_subF, qq_addnT, qq_addnF, qq_naddT, qq_naddF, pk_mul, qq_and, qq_or, if_true, if_false, not_true, not_false_iff, qq_upd, qq_updE, qq_updN, reduceIte, eq_self, ne_eq, true_and, and_true, Nat.add_zero, Nat.zero_add, Nat.add_sub_cancel]; exact e
    · rw [hw i]; simp only [upd]
      (repeat' split) <;> first | rfl | (exfalso; omega) | (apply congrArg; omega)
set_option maxRecDepth 100000 in
set_option maxHeartbeats 4000000 in
theorem qq_insert {who : Nat → Int32} {q : Nat → Nat} {n k p : Nat} (hL : qq_Ln who q n) (hn : n ≤ 8) (hk : k ≤ n) : ∃ w, f_Line_insert (nI n) who (nI p) (nI k) = some (nI (n + 1), w) ∧ qq_Ln w (qq_ins q k p) (n + 1) := by
  obtain ⟨w, e, hw⟩ := qq_insL (k := k) (n - k) n FU who (by omega) hn (by rw [qq_FU]; omega)
  refine ⟨upd w k (nI p), ?_, fun i hi => ?_⟩
  · unfold f_Line_insert; simp (disch := omega) only [e, qq_b1, qq_b2, qq_b3, qq_b4, qq_b5, qq_b6, qq_b7, qq_b8, qq_b9, qq_b10, qq_b11, qq_b12, qq_b13, qq_b18, qq_b19, qq_s0l, qq_s0r, qq_s1l, qq_s1r, qq_s2l, qq_s2r, qq_s3l, qq_s3r, qq_s6l, qq_s6r, qq_s7l, qq_s7r, qq_bt, qq_bf, qq_l70, qq_l24, qq_l23, qq_l22, qq_l21, qq_l19, qq_l18, qq_l17, qq_l16, qq_l25, qq_l32, qq_l33, qq_l34, qq_l35, qq_l44, qq_l46, qq_l108, qq_l0, qq_l1, qq_l2, qq_l3, qq_l4, qq_l5, qq_l6, qq_l7, qq_l8, qq_l9, qq_l10, qq_l11, qq_l12, qq_l13, qq_l14, qq_l15, qq_l20, qq_l30, qq_l31, qq_l36, qq_l37, qq_l38, qq_l39, qq_l40, qq_l41, qq_l42, qq_l43, qq_l45, qq_l47, qq_l48, qq_l49, qq_l50, qq_l57, qq_l58, qq_l59, qq_l60, qq_l61, qq_l62, qq_l63, qq_l80, qq_l81, qq_l97, qq_l98, qq_l99, qq_l100, qq_l103, qq_l112, qq_l113, qq_l119, qq_l120, qq_l121, qq_l124, qq_l126, qq_l128, qq_l255, qq_l360, qq_l512, qq_l729, qq_zg, qq_zs, qq_zsJ, qq_zgT, qq_ltT, qq_ltF, qq_leT, qq_leF, qq_eqT, qq_eqF, qq_nltT, qq_ltnF, qq_nltnT, qq_nltnF, qq_nleT, qq_lenF, qq_nlenT, qq_nlenF, qq_eqnF, qq_neqF, qq_neqnF, qq_neqnT, nI_add, qq_subT, qq_subF, qq_addnT, qq_addnF, qq_naddT, qq_naddF, pk_mul, qq_and, qq_or, if_true, if_false, not_true, not_false_iff, qq_upd, qq_updE, qq_updN, reduceIte, eq_self, ne_eq, true_and, and_true, Nat.add_zero, Nat.zero_add, Nat.add_sub_cancel]
  · simp only [upd, hw, qq_ins]
    by_cases h1 : i = k
    · rw [if_pos h1, if_neg (by omega), if_pos h1]
    · rw [if_neg h1]
      by_cases h2 : i < k
      · rw [if_neg (by omega), if_pos h2]; exact hL i (by omega)
      · rw [if_pos (by omega), if_neg h2, if_neg h1]; exact hL (i - 1) (by omega)
set_option maxRecDepth 100000 in
set_option maxHeartbeats 4000000 in
theorem qq_minsL {k : Nat} : ∀ d m fuel (who : Nat → Int32), m = k + d → m ≤ 8 → d < fuel → ∃ w, f_M_putsIn_L5 (nI k) fuel who (nI m) = some w ∧ ∀ i, w i = if k < i ∧ i ≤ m then who (i - 1) else who i := by
  intro d
  induction d with
  | zero =>
    intro m fuel who h h8 hf
    obtain ⟨f, rfl⟩ : ∃ f, fuel = f + 1 := ⟨fuel - 1, by omega⟩
    refine ⟨who, ?_, fun i => ?_⟩
    · rw [f_M_putsIn_L5]; simp (disch := omega) only [qq_b1, qq_b2, qq_b3, qq_b4, qq_b5, qq_b6, qq_b7, qq_b8, qq_b9, qq_b10, qq_b11, qq_b12, qq_b13, qq_b18, qq_b19, qq_s0l, qq_s0r, qq_s1l, qq_s1r, qq_s2l, qq_s2r, qq_s3l, qq_s3r, qq_s6l, qq_s6r, qq_s7l, qq_s7r, qq_bt, qq_bf, qq_l70, qq_l24, qq_l23, qq_l22, qq_l21, qq_l19, qq_l18, qq_l17, qq_l16, qq_l25, qq_l32, qq_l33, qq_l34, qq_l35, qq_l44, qq_l46, qq_l108, qq_l0, qq_l1, qq_l2, qq_l3, qq_l4, qq_l5, qq_l6, qq_l7, qq_l8, qq_l9, qq_l10, qq_l11, qq_l12, qq_l13, qq_l14, qq_l15, qq_l20, qq_l30, qq_l31, qq_l36, qq_l37, qq_l38, qq_l39, qq_l40, qq_l41, qq_l42, qq_l43, qq_l45, qq_l47, qq_l48, qq_l49, qq_l50, qq_l57, qq_l58, qq_l59, qq_l60, qq_l61, qq_l62, qq_l63, qq_l80, qq_l81, qq_l97, qq_l98, qq_l99, qq_l100, qq_l103, qq_l112, qq_l113, qq_l119, qq_l120, qq_l121, qq_l124, qq_l126, qq_l128, qq_l255, qq_l360, qq_l512, qq_l729, qq_zg, qq_zs, qq_zsJ, qq_zgT, qq_ltT, qq_ltF, qq_leT, qq_leF, qq_eqT, qq_eqF, qq_nltT, qq_ltnF, qq_nltnT, qq_nltnF, qq_nleT, qq_lenF, qq_nlenT, qq_nlenF, qq_eqnF, qq_neqF, qq_neqnF, qq_neqnT, nI_add, qq_subT, qq_subF, qq_addnT, qq_addnF, qq_naddT, qq_naddF, pk_mul, qq_and, qq_or, if_true, if_false, not_true, not_false_iff, qq_upd, qq_updE, qq_updN, reduceIte, eq_self, ne_eq, true_and, and_true, Nat.add_zero, Nat.zero_add, Nat.add_sub_cancel]
    · rw [if_neg (by omega)]
  | succ d ih =>
    intro m fuel who h h8 hf
    obtain ⟨f, rfl⟩ : ∃ f, fuel = f + 1 := ⟨fuel - 1, by omega⟩
    obtain ⟨w, e, hw⟩ := ih (m - 1) f (upd who m (who (m - 1))) (by omega) (by omega) (by omega)
    refine ⟨w, ?_, fun i => ?_⟩
    · rw [f_M_putsIn_L5]; simp (disch := omega) only [qq_b1, qq_b2, qq_b3, qq_b4, qq_b5, qq_b6, qq_b7, qq_b8, qq_b9, qq_b10, qq_b11, qq_b12, qq_b13, qq_b18, qq_b19, qq_s0l, qq_s0r, qq_s1l, qq_s1r, qq_s2l, qq_s2r, qq_s3l, qq_s3r, qq_s6l, qq_s6r, qq_s7l, qq_s7r, qq_bt, qq_bf, qq_l70, qq_l24, qq_l23, qq_l22, qq_l21, qq_l19, qq_l18, qq_l17, qq_l16, qq_l25, qq_l32, qq_l33, qq_l34, qq_l35, qq_l44, qq_l46, qq_l108, qq_l0, qq_l1, qq_l2, qq_l3, qq_l4, qq_l5, qq_l6, qq_l7, qq_l8, qq_l9, qq_l10, qq_l11, qq_l12, qq_l13, qq_l14, qq_l15, qq_l20, qq_l30, qq_l31, qq_l36, qq_l37, qq_l38, qq_l39, qq_l40, qq_l41, qq_l42, qq_l43, qq_l45, qq_l47, qq_l48, qq_l49, qq_l50, qq_l57, qq_l58, qq_l59, qq_l60, qq_l61, qq_l62, qq_l63, qq_l80, qq_l81, qq_l97, qq_l98, qq_l99, qq_l100, qq_l103, qq_l112, qq_l113, qq_l119, qq_l120, qq_l121, qq_l124, qq_l126, qq_l128, qq_l255, qq_l360, qq_l512, qq_l729, qq_zg, qq_zs, qq_zsJ, qq_zgT, qq_ltT, qq_ltF, qq_leT, qq_leF, qq_eqT, qq_eqF, qq_nltT, qq_ltnF, qq_nltnT, qq_nltnF, qq_nleT, qq_lenF, qq_nlenT, qq_nlenF, qq_eqnF, qq_neqF, qq_neqnF, qq_neqnT, nI_add, qq_subT, qq_subF, qq_addnT, qq_addnF, qq_naddT, qq_naddF, pk_mul, qq_and, qq_or, if_true, if_false, not_true, not_false_iff, qq_upd, qq_updE, qq_updN, reduceIte, eq_self, ne_eq, true_and, and_true, Nat.add_zero, Nat.zero_add, Nat.add_sub_cancel]; exact e
    · rw [hw i]; simp only [upd]
      (repeat' split) <;> first | rfl | (exfalso; omega) | (apply congrArg; omega)
set_option maxRecDepth 100000 in
set_option maxHeartbeats 4000000 in
theorem qq_putsIn {who : Nat → Int32} {q : Nat → Nat} {n k p : Nat} (hL : qq_Ln who q n) (hn : n ≤ 8) (hk : k ≤ n) : ∃ w, f_M_putsIn (nI n) who (nI p) (nI k) = some (nI (n + 1), w) ∧ qq_Ln w (qq_ins q k p) (n + 1) := by
  obtain ⟨w, e, hw⟩ := qq_minsL (k := k) (n - k) n FU who (by omega) hn (by rw [qq_FU]; omega)
  refine ⟨upd w k (nI p), ?_, fun i hi => ?_⟩
  · unfold f_M_putsIn; simp (disch := omega) only [e, qq_b1, qq_b2, qq_b3, qq_b4, qq_b5, qq_b6, qq_b7, qq_b8, qq_b9, qq_b10, qq_b11, qq_b12, qq_b13, qq_b18, qq_b19, qq_s0l, qq_s0r, qq_s1l, qq_s1r, qq_s2l, qq_s2r, qq_s3l, qq_s3r, qq_s6l, qq_s6r, qq_s7l, qq_s7r, qq_bt, qq_bf, qq_l70, qq_l24, qq_l23, qq_l22, qq_l21, qq_l19, qq_l18, qq_l17, qq_l16, qq_l25, qq_l32, qq_l33, qq_l34, qq_l35, qq_l44, qq_l46, qq_l108, qq_l0, qq_l1, qq_l2, qq_l3, qq_l4, qq_l5, qq_l6, qq_l7, qq_l8, qq_l9, qq_l10, qq_l11, qq_l12, qq_l13, qq_l14, qq_l15, qq_l20, qq_l30, qq_l31, qq_l36, qq_l37, qq_l38, qq_l39, qq_l40, qq_l41, qq_l42, qq_l43, qq_l45, qq_l47, qq_l48, qq_l49, qq_l50, qq_l57, qq_l58, qq_l59, qq_l60, qq_l61, qq_l62, qq_l63, qq_l80, qq_l81, qq_l97, qq_l98, qq_l99, qq_l100, qq_l103, qq_l112, qq_l113, qq_l119, qq_l120, qq_l121, qq_l124, qq_l126, qq_l128, qq_l255, qq_l360, qq_l512, qq_l729, qq_zg, qq_zs, qq_zsJ, qq_zgT, qq_ltT, qq_ltF, qq_leT, qq_leF, qq_eqT, qq_eqF, qq_nltT, qq_ltnF, qq_nltnT, qq_nltnF, qq_nleT, qq_lenF, qq_nlenT, qq_nlenF, qq_eqnF, qq_neqF, qq_neqnF, qq_neqnT, nI_add, qq_subT, qq_subF, qq_addnT, qq_addnF, qq_naddT, qq_naddF, pk_mul, qq_and, qq_or, if_true, if_false, not_true, not_false_iff, qq_upd, qq_updE, qq_updN, reduceIte, eq_self, ne_eq, true_and, and_true, Nat.add_zero, Nat.zero_add, Nat.add_sub_cancel]
  · simp only [upd, hw, qq_ins]
    by_cases h1 : i = k
    · rw [if_pos h1, if_neg (by omega), if_pos h1]
    · rw [if_neg h1]
      by_cases h2 : i < k
      · rw [if_neg (by omega), if_pos h2]; exact hL i (by omega)
      · rw [if_pos (by omega), if_neg h2, if_neg h1]; exact hL (i - 1) (by omega)
/-! taken out -/
set_option maxRecDepth 100000 in
set_option maxHeartbeats 4000000 in
theorem qq_remL {n : Nat} (hn : n ≤ 9) : ∀ d k fuel (who : Nat → Int32), k + d + 1 = n → d < fuel → ∃ w, f_Line_removeAt_L20 (nI n) fuel who (nI k) = some w ∧ ∀ i, w i = if k ≤ i ∧ i + 1 < n then who (i + 1) else who i := by
  intro d
  induction d with
  | zero =>
    intro k fuel who h hf
    obtain ⟨f, rfl⟩ : ∃ f, fuel = f + 1 := ⟨fuel - 1, by omega⟩
    refine ⟨who, ?_, fun i => ?_⟩
    · rw [f_Line_removeAt_L20]; simp (disch := omega) only [qq_b1, qq_b2, qq_b3, qq_b4, qq_b5, qq_b6, qq_b7, qq_b8, qq_b9, qq_b10, qq_b11, qq_b12, qq_b13, qq_b18, qq_b19, qq_s0l, qq_s0r, qq_s1l, qq_s1r, qq_s2l, qq_s2r, qq_s3l, qq_s3r, qq_s6l, qq_s6r, qq_s7l, qq_s7r, qq_bt, qq_bf, qq_l70, qq_l24, qq_l23, qq_l22, qq_l21, qq_l19, qq_l18, qq_l17, qq_l16, qq_l25, qq_l32, qq_l33, qq_l34, qq_l35, qq_l44, qq_l46, qq_l108, qq_l0, qq_l1, qq_l2, qq_l3, qq_l4, qq_l5, qq_l6, qq_l7, qq_l8, qq_l9, qq_l10, qq_l11, qq_l12, qq_l13, qq_l14, qq_l15, qq_l20, qq_l30, qq_l31, qq_l36, qq_l37, qq_l38, qq_l39, qq_l40, qq_l41, qq_l42, qq_l43, qq_l45, qq_l47, qq_l48, qq_l49, qq_l50, qq_l57, qq_l58, qq_l59, qq_l60, qq_l61, qq_l62, qq_l63, qq_l80, qq_l81, qq_l97, qq_l98, qq_l99, qq_l100, qq_l103, qq_l112, qq_l113, qq_l119, qq_l120, qq_l121, qq_l124, qq_l126, qq_l128, qq_l255, qq_l360, qq_l512, qq_l729, qq_zg, qq_zs, qq_zsJ, qq_zgT, qq_ltT, qq_ltF, qq_leT, qq_leF, qq_eqT, qq_eqF, qq_nltT, qq_ltnF, qq_nltnT, qq_nltnF, qq_nleT, qq_lenF, qq_nlenT, qq_nlenF, qq_eqnF, qq_neqF, qq_neqnF, qq_neqnT, nI_add, qq_subT, qq_subF, qq_addnT, qq_addnF, qq_naddT, qq_naddF, pk_mul, qq_and, qq_or, if_true, if_false, not_true, not_false_iff, qq_upd, qq_updE, qq_updN, reduceIte, eq_self, ne_eq, true_and, and_true, Nat.add_zero, Nat.zero_add, Nat.add_sub_cancel]
    · rw [if_neg (by omega)]
  | succ d ih =>
    intro k fuel who h hf
    obtain ⟨f, rfl⟩ : ∃ f, fuel = f + 1 := ⟨fuel - 1, by omega⟩
    obtain ⟨w, e, hw⟩ := ih (k + 1) f (upd who k (who (k + 1))) (by omega) (by omega)
    refine ⟨w, ?_, fun i => ?_⟩
    · rw [f_Line_removeAt_L20]; simp (disch := omega) only [qq_b1, qq_b2, qq_b3, qq_b4, qq_b5, qq_b6, qq_b7, qq_b8, qq_b9, qq_b10, qq_b11, qq_b12, qq_b13, qq_b18, qq_b19, qq_s0l, qq_s0r, qq_s1l, qq_s1r, qq_s2l, qq_s2r, qq_s3l, qq_s3r, qq_s6l, qq_s6r, qq_s7l, qq_s7r, qq_bt, qq_bf, qq_l70, qq_l24, qq_l23, qq_l22, qq_l21, qq_l19, qq_l18, qq_l17, qq_l16, qq_l25, qq_l32, qq_l33, qq_l34, qq_l35, qq_l44, qq_l46, qq_l108, qq_l0, qq_l1, qq_l2, qq_l3, qq_l4, qq_l5, qq_l6, qq_l7, qq_l8, qq_l9, qq_l10, qq_l11, qq_l12, qq_l13, qq_l14, qq_l15, qq_l20, qq_l30, qq_l31, qq_l36, qq_l37, qq_l38, qq_l39, qq_l40, qq_l41, qq_l42, qq_l43, qq_l45, qq_l47, qq_l48, qq_l49, qq_l50, qq_l57, qq_l58, qq_l59, qq_l60, qq_l61, qq_l62, qq_l63, qq_l80, qq_l81, qq_l97, qq_l98, qq_l99, qq_l100, qq_l103, qq_l112, qq_l113, qq_l119, qq_l120, qq_l121, qq_l124, qq_l126, qq_l128, qq_l255, qq_l360, qq_l512, qq_l729, qq_zg, qq_zs, qq_zsJ, qq_zgT, qq_ltT, qq_ltF, qq_leT, qq_leF, qq_eqT, qq_eqF, qq_nltT, qq_ltnF, qq_nltnT, qq_nltnF, qq_nleT, qq_lenF, qq_nlenT, qq_nlenF, qq_eqnF, qq_neqF, qq_neqnF, qq_neqnT, nI_add, qq_subT, qq_subF, qq_addnT, qq_addnF, qq_naddT, qq_naddF, pk_mul, qq_and, qq_or, if_true, if_false, not_true, not_false_iff, qq_upd, qq_updE, qq_updN, reduceIte, eq_self, ne_eq, true_and, and_true, Nat.add_zero, Nat.zero_add, Nat.add_sub_cancel]; exact e
    · rw [hw i]; simp only [upd]
      (repeat' split) <;> first | rfl | (exfalso; omega) | (apply congrArg; omega)
set_option maxRecDepth 100000 in
set_option maxHeartbeats 4000000 in
theorem qq_removeAt {who : Nat → Int32} {q : Nat → Nat} {n k : Nat} (hL : qq_Ln who q n) (hn : n ≤ 9) (hk : k < n) : ∃ w, f_Line_removeAt (nI n) who (nI k) = some (nI (q k), nI (n - 1), w) ∧ qq_Ln w (qq_rem q k) (n - 1) := by
  obtain ⟨w, e, hw⟩ := qq_remL hn (n - k - 1) k FU who (by omega) (by rw [qq_FU]; omega)
  refine ⟨w, ?_, fun i hi => ?_⟩
  · unfold f_Line_removeAt; simp (disch := omega) only [e, qq_isPlaceT, hL k hk, qq_b1, qq_b2, qq_b3, qq_b4, qq_b5, qq_b6, qq_b7, qq_b8, qq_b9, qq_b10, qq_b11, qq_b12, qq_b13, qq_b18, qq_b19, qq_s0l, qq_s0r, qq_s1l, qq_s1r, qq_s2l, qq_s2r, qq_s3l, qq_s3r, qq_s6l, qq_s6r, qq_s7l, qq_s7r, qq_bt, qq_bf, qq_l70, qq_l24, qq_l23, qq_l22, qq_l21, qq_l19, qq_l18, qq_l17, qq_l16, qq_l25, qq_l32, qq_l33, qq_l34, qq_l35, qq_l44, qq_l46, qq_l108, qq_l0, qq_l1, qq_l2, qq_l3, qq_l4, qq_l5, qq_l6, qq_l7, qq_l8, qq_l9, qq_l10, qq_l11, qq_l12, qq_l13, qq_l14, qq_l15, qq_l20, qq_l30, qq_l31, qq_l36, qq_l37, qq_l38, qq_l39, qq_l40, qq_l41, qq_l42, qq_l43, qq_l45, qq_l47, qq_l48, qq_l49, qq_l50, qq_l57, qq_l58, qq_l59, qq_l60, qq_l61, qq_l62, qq_l63, qq_l80, qq_l81, qq_l97, qq_l98, qq_l99, qq_l100, qq_l103, qq_l112, qq_l113, qq_l119, qq_l120, qq_l121, qq_l124, qq_l126, qq_l128, qq_l255, qq_l360, qq_l512, qq_l729, qq_zg, qq_zs, qq_zsJ, qq_zgT, qq_ltT, qq_ltF, qq_leT, qq_leF, qq_eqT, qq_eqF, qq_nltT, qq_ltnF, qq_nltnT, qq_nltnF, qq_nleT, qq_lenF, qq_nlenT, qq_nlenF, qq_eqnF, qq_neqF, qq_neqnF, qq_neqnT, nI_add, qq_subT, qq_subF, qq_addnT, qq_addnF, qq_naddT, qq_naddF, pk_mul, qq_and, qq_or, if_true, if_false, not_true, not_false_iff, qq_upd, qq_updE, qq_updN, reduceIte, eq_self, ne_eq, true_and, and_true, Nat.add_zero, Nat.zero_add, Nat.add_sub_cancel]
  · rw [hw, qq_rem]
    by_cases h1 : i < k
    · rw [if_neg (by omega), if_pos h1]; exact hL i (by omega)
    · rw [if_pos (by omega), if_neg h1]; exact hL (i + 1) (by omega)
set_option maxRecDepth 100000 in
set_option maxHeartbeats 4000000 in
theorem qq_mremL {n : Nat} (hn : n ≤ 8) : ∀ d k fuel (who : Nat → Int32), k + d = n → d < fuel → ∃ w, f_M_takesOut_L12 (nI n) fuel who (nI k) = some w ∧ ∀ i, w i = if k ≤ i ∧ i < n then who (i + 1) else who i := by
  intro d
  induction d with
  | zero =>
    intro k fuel who h hf
    obtain ⟨f, rfl⟩ : ∃ f, fuel = f + 1 := ⟨fuel - 1, by omega⟩
    refine ⟨who, ?_, fun i => ?_⟩
    · rw [f_M_takesOut_L12]; simp (disch := omega) only [qq_b1, qq_b2, qq_b3, qq_b4, qq_b5, qq_b6, qq_b7, qq_b8, qq_b9, qq_b10, qq_b11, qq_b12, qq_b13, qq_b18, qq_b19, qq_s0l, qq_s0r, qq_s1l, qq_s1r, qq_s2l, qq_s2r, qq_s3l, qq_s3r, qq_s6l, qq_s6r, qq_s7l, qq_s7r, qq_bt, qq_bf, qq_l70, qq_l24, qq_l23, qq_l22, qq_l21, qq_l19, qq_l18, qq_l17, qq_l16, qq_l25, qq_l32, qq_l33, qq_l34, qq_l35, qq_l44, qq_l46, qq_l108, qq_l0, qq_l1, qq_l2, qq_l3, qq_l4, qq_l5, qq_l6, qq_l7, qq_l8, qq_l9, qq_l10, qq_l11, qq_l12, qq_l13, qq_l14, qq_l15, qq_l20, qq_l30, qq_l31, qq_l36, qq_l37, qq_l38, qq_l39, qq_l40, qq_l41, qq_l42, qq_l43, qq_l45, qq_l47, qq_l48, qq_l49, qq_l50, qq_l57, qq_l58, qq_l59, qq_l60, qq_l61, qq_l62, qq_l63, qq_l80, qq_l81, qq_l97, qq_l98, qq_l99, qq_l100, qq_l103, qq_l112, qq_l113, qq_l119, qq_l120, qq_l121, qq_l124, qq_l126, qq_l128, qq_l255, qq_l360, qq_l512, qq_l729, qq_zg, qq_zs, qq_zsJ, qq_zgT, qq_ltT, qq_ltF, qq_leT, qq_leF, qq_eqT, qq_eqF, qq_nltT, qq_ltnF, qq_nltnT, qq_nltnF, qq_nleT, qq_lenF, qq_nlenT, qq_nlenF, qq_eqnF, qq_neqF, qq_neqnF, qq_neqnT, nI_add, qq_subT, qq_subF, qq_addnT, qq_addnF, qq_naddT, qq_naddF, pk_mul, qq_and, qq_or, if_true, if_false, not_true, not_false_iff, qq_upd, qq_updE, qq_updN, reduceIte, eq_self, ne_eq, true_and, and_true, Nat.add_zero, Nat.zero_add, Nat.add_sub_cancel]
    · rw [if_neg (by omega)]
  | succ d ih =>
    intro k fuel who h hf
    obtain ⟨f, rfl⟩ : ∃ f, fuel = f + 1 := ⟨fuel - 1, by omega⟩
    obtain ⟨w, e, hw⟩ := ih (k + 1) f (upd who k (who (k + 1))) (by omega) (by omega)
    refine ⟨w, ?_, fun i => ?_⟩
    · rw [f_M_takesOut_L12]; simp (disch := omega) only [qq_b1, qq_b2, qq_b3, qq_b4, qq_b5, qq_b6, qq_b7, qq_b8, qq_b9, qq_b10, qq_b11, qq_b12, qq_b13, qq_b18, qq_b19, qq_s0l, qq_s0r, qq_s1l, qq_s1r, qq_s2l, qq_s2r, qq_s3l, qq_s3r, qq_s6l, qq_s6r, qq_s7l, qq_s7r, qq_bt, qq_bf, qq_l70, qq_l24, qq_l23, qq_l22, qq_l21, qq_l19, qq_l18, qq_l17, qq_l16, qq_l25, qq_l32, qq_l33, qq_l34, qq_l35, qq_l44, qq_l46, qq_l108, qq_l0, qq_l1, qq_l2, qq_l3, qq_l4, qq_l5, qq_l6, qq_l7, qq_l8, qq_l9, qq_l10, qq_l11, qq_l12, qq_l13, qq_l14, qq_l15, qq_l20, qq_l30, qq_l31, qq_l36, qq_l37, qq_l38, qq_l39, qq_l40, qq_l41, qq_l42, qq_l43, qq_l45, qq_l47, qq_l48, qq_l49, qq_l50, qq_l57, qq_l58, qq_l59, qq_l60, qq_l61, qq_l62, qq_l63, qq_l80, qq_l81, qq_l97, qq_l98, qq_l99, qq_l100, qq_l103, qq_l112, qq_l113, qq_l119, qq_l120, qq_l121, qq_l124, qq_l126, qq_l128, qq_l255, qq_l360, qq_l512, qq_l729, qq_zg, qq_zs, qq_zsJ, qq_zgT, qq_ltT, qq_ltF, qq_leT, qq_leF, qq_eqT, qq_eqF, qq_nltT, qq_ltnF, qq_nltnT, qq_nltnF, qq_nleT, qq_lenF, qq_nlenT, qq_nlenF, qq_eqnF, qq_neqF, qq_neqnF, qq_neqnT, nI_add, qq_subT, qq_subF, qq_addnT, qq_addnF, qq_naddT, qq_naddF, pk_mul, qq_and, qq_or, if_true, if_false, not_true, not_false_iff, qq_upd, qq_updE, qq_updN, reduceIte, eq_self, ne_eq, true_and, and_true, Nat.add_zero, Nat.zero_add, Nat.add_sub_cancel]; exact e
    · rw [hw i]; simp only [upd]
      (repeat' split) <;> first | rfl | (exfalso; omega) | (apply congrArg; omega)
set_option maxRecDepth 100000 in
set_option maxHeartbeats 4000000 in
theorem qq_takesOut {who : Nat → Int32} {q : Nat → Nat} {n k : Nat} (hL : qq_Ln who q n) (hn : n ≤ 9) (hk : k < n) : ∃ w, f_M_takesOut (nI n) who (nI k) = some (nI (n - 1), w) ∧ qq_Ln w (qq_rem q k) (n - 1) := by
  obtain ⟨w, e, hw⟩ := qq_mremL (n := n - 1) (by omega) (n - 1 - k) k FU who (by omega) (by rw [qq_FU]; omega)
  refine ⟨w, ?_, fun i hi => ?_⟩
  · unfold f_M_takesOut; simp (disch := omega) only [e, qq_b1, qq_b2, qq_b3, qq_b4, qq_b5, qq_b6, qq_b7, qq_b8, qq_b9, qq_b10, qq_b11, qq_b12, qq_b13, qq_b18, qq_b19, qq_s0l, qq_s0r, qq_s1l, qq_s1r, qq_s2l, qq_s2r, qq_s3l, qq_s3r, qq_s6l, qq_s6r, qq_s7l, qq_s7r, qq_bt, qq_bf, qq_l70, qq_l24, qq_l23, qq_l22, qq_l21, qq_l19, qq_l18, qq_l17, qq_l16, qq_l25, qq_l32, qq_l33, qq_l34, qq_l35, qq_l44, qq_l46, qq_l108, qq_l0, qq_l1, qq_l2, qq_l3, qq_l4, qq_l5, qq_l6, qq_l7, qq_l8, qq_l9, qq_l10, qq_l11, qq_l12, qq_l13, qq_l14, qq_l15, qq_l20, qq_l30, qq_l31, qq_l36, qq_l37, qq_l38, qq_l39, qq_l40, qq_l41, qq_l42, qq_l43, qq_l45, qq_l47, qq_l48, qq_l49, qq_l50, qq_l57, qq_l58, qq_l59, qq_l60, qq_l61, qq_l62, qq_l63, qq_l80, qq_l81, qq_l97, qq_l98, qq_l99, qq_l100, qq_l103, qq_l112, qq_l113, qq_l119, qq_l120, qq_l121, qq_l124, qq_l126, qq_l128, qq_l255, qq_l360, qq_l512, qq_l729, qq_zg, qq_zs, qq_zsJ, qq_zgT, qq_ltT, qq_ltF, qq_leT, qq_leF, qq_eqT, qq_eqF, qq_nltT, qq_ltnF, qq_nltnT, qq_nltnF, qq_nleT, qq_lenF, qq_nlenT, qq_nlenF, qq_eqnF, qq_neqF, qq_neqnF, qq_neqnT, nI_add, qq_subT, qq_subF, qq_addnT, qq_addnF, qq_naddT, qq_naddF, pk_mul, qq_and, qq_or, if_true, if_false, not_true, not_false_iff, qq_upd, qq_updE, qq_updN, reduceIte, eq_self, ne_eq, true_and, and_true, Nat.add_zero, Nat.zero_add, Nat.add_sub_cancel]
  · rw [hw, qq_rem]
    by_cases h1 : i < k
    · rw [if_neg (by omega), if_pos h1]; exact hL i (by omega)
    · rw [if_pos (by omega), if_neg h1]; exact hL (i + 1) (by omega)
/-! changed -/
set_option maxRecDepth 100000 in
set_option maxHeartbeats 4000000 in
theorem qq_exchange {who : Nat → Int32} {q : Nat → Nat} {n i j : Nat} (hL : qq_Ln who q n) (hn : n ≤ 9) (hi : i < n) (hj : j < n) : ∃ w, f_Line_exchange (nI n) who (nI i) (nI j) = some w ∧ qq_Ln w (qq_swp q i j) n := by
  refine ⟨upd (upd who i (who j)) j (who i), ?_, fun t ht => ?_⟩
  · unfold f_Line_exchange; simp (disch := omega) only [qq_isPlaceT, qq_b1, qq_b2, qq_b3, qq_b4, qq_b5, qq_b6, qq_b7, qq_b8, qq_b9, qq_b10, qq_b11, qq_b12, qq_b13, qq_b18, qq_b19, qq_s0l, qq_s0r, qq_s1l, qq_s1r, qq_s2l, qq_s2r, qq_s3l, qq_s3r, qq_s6l, qq_s6r, qq_s7l, qq_s7r, qq_bt, qq_bf, qq_l70, qq_l24, qq_l23, qq_l22, qq_l21, qq_l19, qq_l18, qq_l17, qq_l16, qq_l25, qq_l32, qq_l33, qq_l34, qq_l35, qq_l44, qq_l46, qq_l108, qq_l0, qq_l1, qq_l2, qq_l3, qq_l4, qq_l5, qq_l6, qq_l7, qq_l8, qq_l9, qq_l10, qq_l11, qq_l12, qq_l13, qq_l14, qq_l15, qq_l20, qq_l30, qq_l31, qq_l36, qq_l37, qq_l38, qq_l39, qq_l40, qq_l41, qq_l42, qq_l43, qq_l45, qq_l47, qq_l48, qq_l49, qq_l50, qq_l57, qq_l58, qq_l59, qq_l60, qq_l61, qq_l62, qq_l63, qq_l80, qq_l81, qq_l97, qq_l98, qq_l99, qq_l100, qq_l103, qq_l112, qq_l113, qq_l119, qq_l120, qq_l121, qq_l124, qq_l126, qq_l128, qq_l255, qq_l360, qq_l512, qq_l729, qq_zg, qq_zs, qq_zsJ, qq_zgT, qq_ltT, qq_ltF, qq_leT, qq_leF, qq_eqT, qq_eqF, qq_nltT, qq_ltnF, qq_nltnT, qq_nltnF, qq_nleT, qq_lenF, qq_nlenT, qq_nlenF, qq_eqnF, qq_neqF, qq_neqnF, qq_neqnT, nI_add, qq_subT, qq_subF, qq_addnT, qq_addnF, qq_naddT, qq_naddF, pk_mul, qq_and, qq_or, if_true, if_false, not_true, not_false_iff, qq_upd, qq_updE, qq_updN, reduceIte, eq_self, ne_eq, true_and, and_true, Nat.add_zero, Nat.zero_add, Nat.add_sub_cancel]
  · simp only [upd, qq_swp]
    by_cases h1 : t = j
    · rw [if_pos h1, if_pos h1]; exact hL i hi
    · rw [if_neg h1, if_neg h1]
      by_cases h2 : t = i
      · rw [if_pos h2, if_pos h2]; exact hL j hj
      · rw [if_neg h2, if_neg h2]; exact hL t ht
set_option maxRecDepth 100000 in
set_option maxHeartbeats 4000000 in
theorem qq_changesIn {who : Nat → Int32} {q : Nat → Nat} {n i j : Nat} (hL : qq_Ln who q n) (hn : n ≤ 9) (hi : i < n) (hj : j < n) : ∃ w, f_M_changesIn who (nI i) (nI j) = some w ∧ qq_Ln w (qq_swp q i j) n := by
  refine ⟨upd (upd who i (who j)) j (who i), ?_, fun t ht => ?_⟩
  · unfold f_M_changesIn; simp (disch := omega) only [qq_b1, qq_b2, qq_b3, qq_b4, qq_b5, qq_b6, qq_b7, qq_b8, qq_b9, qq_b10, qq_b11, qq_b12, qq_b13, qq_b18, qq_b19, qq_s0l, qq_s0r, qq_s1l, qq_s1r, qq_s2l, qq_s2r, qq_s3l, qq_s3r, qq_s6l, qq_s6r, qq_s7l, qq_s7r, qq_bt, qq_bf, qq_l70, qq_l24, qq_l23, qq_l22, qq_l21, qq_l19, qq_l18, qq_l17, qq_l16, qq_l25, qq_l32, qq_l33, qq_l34, qq_l35, qq_l44, qq_l46, qq_l108, qq_l0, qq_l1, qq_l2, qq_l3, qq_l4, qq_l5, qq_l6, qq_l7, qq_l8, qq_l9, qq_l10, qq_l11, qq_l12, qq_l13, qq_l14, qq_l15, qq_l20, qq_l30, qq_l31, qq_l36, qq_l37, qq_l38, qq_l39, qq_l40, qq_l41, qq_l42, qq_l43, qq_l45, qq_l47, qq_l48, qq_l49, qq_l50, qq_l57, qq_l58, qq_l59, qq_l60, qq_l61, qq_l62, qq_l63, qq_l80, qq_l81, qq_l97, qq_l98, qq_l99, qq_l100, qq_l103, qq_l112, qq_l113, qq_l119, qq_l120, qq_l121, qq_l124, qq_l126, qq_l128, qq_l255, qq_l360, qq_l512, qq_l729, qq_zg, qq_zs, qq_zsJ, qq_zgT, qq_ltT, qq_ltF, qq_leT, qq_leF, qq_eqT, qq_eqF, qq_nltT, qq_ltnF, qq_nltnT, qq_nltnF, qq_nleT, qq_lenF, qq_nlenT, qq_nlenF, qq_eqnF, qq_neqF, qq_neqnF, qq_neqnT, nI_add, qq_subT, qq_subF, qq_addnT, qq_addnF, qq_naddT, qq_naddF, pk_mul, qq_and, qq_or, if_true, if_false, not_true, not_false_iff, qq_upd, qq_updE, qq_updN, reduceIte, eq_self, ne_eq, true_and, and_true, Nat.add_zero, Nat.zero_add, Nat.add_sub_cancel]
  · simp only [upd, qq_swp]
    by_cases h1 : t = j
    · rw [if_pos h1, if_pos h1]; exact hL i hi
    · rw [if_neg h1, if_neg h1]
      by_cases h2 : t = i
      · rw [if_pos h2, if_pos h2]; exact hL j hj
      · rw [if_neg h2, if_neg h2]; exact hL t ht
theorem qq_setAt {who : Nat → Int32} {n k : Nat} {x : Int32} (h : k < n ∧ n ≤ 9) : f_Line_setAt (nI n) who (nI k) x = some (upd who k x) := by
  unfold f_Line_setAt; simp (disch := omega) only [qq_isPlaceT, qq_b1, qq_b2, qq_b3, qq_b4, qq_b5, qq_b6, qq_b7, qq_b8, qq_b9, qq_b10, qq_b11, qq_b12, qq_b13, qq_b18, qq_b19, qq_s0l, qq_s0r, qq_s1l, qq_s1r, qq_s2l, qq_s2r, qq_s3l, qq_s3r, qq_s6l, qq_s6r, qq_s7l, qq_s7r, qq_bt, qq_bf, qq_l70, qq_l24, qq_l23, qq_l22, qq_l21, qq_l19, qq_l18, qq_l17, qq_l16, qq_l25, qq_l32, qq_l33, qq_l34, qq_l35, qq_l44, qq_l46, qq_l108, qq_l0, qq_l1, qq_l2, qq_l3, qq_l4, qq_l5, qq_l6, qq_l7, qq_l8, qq_l9, qq_l10, qq_l11, qq_l12, qq_l13, qq_l14, qq_l15, qq_l20, qq_l30, qq_l31, qq_l36, qq_l37, qq_l38, qq_l39, qq_l40, qq_l41, qq_l42, qq_l43, qq_l45, qq_l47, qq_l48, qq_l49, qq_l50, qq_l57, qq_l58, qq_l59, qq_l60, qq_l61, qq_l62, qq_l63, qq_l80, qq_l81, qq_l97, qq_l98, qq_l99, qq_l100, qq_l103, qq_l112, qq_l113, qq_l119, qq_l120, qq_l121, qq_l124, qq_l126, qq_l128, qq_l255, qq_l360, qq_l512, qq_l729, qq_zg, qq_zs, qq_zsJ, qq_zgT, qq_ltT, qq_ltF, qq_leT, qq_leF, qq_eqT, qq_eqF, qq_nltT, qq_ltnF, qq_nltnT, qq_nltnF, qq_nleT, qq_lenF, qq_nlenT, qq_nlenF, qq_eqnF, qq_neqF, qq_neqnF, qq_neqnT, nI_add, qq_subT, qq_subF, qq_addnT, qq_addnF, qq_naddT, qq_naddF, pk_mul, qq_and, qq_or, if_true, if_false, not_true, not_false_iff, qq_upd, qq_updE, qq_updN, reduceIte, eq_self, ne_eq, true_and, and_true, Nat.add_zero, Nat.zero_add, Nat.add_sub_cancel]
/-! copied -/
theorem qq_zcp {α β : Type} {f g : Nat → β} {n0 n1 a b c : Nat} {k : (Nat → β) → Option α} (h : a + c ≤ n0 ∧ b + c ≤ n1 ∧ n0 < 1000 ∧ n1 < 1000) : zcp f g n0 n1 (nI a) (nI b) (nI c) k = k (va_cpy f g a b c) := by
  unfold zcp
  rw [nI_clamp (by omega), nI_clamp (by omega), nI_clamp (by omega), if_pos ⟨⟨nI_pos (by omega), nI_pos (by omega), nI_pos (by omega)⟩, by omega, by omega⟩]
theorem qq_copyFrom {l : Int32} {who : Nat → Int32} {l1 : Int32} {who1 : Nat → Int32} : ∃ w, f_Line_copyFrom l who l1 who1 = some (l1, w) ∧ ∀ i, i < 9 → w i = who1 i := by
  refine ⟨va_cpy who1 who 0 0 9, ?_, fun i hi => ?_⟩
  · unfold f_Line_copyFrom
    rw [qq_l0, qq_l9, qq_zcp (by omega)]
  · unfold va_cpy
    rw [if_pos (by omega)]
    congr 1
    omega
set_option maxRecDepth 100000 in
set_option maxHeartbeats 4000000 in
theorem qq_laysL {line : Nat → Int32} {n : Nat} (hn : n ≤ 9) : ∀ d k fuel (row : Nat → Int32), k + d = n → d < fuel → ∃ w, f_M_laysOut_L10 (nI n) line fuel row (nI k) = some w ∧ ∀ i, w i = if k ≤ i ∧ i < n then line i else row i := by
  intro d
  induction d with
  | zero =>
    intro k fuel row h hf
    obtain ⟨f, rfl⟩ : ∃ f, fuel = f + 1 := ⟨fuel - 1, by omega⟩
    refine ⟨row, ?_, fun i => ?_⟩
    · rw [f_M_laysOut_L10]; simp (disch := omega) only [qq_b1, qq_b2, qq_b3, qq_b4, qq_b5, qq_b6, qq_b7, qq_b8, qq_b9, qq_b10, qq_b11, qq_b12, qq_b13, qq_b18, qq_b19, qq_s0l, qq_s0r, qq_s1l, qq_s1r, qq_s2l, qq_s2r, qq_s3l, qq_s3r, qq_s6l, qq_s6r, qq_s7l, qq_s7r, qq_bt, qq_bf, qq_l70, qq_l24, qq_l23, qq_l22, qq_l21, qq_l19, qq_l18, qq_l17, qq_l16, qq_l25, qq_l32, qq_l33, qq_l34, qq_l35, qq_l44, qq_l46, qq_l108, qq_l0, qq_l1, qq_l2, qq_l3, qq_l4, qq_l5, qq_l6, qq_l7, qq_l8, qq_l9, qq_l10, qq_l11, qq_l12, qq_l13, qq_l14, qq_l15, qq_l20, qq_l30, qq_l31, qq_l36, qq_l37, qq_l38, qq_l39, qq_l40, qq_l41, qq_l42, qq_l43, qq_l45, qq_l47, qq_l48, qq_l49, qq_l50, qq_l57, qq_l58, qq_l59, qq_l60, qq_l61, qq_l62, qq_l63, qq_l80, qq_l81, qq_l97, qq_l98, qq_l99, qq_l100, qq_l103, qq_l112, qq_l113, qq_l119, qq_l120, qq_l121, qq_l124, qq_l126, qq_l128, qq_l255, qq_l360, qq_l512, qq_l729, qq_zg, qq_zs, qq_zsJ, qq_zgT, qq_ltT, qq_ltF, qq_leT, qq_leF, qq_eqT, qq_eqF, qq_nltT, qq_ltnF, qq_nltnT, qq_nltnF, qq_nleT, qq_lenF, qq_nlenT, qq_nlenF, qq_eqnF, qq_neqF, qq_neqnF, qq_neqnT, nI_add, qq_subT, qq_subF, qq_addnT, qq_addnF, qq_naddT, qq_naddF, pk_mul, qq_and, qq_or, if_true, if_false, not_true, not_false_iff, qq_upd, qq_updE, qq_updN, reduceIte, eq_self, ne_eq, true_and, and_true, Nat.add_zero, Nat.zero_add, Nat.add_sub_cancel]
    · rw [if_neg (by omega)]
  | succ d ih =>
    intro k fuel row h hf
    obtain ⟨f, rfl⟩ : ∃ f, fuel = f + 1 := ⟨fuel - 1, by omega⟩
    obtain ⟨w, e, hw⟩ := ih (k + 1) f (upd row k (line k)) (by omega) (by omega)
    refine ⟨w, ?_, fun i => ?_⟩
    · rw [f_M_laysOut_L10]; simp (disch := omega) only [qq_b1, qq_b2, qq_b3, qq_b4, qq_b5, qq_b6, qq_b7, qq_b8, qq_b9, qq_b10, qq_b11, qq_b12, qq_b13, qq_b18, qq_b19, qq_s0l, qq_s0r, qq_s1l, qq_s1r, qq_s2l, qq_s2r, qq_s3l, qq_s3r, qq_s6l, qq_s6r, qq_s7l, qq_s7r, qq_bt, qq_bf, qq_l70, qq_l24, qq_l23, qq_l22, qq_l21, qq_l19, qq_l18, qq_l17, qq_l16, qq_l25, qq_l32, qq_l33, qq_l34, qq_l35, qq_l44, qq_l46, qq_l108, qq_l0, qq_l1, qq_l2, qq_l3, qq_l4, qq_l5, qq_l6, qq_l7, qq_l8, qq_l9, qq_l10, qq_l11, qq_l12, qq_l13, qq_l14, qq_l15, qq_l20, qq_l30, qq_l31, qq_l36, qq_l37, qq_l38, qq_l39, qq_l40, qq_l41, qq_l42, qq_l43, qq_l45, qq_l47, qq_l48, qq_l49, qq_l50, qq_l57, qq_l58, qq_l59, qq_l60, qq_l61, qq_l62, qq_l63, qq_l80, qq_l81, qq_l97, qq_l98, qq_l99, qq_l100, qq_l103, qq_l112, qq_l113, qq_l119, qq_l120, qq_l121, qq_l124, qq_l126, qq_l128, qq_l255, qq_l360, qq_l512, qq_l729, qq_zg, qq_zs, qq_zsJ, qq_zgT, qq_ltT, qq_ltF, qq_leT, qq_leF, qq_eqT, qq_eqF, qq_nltT, qq_ltnF, qq_nltnT, qq_nltnF, qq_nleT, qq_lenF, qq_nlenT, qq_nlenF, qq_eqnF, qq_neqF, qq_neqnF, qq_neqnT, nI_add, qq_subT, qq_subF, qq_addnT, qq_addnF, qq_naddT, qq_naddF, pk_mul, qq_and, qq_or, if_true, if_false, not_true, not_false_iff, qq_upd, qq_updE, qq_updN, reduceIte, eq_self, ne_eq, true_and, and_true, Nat.add_zero, Nat.zero_add, Nat.add_sub_cancel]; exact e
    · rw [hw i]; simp only [upd]
      (repeat' split) <;> first | rfl | (exfalso; omega) | (apply congrArg; omega)
set_option maxRecDepth 100000 in
set_option maxHeartbeats 4000000 in
theorem qq_laysOut {line row : Nat → Int32} {q : Nat → Nat} {n : Nat} {a b : Int32} (hL : qq_Ln line q n) (hn : n ≤ 9) : ∃ w, f_M_laysOut (nI n) a b line row = some (nI n, -nI 1, w) ∧ qq_Ln w q n := by
  obtain ⟨w, e, hw⟩ := qq_laysL (line := line) hn n 0 FU row (by omega) (by rw [qq_FU]; omega)
  refine ⟨w, ?_, fun i hi => ?_⟩
  · unfold f_M_laysOut; simp (disch := omega) only [e, qq_b1, qq_b2, qq_b3, qq_b4, qq_b5, qq_b6, qq_b7, qq_b8, qq_b9, qq_b10, qq_b11, qq_b12, qq_b13, qq_b18, qq_b19, qq_s0l, qq_s0r, qq_s1l, qq_s1r, qq_s2l, qq_s2r, qq_s3l, qq_s3r, qq_s6l, qq_s6r, qq_s7l, qq_s7r, qq_bt, qq_bf, qq_l70, qq_l24, qq_l23, qq_l22, qq_l21, qq_l19, qq_l18, qq_l17, qq_l16, qq_l25, qq_l32, qq_l33, qq_l34, qq_l35, qq_l44, qq_l46, qq_l108, qq_l0, qq_l1, qq_l2, qq_l3, qq_l4, qq_l5, qq_l6, qq_l7, qq_l8, qq_l9, qq_l10, qq_l11, qq_l12, qq_l13, qq_l14, qq_l15, qq_l20, qq_l30, qq_l31, qq_l36, qq_l37, qq_l38, qq_l39, qq_l40, qq_l41, qq_l42, qq_l43, qq_l45, qq_l47, qq_l48, qq_l49, qq_l50, qq_l57, qq_l58, qq_l59, qq_l60, qq_l61, qq_l62, qq_l63, qq_l80, qq_l81, qq_l97, qq_l98, qq_l99, qq_l100, qq_l103, qq_l112, qq_l113, qq_l119, qq_l120, qq_l121, qq_l124, qq_l126, qq_l128, qq_l255, qq_l360, qq_l512, qq_l729, qq_zg, qq_zs, qq_zsJ, qq_zgT, qq_ltT, qq_ltF, qq_leT, qq_leF, qq_eqT, qq_eqF, qq_nltT, qq_ltnF, qq_nltnT, qq_nltnF, qq_nleT, qq_lenF, qq_nlenT, qq_nlenF, qq_eqnF, qq_neqF, qq_neqnF, qq_neqnT, nI_add, qq_subT, qq_subF, qq_addnT, qq_addnF, qq_naddT, qq_naddF, pk_mul, qq_and, qq_or, if_true, if_false, not_true, not_false_iff, qq_upd, qq_updE, qq_updN, reduceIte, eq_self, ne_eq, true_and, and_true, Nat.add_zero, Nat.zero_add, Nat.add_sub_cancel]
  · rw [hw, if_pos (by omega)]; exact hL i hi
theorem qq_Vl_ins {q : Nat → Nat} {n P k p : Nat} (hV : qq_Vl q n P) (hk : k ≤ n) (hp : p < P) (hne : ∀ i, i < n → q i ≠ p) : qq_Vl (qq_ins q k p) (n + 1) P := by
  refine ⟨fun i hi => ?_, fun i j hi hj e => ?_⟩
  · unfold qq_ins
    split
    · exact hV.1 i (by omega)
    · split
      · exact hp
      · exact hV.1 (i - 1) (by omega)
  · unfold qq_ins at e
    have h1 := hne i
    have h2 := hne j
    have h3 := hne (i - 1)
    have h4 := hne (j - 1)
    have h5 := hV.2 i j
    have h6 := hV.2 i (j - 1)
    have h7 := hV.2 (i - 1) j
    have h8 := hV.2 (i - 1) (j - 1)
    split at e <;> split at e <;> (try split at e) <;> (try split at e) <;> first | omega | (exfalso; exact h1 (by omega) e) | (exfalso; exact h3 (by omega) e) | (exfalso; exact h2 (by omega) e.symm) | (exfalso; exact h4 (by omega) e.symm) | (have := h5 (by omega) (by omega) e; omega) | (have := h6 (by omega) (by omega) e; omega) | (have := h7 (by omega) (by omega) e; omega) | (have := h8 (by omega) (by omega) e; omega)
theorem qq_Vl_rem {q : Nat → Nat} {n P k : Nat} (hV : qq_Vl q n P) : qq_Vl (qq_rem q k) (n - 1) P := by
  refine ⟨fun i hi => ?_, fun i j hi hj e => ?_⟩
  · unfold qq_rem
    split
    · exact hV.1 i (by omega)
    · exact hV.1 (i + 1) (by omega)
  · unfold qq_rem at e
    have h5 := hV.2 i j (by omega) (by omega)
    have h6 := hV.2 i (j + 1) (by omega) (by omega)
    have h7 := hV.2 (i + 1) j (by omega) (by omega)
    have h8 := hV.2 (i + 1) (j + 1) (by omega) (by omega)
    split at e <;> split at e
    · exact h5 e
    · have := h6 e; omega
    · have := h7 e; omega
    · have := h8 e; omega
theorem qq_Vl_swp {q : Nat → Nat} {n P i j : Nat} (hV : qq_Vl q n P) (hi : i < n) (hj : j < n) : qq_Vl (qq_swp q i j) n P := by
  refine ⟨fun t ht => ?_, fun a b ha hb e => ?_⟩
  · unfold qq_swp
    split
    · exact hV.1 i hi
    · split
      · exact hV.1 j hj
      · exact hV.1 t ht
  · unfold qq_swp at e
    have h1 := hV.2 a b ha hb
    have h2 := hV.2 i b hi hb
    have h3 := hV.2 j b hj hb
    have h4 := hV.2 a i ha hi
    have h5 := hV.2 a j ha hj
    have h6 := hV.2 i j hi hj
    have h7 := hV.2 j i hj hi
    split at e <;> split at e <;> (try split at e) <;> (try split at e) <;> first | omega | (have := h1 e; omega) | (have := h2 e; omega) | (have := h3 e; omega) | (have := h4 e; omega) | (have := h5 e; omega) | (have := h6 e; omega) | (have := h7 e; omega)
theorem qq_Ln_mono {who : Nat → Int32} {q : Nat → Nat} {n m : Nat} (h : qq_Ln who q n) (hm : m ≤ n) : qq_Ln who q m := fun i hi => h i (by omega)
theorem qq_Vl_mono {q : Nat → Nat} {n P R : Nat} (h : qq_Vl q n P) (hm : P ≤ R) : qq_Vl q n R := ⟨fun i hi => Nat.lt_of_lt_of_le (h.1 i hi) hm, h.2⟩
