/-! LAYER (c): right, second half (by wip/whole/c/c.py) -/
theorem qq_sum_single {a c : Nat} : ∀ {P : Nat}, qq_sum (fun p => if p = a then c else 0) P = if a < P then c else 0
  | 0 => by rw [if_neg (Nat.not_lt_zero a)]; rfl
  | P + 1 => by
    rw [qq_sum, qq_sum_single]
    by_cases h : a < P
    · rw [if_pos h, if_neg (show ¬ P = a by omega), if_pos (show a < P + 1 by omega), Nat.add_zero]
    · rw [if_neg h]
      by_cases e : P = a
      · rw [if_pos e, if_pos (show a < P + 1 by omega), Nat.zero_add]
      · rw [if_neg e, if_neg (show ¬ a < P + 1 by omega)]
theorem qq_sum_re {q : Nat → Nat} {n P : Nat} (hV : qq_Vl q n P) (f : Nat → Nat) : ∀ k, k ≤ n → qq_sum f k = qq_sum (fun p => if qq_pl q k p < k then f (qq_pl q k p) else 0) P
  | 0, _ => by
    rw [qq_sum_const 0 (n := P) (fun p _ => if_neg (Nat.not_lt_zero _)), Nat.mul_zero]
    rfl
  | k + 1, hk => by
    have ih := qq_sum_re hV f k (by omega)
    have e : qq_sum (fun p => if qq_pl q (k + 1) p < k + 1 then f (qq_pl q (k + 1) p) else 0) P = qq_sum (fun p => (if qq_pl q k p < k then f (qq_pl q k p) else 0) + (if p = q k then f k else 0)) P := by
      apply qq_sum_congr
      intro p _
      rw [qq_pl_succ hV (show k < n by omega)]
      by_cases h1 : p = q k
      · rw [if_pos h1, if_pos (show k < k + 1 by omega), if_pos h1]
        by_cases h2 : qq_pl q k p < k
        · exfalso
          have h3 := qq_pl_is h2
          have h4 := hV.2 (qq_pl q k p) k (by omega) (by omega) (by rw [h3, h1])
          omega
        · rw [if_neg h2, Nat.zero_add]
      · rw [if_neg h1, if_neg h1]
        by_cases h2 : qq_pl q k p < k
        · rw [if_pos h2, if_pos h2, if_pos (show qq_pl q k p < k + 1 by omega)]
          all_goals rfl
        · rw [if_neg h2, if_neg h2, if_neg (by omega)]
          all_goals rfl
    rw [e, qq_sum_add, ← ih, qq_sum_single, if_pos (hV.1 k (by omega)), qq_sum]
theorem qq_sum_ge {f : Nat → Nat} {k : Nat} : ∀ {n : Nat}, k < n → f k ≤ qq_sum f n
  | n + 1, h => by
    rw [qq_sum]
    rcases Nat.eq_or_lt_of_le (Nat.lt_succ_iff.mp h) with e | e
    · subst e; omega
    · have := qq_sum_ge (f := f) e; omega
/-- k may be next of the set S -/
def qq_may (A : Nat → Nat) (S k : Nat) : Bool := S.testBit k && decide (A k &&& S = 0)
/-- the orders of a set of c -/
def qq_od (A : Nat → Nat) (n : Nat) : Nat → Nat → Nat
  | 0, _ => 1
  | c + 1, S => qq_sum (fun k => if qq_may A S k = true then qq_od A n c (qq_rmv S k) else 0) n
theorem qq_od_le {A : Nat → Nat} {n : Nat} (hn : n ≤ 9) : ∀ c S, qq_od A n c S ≤ 9 ^ c
  | 0, _ => Nat.le_refl _
  | c + 1, S => by
    have h := qq_sum_le (f := fun k => if qq_may A S k = true then qq_od A n c (qq_rmv S k) else 0) (m := 9 ^ c) (n := n) (fun k _ => by
      split
      · exact qq_od_le hn c _
      · exact Nat.zero_le _)
    rw [qq_od, Nat.pow_succ]
    have h2 : n * 9 ^ c ≤ 9 * 9 ^ c := Nat.mul_le_mul_right _ hn
    omega
theorem qq_od_lt {A : Nat → Nat} {n : Nat} (hn : n ≤ 9) {c : Nat} (hc : c ≤ 9) (S : Nat) : qq_od A n c S < 2147483648 := by
  have h := qq_od_le (A := A) hn c S
  have h2 : (9 : Nat) ^ c ≤ 9 ^ 9 := Nat.pow_le_pow_right (by omega) hc
  have h3 : (9 : Nat) ^ 9 = 387420489 := by decide +kernel
  omega
theorem qq_pc_pos : ∀ S, S < 512 → 0 < S → 0 < qq_pc S := by decide +kernel
theorem qq_tallest {S : Nat} {h : Nat → Nat} : ∀ m, (∃ k, k < m ∧ S.testBit k = true) → ∃ k, k < m ∧ S.testBit k = true ∧ ∀ j, j < m → S.testBit j = true → h j ≤ h k
  | 0, ⟨k, hk, _⟩ => absurd hk (Nat.not_lt_zero k)
  | m + 1, ⟨k, hk, hb⟩ => by
    by_cases h1 : ∃ k, k < m ∧ S.testBit k = true
    · obtain ⟨a, ha, hab, hmax⟩ := qq_tallest (S := S) (h := h) m h1
      by_cases h2 : S.testBit m = true ∧ h a < h m
      · refine ⟨m, by omega, h2.1, fun j hj hjb => ?_⟩
        rcases Nat.eq_or_lt_of_le (Nat.lt_succ_iff.mp hj) with e | e
        · subst e; exact Nat.le_refl _
        · have := hmax j e hjb; omega
      · refine ⟨a, by omega, hab, fun j hj hjb => ?_⟩
        rcases Nat.eq_or_lt_of_le (Nat.lt_succ_iff.mp hj) with e | e
        · subst e
          rcases Nat.lt_or_ge (h a) (h j) with h3 | h3
          · exact absurd ⟨hjb, h3⟩ h2
          · exact h3
        · exact hmax j e hjb
    · have e : k = m := by
        rcases Nat.eq_or_lt_of_le (Nat.lt_succ_iff.mp hk) with e | e
        · exact e
        · exact absurd ⟨k, e, hb⟩ h1
      subst e
      refine ⟨k, by omega, hb, fun j hj hjb => ?_⟩
      rcases Nat.eq_or_lt_of_le (Nat.lt_succ_iff.mp hj) with e | e
      · subst e; exact Nat.le_refl _
      · exact absurd ⟨j, e, hjb⟩ h1
theorem qq_ne0 {S : Nat} (h : S ≠ 0) : ∃ i, S.testBit i = true := by
  by_cases h1 : ∃ i, S.testBit i = true
  · exact h1
  · exfalso
    apply h
    refine Nat.eq_of_testBit_eq fun i => ?_
    rw [Nat.zero_testBit]
    cases hb : S.testBit i with
    | false => rfl
    | true => exact absurd ⟨i, hb⟩ h1
theorem qq_may_ex {c : Nat → Nat → Nat → Bool} {H q : Nat → Nat} {n S : Nat} (hS : ∀ i, S.testBit i = true → i < n) (h0 : S ≠ 0) : ∃ k, k < n ∧ S.testBit k = true ∧ qq_may (fun k => qq_ms (qq_bl c H q k) (fun j => j) n) S k = true := by
  obtain ⟨i, hi⟩ := qq_ne0 h0
  obtain ⟨k, hk, hb, hmax⟩ := qq_tallest (S := S) (h := fun j => H (q j)) n ⟨i, hS i hi, hi⟩
  refine ⟨k, hk, hb, ?_⟩
  unfold qq_may
  rw [hb, Bool.true_and, decide_eq_true_eq, qq_and0]
  intro a ha
  obtain ⟨j, hj, hf, e⟩ := qq_ms_bit.mp ha
  have e2 : j = a := e
  subst e2
  unfold qq_bl at hf
  rw [Bool.and_eq_true, decide_eq_true_eq, decide_eq_true_eq] at hf
  cases hs : S.testBit j with
  | false => rfl
  | true => have := hmax j hj hs; omega
theorem qq_rmv_in {n S k : Nat} (hS : S < 512) (hk : k < 9) (h : ∀ i, S.testBit i = true → i < n) : ∀ i, (qq_rmv S k).testBit i = true → i < n := fun i hi => by
  have h9 := qq_lt9 (qq_bit3 S hS k hk).2 hi
  rw [qq_rmv_bit hk h9, Bool.and_eq_true] at hi
  exact h i hi.1
theorem qq_od_pos {c : Nat → Nat → Nat → Bool} {H q : Nat → Nat} {n : Nat} (hn : n ≤ 9) : ∀ m S, S < 512 → (∀ i, S.testBit i = true → i < n) → qq_pc S = m → 0 < qq_od (fun k => qq_ms (qq_bl c H q k) (fun j => j) n) n m S
  | 0, _, _, _, _ => Nat.one_pos
  | m + 1, S, hS, hb, hm => by
    have h0 : S ≠ 0 := fun e => by
      rw [e, show qq_pc 0 = 0 by decide +kernel] at hm
      cases hm
    obtain ⟨k, hk, hkb, hmay⟩ := qq_may_ex (c := c) (H := H) (q := q) hb h0
    have h6 := qq_bit6 S hS k (by omega) hkb
    have ih := qq_od_pos (c := c) (H := H) (q := q) hn m (qq_rmv S k) (by omega) (qq_rmv_in hS (by omega) hb) (by omega)
    rw [qq_od]
    have h7 := qq_sum_ge (f := fun k' => if qq_may (fun k => qq_ms (qq_bl c H q k) (fun j => j) n) S k' = true then qq_od (fun k => qq_ms (qq_bl c H q k) (fun j => j) n) n m (qq_rmv S k') else 0) hk
    simp only [if_pos hmay] at h7
    omega
theorem qq_nand0 {a b : Nat} (hb : b < 512) : (nI a &&& nI b = nI 0) = (a &&& b = 0) := by
  have h : a &&& b ≤ b := Nat.and_le_right
  rw [qq_nand]
  generalize a &&& b = x at h
  rw [qq_inj, qq_toI (by omega), qq_toI (by omega)]
  exact propext ⟨fun h => by omega, fun h => by omega⟩
/-! the class -/
set_option maxRecDepth 100000 in
set_option maxHeartbeats 4000000 in
theorem qq_or32 {A : Nat → Nat} {ahead orders : Nat → Int32} {n : Nat} (hn : n ≤ 9) (hA : ∀ i, i < n → ahead i = nI (A i)) {S c : Nat} (hS : S < 512) (hc : qq_pc S = c + 1) (hO : ∀ S1, S1 < S → orders S1 = nI (qq_od A n (qq_pc S1) S1)) :
    ∀ t k fuel, k + t = n → t < fuel → f_Thoughts_ordersByRight_L32 ahead orders (nI n) (nI S) fuel (nI (qq_sum (fun k => if qq_may A S k = true then qq_od A n c (qq_rmv S k) else 0) k)) (nI k) = some (nI (qq_od A n (c + 1) S)) := by
  intro t
  induction t with
  | zero =>
    intro k fuel h hf
    obtain ⟨f, rfl⟩ : ∃ f, fuel = f + 1 := ⟨fuel - 1, by omega⟩
    obtain rfl : k = n := by omega
    rw [f_Thoughts_ordersByRight_L32, qq_od]; simp (disch := omega) only [qq_b1, qq_b2, qq_b3, qq_b4, qq_b5, qq_b6, qq_b7, qq_b8, qq_b9, qq_b10, qq_b11, qq_b12, qq_b13, qq_b18, qq_b19, qq_s0l, qq_s0r, qq_s1l, qq_s1r, qq_s2l, qq_s2r, qq_s3l, qq_s3r, qq_s6l, qq_s6r, qq_s7l, qq_s7r, qq_bt, qq_bf, qq_l70, qq_l24, qq_l23, qq_l22, qq_l21, qq_l19, qq_l18, qq_l17, qq_l16, qq_l25, qq_l32, qq_l33, qq_l34, qq_l35, qq_l44, qq_l46, qq_l108, qq_l0, qq_l1, qq_l2, qq_l3, qq_l4, qq_l5, qq_l6, qq_l7, qq_l8, qq_l9, qq_l10, qq_l11, qq_l12, qq_l13, qq_l14, qq_l15, qq_l20, qq_l30, qq_l31, qq_l36, qq_l37, qq_l38, qq_l39, qq_l40, qq_l41, qq_l42, qq_l43, qq_l45, qq_l47, qq_l48, qq_l49, qq_l50, qq_l57, qq_l58, qq_l59, qq_l60, qq_l61, qq_l62, qq_l63, qq_l80, qq_l81, qq_l97, qq_l98, qq_l99, qq_l100, qq_l103, qq_l112, qq_l113, qq_l119, qq_l120, qq_l121, qq_l124, qq_l126, qq_l128, qq_l255, qq_l360, qq_l512, qq_l729, qq_zg, qq_zs, qq_zsJ, qq_zgT, qq_ltT, qq_ltF, qq_leT, qq_leF, qq_eqT, qq_eqF, qq_nltT, qq_ltnF, qq_nltnT, qq_nltnF, qq_nleT, qq_lenF, qq_nlenT, qq_nlenF, qq_eqnF, qq_neqF, qq_neqnF, qq_neqnT, nI_add, qq_subT, qq_subF, qq_addnT, qq_addnF, qq_naddT, qq_naddF, pk_mul, qq_and, qq_or, if_true, if_false, not_true, not_false_iff, qq_upd, qq_updE, qq_updN, reduceIte, eq_self, ne_eq, true_and, and_true, Nat.add_zero, Nat.zero_add, Nat.add_sub_cancel]
  | succ t ih =>
    intro k fuel h hf
    obtain ⟨f, rfl⟩ : ∃ f, fuel = f + 1 := ⟨fuel - 1, by omega⟩
    have hk : k < n := by omega
    have e := ih (k + 1) f (by omega) (by omega)
    rw [qq_sum] at e
    rw [f_Thoughts_ordersByRight_L32]
    cases hb : S.testBit k with
    | false =>
      have h1 : (nI S &&& (nI 1 <<< (nI k &&& nI 31)) = nI 0) = True := eq_true ((qq_bit7 S hS k (by omega)).1.mpr hb)
      have h2 : ¬ qq_may A S k = true := by unfold qq_may; rw [hb, Bool.false_and]; decide
      rw [if_neg h2, Nat.add_zero] at e
      simp (disch := omega) only [h1, qq_b1, qq_b2, qq_b3, qq_b4, qq_b5, qq_b6, qq_b7, qq_b8, qq_b9, qq_b10, qq_b11, qq_b12, qq_b13, qq_b18, qq_b19, qq_s0l, qq_s0r, qq_s1l, qq_s1r, qq_s2l, qq_s2r, qq_s3l, qq_s3r, qq_s6l, qq_s6r, qq_s7l, qq_s7r, qq_bt, qq_bf, qq_l70, qq_l24, qq_l23, qq_l22, qq_l21, qq_l19, qq_l18, qq_l17, qq_l16, qq_l25, qq_l32, qq_l33, qq_l34, qq_l35, qq_l44, qq_l46, qq_l108, qq_l0, qq_l1, qq_l2, qq_l3, qq_l4, qq_l5, qq_l6, qq_l7, qq_l8, qq_l9, qq_l10, qq_l11, qq_l12, qq_l13, qq_l14, qq_l15, qq_l20, qq_l30, qq_l31, qq_l36, qq_l37, qq_l38, qq_l39, qq_l40, qq_l41, qq_l42, qq_l43, qq_l45, qq_l47, qq_l48, qq_l49, qq_l50, qq_l57, qq_l58, qq_l59, qq_l60, qq_l61, qq_l62, qq_l63, qq_l80, qq_l81, qq_l97, qq_l98, qq_l99, qq_l100, qq_l103, qq_l112, qq_l113, qq_l119, qq_l120, qq_l121, qq_l124, qq_l126, qq_l128, qq_l255, qq_l360, qq_l512, qq_l729, qq_zg, qq_zs, qq_zsJ, qq_zgT, qq_ltT, qq_ltF, qq_leT, qq_leF, qq_eqT, qq_eqF, qq_nltT, qq_ltnF, qq_nltnT, qq_nltnF, qq_nleT, qq_lenF, qq_nlenT, qq_nlenF, qq_eqnF, qq_neqF, qq_neqnF, qq_neqnT, nI_add, qq_subT, qq_subF, qq_addnT, qq_addnF, qq_naddT, qq_naddF, pk_mul, qq_and, qq_or, if_true, if_false, not_true, not_false_iff, qq_upd, qq_updE, qq_updN, reduceIte, eq_self, ne_eq, true_and, and_true, Nat.add_zero, Nat.zero_add, Nat.add_sub_cancel]
      exact e
    | true =>
      have h1 : (nI S &&& (nI 1 <<< (nI k &&& nI 31)) = nI 0) = False := eq_false (fun h => by
        have := (qq_bit7 S hS k (by omega)).1.mp h
        rw [hb] at this; cases this)
      have h6 := qq_bit6 S hS k (by omega) hb
      by_cases h3 : A k &&& S = 0
      · have h2 : qq_may A S k = true := by unfold qq_may; rw [hb, decide_eq_true h3]; rfl
        have h4 : (nI (A k) &&& nI S = nI 0) = True := by rw [qq_nand0 hS]; exact eq_true h3
        have h5 := hO (qq_rmv S k) h6.2.1
        rw [show qq_pc (qq_rmv S k) = c by omega] at h5
        rw [if_pos h2] at e
        simp (disch := omega) only [h1, hA k hk, h4, h6.1, h5, qq_b1, qq_b2, qq_b3, qq_b4, qq_b5, qq_b6, qq_b7, qq_b8, qq_b9, qq_b10, qq_b11, qq_b12, qq_b13, qq_b18, qq_b19, qq_s0l, qq_s0r, qq_s1l, qq_s1r, qq_s2l, qq_s2r, qq_s3l, qq_s3r, qq_s6l, qq_s6r, qq_s7l, qq_s7r, qq_bt, qq_bf, qq_l70, qq_l24, qq_l23, qq_l22, qq_l21, qq_l19, qq_l18, qq_l17, qq_l16, qq_l25, qq_l32, qq_l33, qq_l34, qq_l35, qq_l44, qq_l46, qq_l108, qq_l0, qq_l1, qq_l2, qq_l3, qq_l4, qq_l5, qq_l6, qq_l7, qq_l8, qq_l9, qq_l10, qq_l11, qq_l12, qq_l13, qq_l14, qq_l15, qq_l20, qq_l30, qq_l31, qq_l36, qq_l37, qq_l38, qq_l39, qq_l40, qq_l41, qq_l42, qq_l43, qq_l45, qq_l47, qq_l48, qq_l49, qq_l50, qq_l57, qq_l58, qq_l59, qq_l60, qq_l61, qq_l62, qq_l63, qq_l80, qq_l81, qq_l97, qq_l98, qq_l99, qq_l100, qq_l103, qq_l112, qq_l113, qq_l119, qq_l120, qq_l121, qq_l124, qq_l126, qq_l128, qq_l255, qq_l360, qq_l512, qq_l729, qq_zg, qq_zs, qq_zsJ, qq_zgT, qq_ltT, qq_ltF, qq_leT, qq_leF, qq_eqT, qq_eqF, qq_nltT, qq_ltnF, qq_nltnT, qq_nltnF, qq_nleT, qq_lenF, qq_nlenT, qq_nlenF, qq_eqnF, qq_neqF, qq_neqnF, qq_neqnT, nI_add, qq_subT, qq_subF, qq_addnT, qq_addnF, qq_naddT, qq_naddF, pk_mul, qq_and, qq_or, if_true, if_false, not_true, not_false_iff, qq_upd, qq_updE, qq_updN, reduceIte, eq_self, ne_eq, true_and, and_true, Nat.add_zero, Nat.zero_add, Nat.add_sub_cancel]
        exact e
      · have h2 : ¬ qq_may A S k = true := by unfold qq_may; rw [hb, decide_eq_false h3]; decide
        have h4 : (nI (A k) &&& nI S = nI 0) = False := by rw [qq_nand0 hS]; exact eq_false h3
        rw [if_neg h2, Nat.add_zero] at e
        simp (disch := omega) only [h1, hA k hk, h4, qq_b1, qq_b2, qq_b3, qq_b4, qq_b5, qq_b6, qq_b7, qq_b8, qq_b9, qq_b10, qq_b11, qq_b12, qq_b13, qq_b18, qq_b19, qq_s0l, qq_s0r, qq_s1l, qq_s1r, qq_s2l, qq_s2r, qq_s3l, qq_s3r, qq_s6l, qq_s6r, qq_s7l, qq_s7r, qq_bt, qq_bf, qq_l70, qq_l24, qq_l23, qq_l22, qq_l21, qq_l19, qq_l18, qq_l17, qq_l16, qq_l25, qq_l32, qq_l33, qq_l34, qq_l35, qq_l44, qq_l46, qq_l108, qq_l0, qq_l1, qq_l2, qq_l3, qq_l4, qq_l5, qq_l6, qq_l7, qq_l8, qq_l9, qq_l10, qq_l11, qq_l12, qq_l13, qq_l14, qq_l15, qq_l20, qq_l30, qq_l31, qq_l36, qq_l37, qq_l38, qq_l39, qq_l40, qq_l41, qq_l42, qq_l43, qq_l45, qq_l47, qq_l48, qq_l49, qq_l50, qq_l57, qq_l58, qq_l59, qq_l60, qq_l61, qq_l62, qq_l63, qq_l80, qq_l81, qq_l97, qq_l98, qq_l99, qq_l100, qq_l103, qq_l112, qq_l113, qq_l119, qq_l120, qq_l121, qq_l124, qq_l126, qq_l128, qq_l255, qq_l360, qq_l512, qq_l729, qq_zg, qq_zs, qq_zsJ, qq_zgT, qq_ltT, qq_ltF, qq_leT, qq_leF, qq_eqT, qq_eqF, qq_nltT, qq_ltnF, qq_nltnT, qq_nltnF, qq_nleT, qq_lenF, qq_nlenT, qq_nlenF, qq_eqnF, qq_neqF, qq_neqnF, qq_neqnT, nI_add, qq_subT, qq_subF, qq_addnT, qq_addnF, qq_naddT, qq_naddF, pk_mul, qq_and, qq_or, if_true, if_false, not_true, not_false_iff, qq_upd, qq_updE, qq_updN, reduceIte, eq_self, ne_eq, true_and, and_true, Nat.add_zero, Nat.zero_add, Nat.add_sub_cancel]
        exact e
set_option maxRecDepth 100000 in
set_option maxHeartbeats 4000000 in
theorem qq_or19 {A : Nat → Nat} {ahead : Nat → Int32} {n N : Nat} (hn : n ≤ 9) (hN : nI 1 <<< (nI n &&& nI 31) = nI N) (hN2 : N ≤ 512) (hA : ∀ i, i < n → ahead i = nI (A i)) :
    ∀ t S fuel (orders : Nat → Int32), S + t = N → t < fuel → 0 < S → (∀ S1, S1 < S → orders S1 = nI (qq_od A n (qq_pc S1) S1)) → ∃ o1, f_Thoughts_ordersByRight_L19 ahead (nI n) fuel orders (nI S) = some o1 ∧ ∀ S1, S1 < N → o1 S1 = nI (qq_od A n (qq_pc S1) S1) := by
  intro t
  induction t with
  | zero =>
    intro S fuel orders h hf h0 hO
    obtain ⟨f, rfl⟩ : ∃ f, fuel = f + 1 := ⟨fuel - 1, by omega⟩
    obtain rfl : S = N := by omega
    refine ⟨orders, ?_, hO⟩
    rw [f_Thoughts_ordersByRight_L19]; simp (disch := omega) only [hN, qq_b1, qq_b2, qq_b3, qq_b4, qq_b5, qq_b6, qq_b7, qq_b8, qq_b9, qq_b10, qq_b11, qq_b12, qq_b13, qq_b18, qq_b19, qq_s0l, qq_s0r, qq_s1l, qq_s1r, qq_s2l, qq_s2r, qq_s3l, qq_s3r, qq_s6l, qq_s6r, qq_s7l, qq_s7r, qq_bt, qq_bf, qq_l70, qq_l24, qq_l23, qq_l22, qq_l21, qq_l19, qq_l18, qq_l17, qq_l16, qq_l25, qq_l32, qq_l33, qq_l34, qq_l35, qq_l44, qq_l46, qq_l108, qq_l0, qq_l1, qq_l2, qq_l3, qq_l4, qq_l5, qq_l6, qq_l7, qq_l8, qq_l9, qq_l10, qq_l11, qq_l12, qq_l13, qq_l14, qq_l15, qq_l20, qq_l30, qq_l31, qq_l36, qq_l37, qq_l38, qq_l39, qq_l40, qq_l41, qq_l42, qq_l43, qq_l45, qq_l47, qq_l48, qq_l49, qq_l50, qq_l57, qq_l58, qq_l59, qq_l60, qq_l61, qq_l62, qq_l63, qq_l80, qq_l81, qq_l97, qq_l98, qq_l99, qq_l100, qq_l103, qq_l112, qq_l113, qq_l119, qq_l120, qq_l121, qq_l124, qq_l126, qq_l128, qq_l255, qq_l360, qq_l512, qq_l729, qq_zg, qq_zs, qq_zsJ, qq_zgT, qq_ltT, qq_ltF, qq_leT, qq_leF, qq_eqT, qq_eqF, qq_nltT, qq_ltnF, qq_nltnT, qq_nltnF, qq_nleT, qq_lenF, qq_nlenT, qq_nlenF, qq_eqnF, qq_neqF, qq_neqnF, qq_neqnT, nI_add, qq_subT, qq_subF, qq_addnT, qq_addnF, qq_naddT, qq_naddF, pk_mul, qq_and, qq_or, if_true, if_false, not_true, not_false_iff, qq_upd, qq_updE, qq_updN, reduceIte, eq_self, ne_eq, true_and, and_true, Nat.add_zero, Nat.zero_add, Nat.add_sub_cancel]
  | succ t ih =>
    intro S fuel orders h hf h0 hO
    obtain ⟨f, rfl⟩ : ∃ f, fuel = f + 1 := ⟨fuel - 1, by omega⟩
    have hp := qq_pc_pos S (by omega) h0
    obtain ⟨c, hc⟩ : ∃ c, qq_pc S = c + 1 := ⟨qq_pc S - 1, by omega⟩
    have e1 := qq_or32 hn hA (S := S) (by omega) hc hO n 0 FU (by omega) (by rw [qq_FU]; omega)
    rw [show qq_sum (fun k => if qq_may A S k = true then qq_od A n c (qq_rmv S k) else 0) 0 = 0 from rfl] at e1
    obtain ⟨o1, e2, h1⟩ := ih (S + 1) f (upd orders S (nI (qq_od A n (c + 1) S))) (by omega) (by omega) (by omega) (fun S1 hS1 => by
      unfold upd
      by_cases e : S1 = S
      · rw [if_pos e, e, hc]
      · rw [if_neg e]; exact hO S1 (by omega))
    refine ⟨o1, ?_, h1⟩
    rw [f_Thoughts_ordersByRight_L19]; simp (disch := omega) only [hN, e1, qq_b1, qq_b2, qq_b3, qq_b4, qq_b5, qq_b6, qq_b7, qq_b8, qq_b9, qq_b10, qq_b11, qq_b12, qq_b13, qq_b18, qq_b19, qq_s0l, qq_s0r, qq_s1l, qq_s1r, qq_s2l, qq_s2r, qq_s3l, qq_s3r, qq_s6l, qq_s6r, qq_s7l, qq_s7r, qq_bt, qq_bf, qq_l70, qq_l24, qq_l23, qq_l22, qq_l21, qq_l19, qq_l18, qq_l17, qq_l16, qq_l25, qq_l32, qq_l33, qq_l34, qq_l35, qq_l44, qq_l46, qq_l108, qq_l0, qq_l1, qq_l2, qq_l3, qq_l4, qq_l5, qq_l6, qq_l7, qq_l8, qq_l9, qq_l10, qq_l11, qq_l12, qq_l13, qq_l14, qq_l15, qq_l20, qq_l30, qq_l31, qq_l36, qq_l37, qq_l38, qq_l39, qq_l40, qq_l41, qq_l42, qq_l43, qq_l45, qq_l47, qq_l48, qq_l49, qq_l50, qq_l57, qq_l58, qq_l59, qq_l60, qq_l61, qq_l62, qq_l63, qq_l80, qq_l81, qq_l97, qq_l98, qq_l99, qq_l100, qq_l103, qq_l112, qq_l113, qq_l119, qq_l120, qq_l121, qq_l124, qq_l126, qq_l128, qq_l255, qq_l360, qq_l512, qq_l729, qq_zg, qq_zs, qq_zsJ, qq_zgT, qq_ltT, qq_ltF, qq_leT, qq_leF, qq_eqT, qq_eqF, qq_nltT, qq_ltnF, qq_nltnT, qq_nltnF, qq_nleT, qq_lenF, qq_nlenT, qq_nlenF, qq_eqnF, qq_neqF, qq_neqnF, qq_neqnT, nI_add, qq_subT, qq_subF, qq_addnT, qq_addnF, qq_naddT, qq_naddF, pk_mul, qq_and, qq_or, if_true, if_false, not_true, not_false_iff, qq_upd, qq_updE, qq_updN, reduceIte, eq_self, ne_eq, true_and, and_true, Nat.add_zero, Nat.zero_add, Nat.add_sub_cancel]; exact e2
set_option maxRecDepth 100000 in
set_option maxHeartbeats 4000000 in
theorem qq_ordersByRight {A : Nat → Nat} {ahead : Nat → Int32} {n : Nat} (hn : n ≤ 9) (hA : ∀ i, i < n → ahead i = nI (A i)) (orders : Nat → Int32) : ∃ o1, f_Thoughts_ordersByRight ahead orders (nI n) = some (nI (qq_od A n (qq_pc (qq_ms (fun _ => true) (fun j => j) n)) (qq_ms (fun _ => true) (fun j => j) n)), o1) := by
  obtain ⟨h1, h2, h3⟩ := qq_all n hn
  have hp : (2 : Nat) ^ n ≤ 512 := Nat.le_trans (Nat.pow_le_pow_right (by omega) hn) (by decide)
  have hp0 : 0 < (2 : Nat) ^ n := Nat.pow_pos (by omega)
  rw [h3]
  generalize (2 : Nat) ^ n = N at h2 hp hp0
  obtain ⟨o1, e1, hO⟩ := qq_or19 hn h2 hp hA (N - 1) 1 FU (upd orders 0 (nI 1)) (by omega) (by rw [qq_FU]; omega) (by omega) (fun S1 hS1 => by
    have e : S1 = 0 := by omega
    subst e
    unfold upd
    rw [if_pos rfl, show qq_pc 0 = 0 by decide +kernel]
    rfl)
  refine ⟨o1, ?_⟩
  unfold f_Thoughts_ordersByRight f_Line_size
  simp (disch := omega) only [e1, h2, hO (N - 1) (by omega), qq_b1, qq_b2, qq_b3, qq_b4, qq_b5, qq_b6, qq_b7, qq_b8, qq_b9, qq_b10, qq_b11, qq_b12, qq_b13, qq_b18, qq_b19, qq_s0l, qq_s0r, qq_s1l, qq_s1r, qq_s2l, qq_s2r, qq_s3l, qq_s3r, qq_s6l, qq_s6r, qq_s7l, qq_s7r, qq_bt, qq_bf, qq_l70, qq_l24, qq_l23, qq_l22, qq_l21, qq_l19, qq_l18, qq_l17, qq_l16, qq_l25, qq_l32, qq_l33, qq_l34, qq_l35, qq_l44, qq_l46, qq_l108, qq_l0, qq_l1, qq_l2, qq_l3, qq_l4, qq_l5, qq_l6, qq_l7, qq_l8, qq_l9, qq_l10, qq_l11, qq_l12, qq_l13, qq_l14, qq_l15, qq_l20, qq_l30, qq_l31, qq_l36, qq_l37, qq_l38, qq_l39, qq_l40, qq_l41, qq_l42, qq_l43, qq_l45, qq_l47, qq_l48, qq_l49, qq_l50, qq_l57, qq_l58, qq_l59, qq_l60, qq_l61, qq_l62, qq_l63, qq_l80, qq_l81, qq_l97, qq_l98, qq_l99, qq_l100, qq_l103, qq_l112, qq_l113, qq_l119, qq_l120, qq_l121, qq_l124, qq_l126, qq_l128, qq_l255, qq_l360, qq_l512, qq_l729, qq_zg, qq_zs, qq_zsJ, qq_zgT, qq_ltT, qq_ltF, qq_leT, qq_leF, qq_eqT, qq_eqF, qq_nltT, qq_ltnF, qq_nltnT, qq_nltnF, qq_nleT, qq_lenF, qq_nlenT, qq_nlenF, qq_eqnF, qq_neqF, qq_neqnF, qq_neqnT, nI_add, qq_subT, qq_subF, qq_addnT, qq_addnF, qq_naddT, qq_naddF, pk_mul, qq_and, qq_or, if_true, if_false, not_true, not_false_iff, qq_upd, qq_updE, qq_updN, reduceIte, eq_self, ne_eq, true_and, and_true, Nat.add_zero, Nat.zero_add, Nat.add_sub_cancel]
set_option maxRecDepth 100000 in
set_option maxHeartbeats 4000000 in
theorem qq_mayBeNext {A : Nat → Nat} {ahead : Nat → Int32} {n : Nat} (hn : n ≤ 9) (hA : ∀ i, i < n → ahead i = nI (A i)) {S k : Nat} (hS : S < 512) (hk : k < n) : f_Thoughts_mayBeNext ahead (nI k) (nI S) = some (qq_t (qq_may A S k)) := by
  unfold f_Thoughts_mayBeNext qq_may
  cases hb : S.testBit k with
  | false =>
    have h1 : ((nI S >>> (nI k &&& nI 31)) &&& nI 1 = nI 1) = False := eq_false (fun h => by
      have := (qq_bit7 S hS k (by omega)).2.mp h
      rw [hb] at this; cases this)
    simp (disch := omega) only [h1, Bool.false_and, qq_b1, qq_b2, qq_b3, qq_b4, qq_b5, qq_b6, qq_b7, qq_b8, qq_b9, qq_b10, qq_b11, qq_b12, qq_b13, qq_b18, qq_b19, qq_s0l, qq_s0r, qq_s1l, qq_s1r, qq_s2l, qq_s2r, qq_s3l, qq_s3r, qq_s6l, qq_s6r, qq_s7l, qq_s7r, qq_bt, qq_bf, qq_l70, qq_l24, qq_l23, qq_l22, qq_l21, qq_l19, qq_l18, qq_l17, qq_l16, qq_l25, qq_l32, qq_l33, qq_l34, qq_l35, qq_l44, qq_l46, qq_l108, qq_l0, qq_l1, qq_l2, qq_l3, qq_l4, qq_l5, qq_l6, qq_l7, qq_l8, qq_l9, qq_l10, qq_l11, qq_l12, qq_l13, qq_l14, qq_l15, qq_l20, qq_l30, qq_l31, qq_l36, qq_l37, qq_l38, qq_l39, qq_l40, qq_l41, qq_l42, qq_l43, qq_l45, qq_l47, qq_l48, qq_l49, qq_l50, qq_l57, qq_l58, qq_l59, qq_l60, qq_l61, qq_l62, qq_l63, qq_l80, qq_l81, qq_l97, qq_l98, qq_l99, qq_l100, qq_l103, qq_l112, qq_l113, qq_l119, qq_l120, qq_l121, qq_l124, qq_l126, qq_l128, qq_l255, qq_l360, qq_l512, qq_l729, qq_zg, qq_zs, qq_zsJ, qq_zgT, qq_ltT, qq_ltF, qq_leT, qq_leF, qq_eqT, qq_eqF, qq_nltT, qq_ltnF, qq_nltnT, qq_nltnF, qq_nleT, qq_lenF, qq_nlenT, qq_nlenF, qq_eqnF, qq_neqF, qq_neqnF, qq_neqnT, nI_add, qq_subT, qq_subF, qq_addnT, qq_addnF, qq_naddT, qq_naddF, pk_mul, qq_and, qq_or, if_true, if_false, not_true, not_false_iff, qq_upd, qq_updE, qq_updN, reduceIte, eq_self, ne_eq, true_and, and_true, Nat.add_zero, Nat.zero_add, Nat.add_sub_cancel]
    all_goals rfl
  | true =>
    have h1 : ((nI S >>> (nI k &&& nI 31)) &&& nI 1 = nI 1) = True := eq_true ((qq_bit7 S hS k (by omega)).2.mpr hb)
    by_cases h3 : A k &&& S = 0
    · have h4 : (nI (A k) &&& nI S = nI 0) = True := by rw [qq_nand0 hS]; exact eq_true h3
      rw [decide_eq_true h3]
      simp (disch := omega) only [h1, hA k hk, h4, qq_b1, qq_b2, qq_b3, qq_b4, qq_b5, qq_b6, qq_b7, qq_b8, qq_b9, qq_b10, qq_b11, qq_b12, qq_b13, qq_b18, qq_b19, qq_s0l, qq_s0r, qq_s1l, qq_s1r, qq_s2l, qq_s2r, qq_s3l, qq_s3r, qq_s6l, qq_s6r, qq_s7l, qq_s7r, qq_bt, qq_bf, qq_l70, qq_l24, qq_l23, qq_l22, qq_l21, qq_l19, qq_l18, qq_l17, qq_l16, qq_l25, qq_l32, qq_l33, qq_l34, qq_l35, qq_l44, qq_l46, qq_l108, qq_l0, qq_l1, qq_l2, qq_l3, qq_l4, qq_l5, qq_l6, qq_l7, qq_l8, qq_l9, qq_l10, qq_l11, qq_l12, qq_l13, qq_l14, qq_l15, qq_l20, qq_l30, qq_l31, qq_l36, qq_l37, qq_l38, qq_l39, qq_l40, qq_l41, qq_l42, qq_l43, qq_l45, qq_l47, qq_l48, qq_l49, qq_l50, qq_l57, qq_l58, qq_l59, qq_l60, qq_l61, qq_l62, qq_l63, qq_l80, qq_l81, qq_l97, qq_l98, qq_l99, qq_l100, qq_l103, qq_l112, qq_l113, qq_l119, qq_l120, qq_l121, qq_l124, qq_l126, qq_l128, qq_l255, qq_l360, qq_l512, qq_l729, qq_zg, qq_zs, qq_zsJ, qq_zgT, qq_ltT, qq_ltF, qq_leT, qq_leF, qq_eqT, qq_eqF, qq_nltT, qq_ltnF, qq_nltnT, qq_nltnF, qq_nleT, qq_lenF, qq_nlenT, qq_nlenF, qq_eqnF, qq_neqF, qq_neqnF, qq_neqnT, nI_add, qq_subT, qq_subF, qq_addnT, qq_addnF, qq_naddT, qq_naddF, pk_mul, qq_and, qq_or, if_true, if_false, not_true, not_false_iff, qq_upd, qq_updE, qq_updN, reduceIte, eq_self, ne_eq, true_and, and_true, Nat.add_zero, Nat.zero_add, Nat.add_sub_cancel]
      all_goals rfl
    · have h4 : (nI (A k) &&& nI S = nI 0) = False := by rw [qq_nand0 hS]; exact eq_false h3
      rw [decide_eq_false h3]
      simp (disch := omega) only [h1, hA k hk, h4, qq_b1, qq_b2, qq_b3, qq_b4, qq_b5, qq_b6, qq_b7, qq_b8, qq_b9, qq_b10, qq_b11, qq_b12, qq_b13, qq_b18, qq_b19, qq_s0l, qq_s0r, qq_s1l, qq_s1r, qq_s2l, qq_s2r, qq_s3l, qq_s3r, qq_s6l, qq_s6r, qq_s7l, qq_s7r, qq_bt, qq_bf, qq_l70, qq_l24, qq_l23, qq_l22, qq_l21, qq_l19, qq_l18, qq_l17, qq_l16, qq_l25, qq_l32, qq_l33, qq_l34, qq_l35, qq_l44, qq_l46, qq_l108, qq_l0, qq_l1, qq_l2, qq_l3, qq_l4, qq_l5, qq_l6, qq_l7, qq_l8, qq_l9, qq_l10, qq_l11, qq_l12, qq_l13, qq_l14, qq_l15, qq_l20, qq_l30, qq_l31, qq_l36, qq_l37, qq_l38, qq_l39, qq_l40, qq_l41, qq_l42, qq_l43, qq_l45, qq_l47, qq_l48, qq_l49, qq_l50, qq_l57, qq_l58, qq_l59, qq_l60, qq_l61, qq_l62, qq_l63, qq_l80, qq_l81, qq_l97, qq_l98, qq_l99, qq_l100, qq_l103, qq_l112, qq_l113, qq_l119, qq_l120, qq_l121, qq_l124, qq_l126, qq_l128, qq_l255, qq_l360, qq_l512, qq_l729, qq_zg, qq_zs, qq_zsJ, qq_zgT, qq_ltT, qq_ltF, qq_leT, qq_leF, qq_eqT, qq_eqF, qq_nltT, qq_ltnF, qq_nltnT, qq_nltnF, qq_nleT, qq_lenF, qq_nlenT, qq_nlenF, qq_eqnF, qq_neqF, qq_neqnF, qq_neqnT, nI_add, qq_subT, qq_subF, qq_addnT, qq_addnF, qq_naddT, qq_naddF, pk_mul, qq_and, qq_or, if_true, if_false, not_true, not_false_iff, qq_upd, qq_updE, qq_updN, reduceIte, eq_self, ne_eq, true_and, and_true, Nat.add_zero, Nat.zero_add, Nat.add_sub_cancel]
      all_goals rfl
set_option maxRecDepth 100000 in
set_option maxHeartbeats 4000000 in
theorem qq_nbL {A q : Nat → Nat} {ahead who : Nat → Int32} {n P : Nat} (hn : n ≤ 9) (hA : ∀ i, i < n → ahead i = nI (A i)) (hL : qq_Ln who q n) (hV : qq_Vl q n P) (hP : P ≤ 9) {S b : Nat} (hS : S < 512) (hb : b < n) (hm : qq_may A S b = true) (hmin : ∀ j, j < n → qq_may A S j = true → q b ≤ q j) :
    ∀ t k fuel x, k + t = n → t < fuel → ((b < k ∧ x = nI b) ∨ (k ≤ b ∧ (x = -nI 2 ∨ ∃ j, j < k ∧ x = nI j ∧ qq_may A S j = true))) → f_Thoughts_nextByRight_L6 ahead (nI n) who (nI S) fuel x (nI k) = some (nI b) := by
  intro t
  induction t with
  | zero =>
    intro k fuel x h hf hx
    obtain ⟨f, rfl⟩ : ∃ f, fuel = f + 1 := ⟨fuel - 1, by omega⟩
    obtain rfl : k = n := by omega
    rw [f_Thoughts_nextByRight_L6]
    unfold f_Line_size
    rcases hx with ⟨h1, rfl⟩ | ⟨h1, h2⟩
    · simp (disch := omega) only [qq_b1, qq_b2, qq_b3, qq_b4, qq_b5, qq_b6, qq_b7, qq_b8, qq_b9, qq_b10, qq_b11, qq_b12, qq_b13, qq_b18, qq_b19, qq_s0l, qq_s0r, qq_s1l, qq_s1r, qq_s2l, qq_s2r, qq_s3l, qq_s3r, qq_s6l, qq_s6r, qq_s7l, qq_s7r, qq_bt, qq_bf, qq_l70, qq_l24, qq_l23, qq_l22, qq_l21, qq_l19, qq_l18, qq_l17, qq_l16, qq_l25, qq_l32, qq_l33, qq_l34, qq_l35, qq_l44, qq_l46, qq_l108, qq_l0, qq_l1, qq_l2, qq_l3, qq_l4, qq_l5, qq_l6, qq_l7, qq_l8, qq_l9, qq_l10, qq_l11, qq_l12, qq_l13, qq_l14, qq_l15, qq_l20, qq_l30, qq_l31, qq_l36, qq_l37, qq_l38, qq_l39, qq_l40, qq_l41, qq_l42, qq_l43, qq_l45, qq_l47, qq_l48, qq_l49, qq_l50, qq_l57, qq_l58, qq_l59, qq_l60, qq_l61, qq_l62, qq_l63, qq_l80, qq_l81, qq_l97, qq_l98, qq_l99, qq_l100, qq_l103, qq_l112, qq_l113, qq_l119, qq_l120, qq_l121, qq_l124, qq_l126, qq_l128, qq_l255, qq_l360, qq_l512, qq_l729, qq_zg, qq_zs, qq_zsJ, qq_zgT, qq_ltT, qq_ltF, qq_leT, qq_leF, qq_eqT, qq_eqF, qq_nltT, qq_ltnF, qq_nltnT, qq_nltnF, qq_nleT, qq_lenF, qq_nlenT, qq_nlenF, qq_eqnF, qq_neqF, qq_neqnF, qq_neqnT, nI_add, qq_subT, qq_subF, qq_addnT, qq_addnF, qq_naddT, qq_naddF, pk_mul, qq_and, qq_or, if_true, if_false, not_true, not_false_iff, qq_upd, qq_updE, qq_updN, reduceIte, eq_self, ne_eq, true_and, and_true, Nat.add_zero, Nat.zero_add, Nat.add_sub_cancel]
    · omega
  | succ t ih =>
    intro k fuel x h hf hx
    obtain ⟨f, rfl⟩ : ∃ f, fuel = f + 1 := ⟨fuel - 1, by omega⟩
    have hk : k < n := by omega
    have e1 := qq_mayBeNext hn hA hS hk
    have vk := hV.1 k hk
    have vb := hV.1 b hb
    rw [f_Thoughts_nextByRight_L6]
    unfold f_Line_size
    cases hmk : qq_may A S k with
    | false =>
      rw [hmk] at e1
      have hne : k ≠ b := fun e => by rw [e, hm] at hmk; cases hmk
      have e2 := ih (k + 1) f x (by omega) (by omega) (by
        rcases hx with ⟨h1, h2⟩ | ⟨h1, h2⟩
        · exact Or.inl ⟨by omega, h2⟩
        · refine Or.inr ⟨by omega, ?_⟩
          rcases h2 with h2 | ⟨j, hj, h3, h4⟩
          · exact Or.inl h2
          · exact Or.inr ⟨j, by omega, h3, h4⟩)
      simp (disch := omega) only [e1, qq_b1, qq_b2, qq_b3, qq_b4, qq_b5, qq_b6, qq_b7, qq_b8, qq_b9, qq_b10, qq_b11, qq_b12, qq_b13, qq_b18, qq_b19, qq_s0l, qq_s0r, qq_s1l, qq_s1r, qq_s2l, qq_s2r, qq_s3l, qq_s3r, qq_s6l, qq_s6r, qq_s7l, qq_s7r, qq_bt, qq_bf, qq_l70, qq_l24, qq_l23, qq_l22, qq_l21, qq_l19, qq_l18, qq_l17, qq_l16, qq_l25, qq_l32, qq_l33, qq_l34, qq_l35, qq_l44, qq_l46, qq_l108, qq_l0, qq_l1, qq_l2, qq_l3, qq_l4, qq_l5, qq_l6, qq_l7, qq_l8, qq_l9, qq_l10, qq_l11, qq_l12, qq_l13, qq_l14, qq_l15, qq_l20, qq_l30, qq_l31, qq_l36, qq_l37, qq_l38, qq_l39, qq_l40, qq_l41, qq_l42, qq_l43, qq_l45, qq_l47, qq_l48, qq_l49, qq_l50, qq_l57, qq_l58, qq_l59, qq_l60, qq_l61, qq_l62, qq_l63, qq_l80, qq_l81, qq_l97, qq_l98, qq_l99, qq_l100, qq_l103, qq_l112, qq_l113, qq_l119, qq_l120, qq_l121, qq_l124, qq_l126, qq_l128, qq_l255, qq_l360, qq_l512, qq_l729, qq_zg, qq_zs, qq_zsJ, qq_zgT, qq_ltT, qq_ltF, qq_leT, qq_leF, qq_eqT, qq_eqF, qq_nltT, qq_ltnF, qq_nltnT, qq_nltnF, qq_nleT, qq_lenF, qq_nlenT, qq_nlenF, qq_eqnF, qq_neqF, qq_neqnF, qq_neqnT, nI_add, qq_subT, qq_subF, qq_addnT, qq_addnF, qq_naddT, qq_naddF, pk_mul, qq_and, qq_or, if_true, if_false, not_true, not_false_iff, qq_upd, qq_updE, qq_updN, reduceIte, eq_self, ne_eq, true_and, and_true, Nat.add_zero, Nat.zero_add, Nat.add_sub_cancel]
      exact e2
    | true =>
      rw [hmk] at e1
      have hle := hmin k hk hmk
      rcases hx with ⟨h1, rfl⟩ | ⟨h1, h2⟩
      · have e2 := ih (k + 1) f (nI b) (by omega) (by omega) (Or.inl ⟨by omega, rfl⟩)
        simp (disch := omega) only [e1, qq_at hL, qq_b1, qq_b2, qq_b3, qq_b4, qq_b5, qq_b6, qq_b7, qq_b8, qq_b9, qq_b10, qq_b11, qq_b12, qq_b13, qq_b18, qq_b19, qq_s0l, qq_s0r, qq_s1l, qq_s1r, qq_s2l, qq_s2r, qq_s3l, qq_s3r, qq_s6l, qq_s6r, qq_s7l, qq_s7r, qq_bt, qq_bf, qq_l70, qq_l24, qq_l23, qq_l22, qq_l21, qq_l19, qq_l18, qq_l17, qq_l16, qq_l25, qq_l32, qq_l33, qq_l34, qq_l35, qq_l44, qq_l46, qq_l108, qq_l0, qq_l1, qq_l2, qq_l3, qq_l4, qq_l5, qq_l6, qq_l7, qq_l8, qq_l9, qq_l10, qq_l11, qq_l12, qq_l13, qq_l14, qq_l15, qq_l20, qq_l30, qq_l31, qq_l36, qq_l37, qq_l38, qq_l39, qq_l40, qq_l41, qq_l42, qq_l43, qq_l45, qq_l47, qq_l48, qq_l49, qq_l50, qq_l57, qq_l58, qq_l59, qq_l60, qq_l61, qq_l62, qq_l63, qq_l80, qq_l81, qq_l97, qq_l98, qq_l99, qq_l100, qq_l103, qq_l112, qq_l113, qq_l119, qq_l120, qq_l121, qq_l124, qq_l126, qq_l128, qq_l255, qq_l360, qq_l512, qq_l729, qq_zg, qq_zs, qq_zsJ, qq_zgT, qq_ltT, qq_ltF, qq_leT, qq_leF, qq_eqT, qq_eqF, qq_nltT, qq_ltnF, qq_nltnT, qq_nltnF, qq_nleT, qq_lenF, qq_nlenT, qq_nlenF, qq_eqnF, qq_neqF, qq_neqnF, qq_neqnT, nI_add, qq_subT, qq_subF, qq_addnT, qq_addnF, qq_naddT, qq_naddF, pk_mul, qq_and, qq_or, if_true, if_false, not_true, not_false_iff, qq_upd, qq_updE, qq_updN, reduceIte, eq_self, ne_eq, true_and, and_true, Nat.add_zero, Nat.zero_add, Nat.add_sub_cancel]
        exact e2
      · by_cases e : k = b
        · subst e
          have e2 := ih (k + 1) f (nI k) (by omega) (by omega) (Or.inl ⟨by omega, rfl⟩)
          rcases h2 with rfl | ⟨j, hj, rfl, h4⟩
          · simp (disch := omega) only [e1, qq_b1, qq_b2, qq_b3, qq_b4, qq_b5, qq_b6, qq_b7, qq_b8, qq_b9, qq_b10, qq_b11, qq_b12, qq_b13, qq_b18, qq_b19, qq_s0l, qq_s0r, qq_s1l, qq_s1r, qq_s2l, qq_s2r, qq_s3l, qq_s3r, qq_s6l, qq_s6r, qq_s7l, qq_s7r, qq_bt, qq_bf, qq_l70, qq_l24, qq_l23, qq_l22, qq_l21, qq_l19, qq_l18, qq_l17, qq_l16, qq_l25, qq_l32, qq_l33, qq_l34, qq_l35, qq_l44, qq_l46, qq_l108, qq_l0, qq_l1, qq_l2, qq_l3, qq_l4, qq_l5, qq_l6, qq_l7, qq_l8, qq_l9, qq_l10, qq_l11, qq_l12, qq_l13, qq_l14, qq_l15, qq_l20, qq_l30, qq_l31, qq_l36, qq_l37, qq_l38, qq_l39, qq_l40, qq_l41, qq_l42, qq_l43, qq_l45, qq_l47, qq_l48, qq_l49, qq_l50, qq_l57, qq_l58, qq_l59, qq_l60, qq_l61, qq_l62, qq_l63, qq_l80, qq_l81, qq_l97, qq_l98, qq_l99, qq_l100, qq_l103, qq_l112, qq_l113, qq_l119, qq_l120, qq_l121, qq_l124, qq_l126, qq_l128, qq_l255, qq_l360, qq_l512, qq_l729, qq_zg, qq_zs, qq_zsJ, qq_zgT, qq_ltT, qq_ltF, qq_leT, qq_leF, qq_eqT, qq_eqF, qq_nltT, qq_ltnF, qq_nltnT, qq_nltnF, qq_nleT, qq_lenF, qq_nlenT, qq_nlenF, qq_eqnF, qq_neqF, qq_neqnF, qq_neqnT, nI_add, qq_subT, qq_subF, qq_addnT, qq_addnF, qq_naddT, qq_naddF, pk_mul, qq_and, qq_or, if_true, if_false, not_true, not_false_iff, qq_upd, qq_updE, qq_updN, reduceIte, eq_self, ne_eq, true_and, and_true, Nat.add_zero, Nat.zero_add, Nat.add_sub_cancel]
            exact e2
          · have h5 := hmin j (by omega) h4
            have h6 : q k ≠ q j := fun e => by have := hV.2 k j hk (by omega) e; omega
            have vj := hV.1 j (by omega)
            simp (disch := omega) only [e1, qq_at hL, qq_b1, qq_b2, qq_b3, qq_b4, qq_b5, qq_b6, qq_b7, qq_b8, qq_b9, qq_b10, qq_b11, qq_b12, qq_b13, qq_b18, qq_b19, qq_s0l, qq_s0r, qq_s1l, qq_s1r, qq_s2l, qq_s2r, qq_s3l, qq_s3r, qq_s6l, qq_s6r, qq_s7l, qq_s7r, qq_bt, qq_bf, qq_l70, qq_l24, qq_l23, qq_l22, qq_l21, qq_l19, qq_l18, qq_l17, qq_l16, qq_l25, qq_l32, qq_l33, qq_l34, qq_l35, qq_l44, qq_l46, qq_l108, qq_l0, qq_l1, qq_l2, qq_l3, qq_l4, qq_l5, qq_l6, qq_l7, qq_l8, qq_l9, qq_l10, qq_l11, qq_l12, qq_l13, qq_l14, qq_l15, qq_l20, qq_l30, qq_l31, qq_l36, qq_l37, qq_l38, qq_l39, qq_l40, qq_l41, qq_l42, qq_l43, qq_l45, qq_l47, qq_l48, qq_l49, qq_l50, qq_l57, qq_l58, qq_l59, qq_l60, qq_l61, qq_l62, qq_l63, qq_l80, qq_l81, qq_l97, qq_l98, qq_l99, qq_l100, qq_l103, qq_l112, qq_l113, qq_l119, qq_l120, qq_l121, qq_l124, qq_l126, qq_l128, qq_l255, qq_l360, qq_l512, qq_l729, qq_zg, qq_zs, qq_zsJ, qq_zgT, qq_ltT, qq_ltF, qq_leT, qq_leF, qq_eqT, qq_eqF, qq_nltT, qq_ltnF, qq_nltnT, qq_nltnF, qq_nleT, qq_lenF, qq_nlenT, qq_nlenF, qq_eqnF, qq_neqF, qq_neqnF, qq_neqnT, nI_add, qq_subT, qq_subF, qq_addnT, qq_addnF, qq_naddT, qq_naddF, pk_mul, qq_and, qq_or, if_true, if_false, not_true, not_false_iff, qq_upd, qq_updE, qq_updN, reduceIte, eq_self, ne_eq, true_and, and_true, Nat.add_zero, Nat.zero_add, Nat.add_sub_cancel]
            exact e2
        · rcases h2 with rfl | ⟨j, hj, rfl, h4⟩
          · have e2 := ih (k + 1) f (nI k) (by omega) (by omega) (Or.inr ⟨by omega, Or.inr ⟨k, by omega, rfl, hmk⟩⟩)
            simp (disch := omega) only [e1, qq_b1, qq_b2, qq_b3, qq_b4, qq_b5, qq_b6, qq_b7, qq_b8, qq_b9, qq_b10, qq_b11, qq_b12, qq_b13, qq_b18, qq_b19, qq_s0l, qq_s0r, qq_s1l, qq_s1r, qq_s2l, qq_s2r, qq_s3l, qq_s3r, qq_s6l, qq_s6r, qq_s7l, qq_s7r, qq_bt, qq_bf, qq_l70, qq_l24, qq_l23, qq_l22, qq_l21, qq_l19, qq_l18, qq_l17, qq_l16, qq_l25, qq_l32, qq_l33, qq_l34, qq_l35, qq_l44, qq_l46, qq_l108, qq_l0, qq_l1, qq_l2, qq_l3, qq_l4, qq_l5, qq_l6, qq_l7, qq_l8, qq_l9, qq_l10, qq_l11, qq_l12, qq_l13, qq_l14, qq_l15, qq_l20, qq_l30, qq_l31, qq_l36, qq_l37, qq_l38, qq_l39, qq_l40, qq_l41, qq_l42, qq_l43, qq_l45, qq_l47, qq_l48, qq_l49, qq_l50, qq_l57, qq_l58, qq_l59, qq_l60, qq_l61, qq_l62, qq_l63, qq_l80, qq_l81, qq_l97, qq_l98, qq_l99, qq_l100, qq_l103, qq_l112, qq_l113, qq_l119, qq_l120, qq_l121, qq_l124, qq_l126, qq_l128, qq_l255, qq_l360, qq_l512, qq_l729, qq_zg, qq_zs, qq_zsJ, qq_zgT, qq_ltT, qq_ltF, qq_leT, qq_leF, qq_eqT, qq_eqF, qq_nltT, qq_ltnF, qq_nltnT, qq_nltnF, qq_nleT, qq_lenF, qq_nlenT, qq_nlenF, qq_eqnF, qq_neqF, qq_neqnF, qq_neqnT, nI_add, qq_subT, qq_subF, qq_addnT, qq_addnF, qq_naddT, qq_naddF, pk_mul, qq_and, qq_or, if_true, if_false, not_true, not_false_iff, qq_upd, qq_updE, qq_updN, reduceIte, eq_self, ne_eq, true_and, and_true, Nat.add_zero, Nat.zero_add, Nat.add_sub_cancel]
            exact e2
          · have vj := hV.1 j (by omega)
            by_cases h7 : q j ≤ q k
            · have e2 := ih (k + 1) f (nI j) (by omega) (by omega) (Or.inr ⟨by omega, Or.inr ⟨j, by omega, rfl, h4⟩⟩)
              simp (disch := omega) only [e1, qq_at hL, qq_b1, qq_b2, qq_b3, qq_b4, qq_b5, qq_b6, qq_b7, qq_b8, qq_b9, qq_b10, qq_b11, qq_b12, qq_b13, qq_b18, qq_b19, qq_s0l, qq_s0r, qq_s1l, qq_s1r, qq_s2l, qq_s2r, qq_s3l, qq_s3r, qq_s6l, qq_s6r, qq_s7l, qq_s7r, qq_bt, qq_bf, qq_l70, qq_l24, qq_l23, qq_l22, qq_l21, qq_l19, qq_l18, qq_l17, qq_l16, qq_l25, qq_l32, qq_l33, qq_l34, qq_l35, qq_l44, qq_l46, qq_l108, qq_l0, qq_l1, qq_l2, qq_l3, qq_l4, qq_l5, qq_l6, qq_l7, qq_l8, qq_l9, qq_l10, qq_l11, qq_l12, qq_l13, qq_l14, qq_l15, qq_l20, qq_l30, qq_l31, qq_l36, qq_l37, qq_l38, qq_l39, qq_l40, qq_l41, qq_l42, qq_l43, qq_l45, qq_l47, qq_l48, qq_l49, qq_l50, qq_l57, qq_l58, qq_l59, qq_l60, qq_l61, qq_l62, qq_l63, qq_l80, qq_l81, qq_l97, qq_l98, qq_l99, qq_l100, qq_l103, qq_l112, qq_l113, qq_l119, qq_l120, qq_l121, qq_l124, qq_l126, qq_l128, qq_l255, qq_l360, qq_l512, qq_l729, qq_zg, qq_zs, qq_zsJ, qq_zgT, qq_ltT, qq_ltF, qq_leT, qq_leF, qq_eqT, qq_eqF, qq_nltT, qq_ltnF, qq_nltnT, qq_nltnF, qq_nleT, qq_lenF, qq_nlenT, qq_nlenF, qq_eqnF, qq_neqF, qq_neqnF, qq_neqnT, nI_add, qq_subT, qq_subF, qq_addnT, qq_addnF, qq_naddT, qq_naddF, pk_mul, qq_and, qq_or, if_true, if_false, not_true, not_false_iff, qq_upd, qq_updE, qq_updN, reduceIte, eq_self, ne_eq, true_and, and_true, Nat.add_zero, Nat.zero_add, Nat.add_sub_cancel]
              exact e2
            · have e2 := ih (k + 1) f (nI k) (by omega) (by omega) (Or.inr ⟨by omega, Or.inr ⟨k, by omega, rfl, hmk⟩⟩)
              simp (disch := omega) only [e1, qq_at hL, qq_b1, qq_b2, qq_b3, qq_b4, qq_b5, qq_b6, qq_b7, qq_b8, qq_b9, qq_b10, qq_b11, qq_b12, qq_b13, qq_b18, qq_b19, qq_s0l, qq_s0r, qq_s1l, qq_s1r, qq_s2l, qq_s2r, qq_s3l, qq_s3r, qq_s6l, qq_s6r, qq_s7l, qq_s7r, qq_bt, qq_bf, qq_l70, qq_l24, qq_l23, qq_l22, qq_l21, qq_l19, qq_l18, qq_l17, qq_l16, qq_l25, qq_l32, qq_l33, qq_l34, qq_l35, qq_l44, qq_l46, qq_l108, qq_l0, qq_l1, qq_l2, qq_l3, qq_l4, qq_l5, qq_l6, qq_l7, qq_l8, qq_l9, qq_l10, qq_l11, qq_l12, qq_l13, qq_l14, qq_l15, qq_l20, qq_l30, qq_l31, qq_l36, qq_l37, qq_l38, qq_l39, qq_l40, qq_l41, qq_l42, qq_l43, qq_l45, qq_l47, qq_l48, qq_l49, qq_l50, qq_l57, qq_l58, qq_l59, qq_l60, qq_l61, qq_l62, qq_l63, qq_l80, qq_l81, qq_l97, qq_l98, qq_l99, qq_l100, qq_l103, qq_l112, qq_l113, qq_l119, qq_l120, qq_l121, qq_l124, qq_l126, qq_l128, qq_l255, qq_l360, qq_l512, qq_l729, qq_zg, qq_zs, qq_zsJ, qq_zgT, qq_ltT, qq_ltF, qq_leT, qq_leF, qq_eqT, qq_eqF, qq_nltT, qq_ltnF, qq_nltnT, qq_nltnF, qq_nleT, qq_lenF, qq_nlenT, qq_nlenF, qq_eqnF, qq_neqF, qq_neqnF, qq_neqnT, nI_add, qq_subT, qq_subF, qq_addnT, qq_addnF, qq_naddT, qq_naddF, pk_mul, qq_and, qq_or, if_true, if_false, not_true, not_false_iff, qq_upd, qq_updE, qq_updN, reduceIte, eq_self, ne_eq, true_and, and_true, Nat.add_zero, Nat.zero_add, Nat.add_sub_cancel]
              exact e2
theorem qq_nextByRight {A q : Nat → Nat} {ahead who : Nat → Int32} {n P : Nat} (hn : n ≤ 9) (hA : ∀ i, i < n → ahead i = nI (A i)) (hL : qq_Ln who q n) (hV : qq_Vl q n P) (hP : P ≤ 9) {S b : Nat} (hS : S < 512) (hb : b < n) (hm : qq_may A S b = true) (hmin : ∀ j, j < n → qq_may A S j = true → q b ≤ q j) : f_Thoughts_nextByRight ahead (nI n) who (nI S) = some (nI b) := by
  have e := qq_nbL hn hA hL hV hP hS hb hm hmin n 0 FU (-nI 2) (by omega) (by rw [qq_FU]; omega) (Or.inr ⟨by omega, Or.inl rfl⟩)
  unfold f_Thoughts_nextByRight
  simp (disch := omega) only [e, qq_b1, qq_b2, qq_b3, qq_b4, qq_b5, qq_b6, qq_b7, qq_b8, qq_b9, qq_b10, qq_b11, qq_b12, qq_b13, qq_b18, qq_b19, qq_s0l, qq_s0r, qq_s1l, qq_s1r, qq_s2l, qq_s2r, qq_s3l, qq_s3r, qq_s6l, qq_s6r, qq_s7l, qq_s7r, qq_bt, qq_bf, qq_l70, qq_l24, qq_l23, qq_l22, qq_l21, qq_l19, qq_l18, qq_l17, qq_l16, qq_l25, qq_l32, qq_l33, qq_l34, qq_l35, qq_l44, qq_l46, qq_l108, qq_l0, qq_l1, qq_l2, qq_l3, qq_l4, qq_l5, qq_l6, qq_l7, qq_l8, qq_l9, qq_l10, qq_l11, qq_l12, qq_l13, qq_l14, qq_l15, qq_l20, qq_l30, qq_l31, qq_l36, qq_l37, qq_l38, qq_l39, qq_l40, qq_l41, qq_l42, qq_l43, qq_l45, qq_l47, qq_l48, qq_l49, qq_l50, qq_l57, qq_l58, qq_l59, qq_l60, qq_l61, qq_l62, qq_l63, qq_l80, qq_l81, qq_l97, qq_l98, qq_l99, qq_l100, qq_l103, qq_l112, qq_l113, qq_l119, qq_l120, qq_l121, qq_l124, qq_l126, qq_l128, qq_l255, qq_l360, qq_l512, qq_l729, qq_zg, qq_zs, qq_zsJ, qq_zgT, qq_ltT, qq_ltF, qq_leT, qq_leF, qq_eqT, qq_eqF, qq_nltT, qq_ltnF, qq_nltnT, qq_nltnF, qq_nleT, qq_lenF, qq_nlenT, qq_nlenF, qq_eqnF, qq_neqF, qq_neqnF, qq_neqnT, nI_add, qq_subT, qq_subF, qq_addnT, qq_addnF, qq_naddT, qq_naddF, pk_mul, qq_and, qq_or, if_true, if_false, not_true, not_false_iff, qq_upd, qq_updE, qq_updN, reduceIte, eq_self, ne_eq, true_and, and_true, Nat.add_zero, Nat.zero_add, Nat.add_sub_cancel]
theorem qq_argmin {p : Nat → Bool} {h : Nat → Nat} : ∀ m, (∃ k, k < m ∧ p k = true) → ∃ k, k < m ∧ p k = true ∧ ∀ j, j < m → p j = true → h k ≤ h j
  | 0, ⟨k, hk, _⟩ => absurd hk (Nat.not_lt_zero k)
  | m + 1, ⟨k, hk, hb⟩ => by
    by_cases h1 : ∃ k, k < m ∧ p k = true
    · obtain ⟨a, ha, hab, hmax⟩ := qq_argmin (p := p) (h := h) m h1
      by_cases h2 : p m = true ∧ h m < h a
      · refine ⟨m, by omega, h2.1, fun j hj hjb => ?_⟩
        rcases Nat.eq_or_lt_of_le (Nat.lt_succ_iff.mp hj) with e | e
        · subst e; exact Nat.le_refl _
        · have := hmax j e hjb; omega
      · refine ⟨a, by omega, hab, fun j hj hjb => ?_⟩
        rcases Nat.eq_or_lt_of_le (Nat.lt_succ_iff.mp hj) with e | e
        · subst e
          rcases Nat.lt_or_ge (h j) (h a) with h3 | h3
          · exact absurd ⟨hjb, h3⟩ h2
          · exact h3
        · exact hmax j e hjb
    · have e : k = m := by
        rcases Nat.eq_or_lt_of_le (Nat.lt_succ_iff.mp hk) with e | e
        · exact e
        · exact absurd ⟨k, e, hb⟩ h1
      subst e
      refine ⟨k, by omega, hb, fun j hj hjb => ?_⟩
      rcases Nat.eq_or_lt_of_le (Nat.lt_succ_iff.mp hj) with e | e
      · subst e; exact Nat.le_refl _
      · exact absurd ⟨j, e, hjb⟩ h1
