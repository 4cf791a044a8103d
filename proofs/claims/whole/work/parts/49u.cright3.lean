/-! LAYER (c): right, third part (by wip/whole/c/c.py) -/
theorem qq_bit8 : ∀ T, T < 512 → nI T ^^^ (-nI 1) = nI (4294967295 - T) ∧ ∀ i, i < 9 → (4294967295 - T).testBit i = !T.testBit i := by decide +kernel
theorem qq_subset {T T0 : Nat} (hT : T < 512) (hT0 : T0 < 512) : (nI T &&& (nI T0 ^^^ (-nI 1)) = nI 0) = (∀ i, T.testBit i = true → T0.testBit i = true) := by
  obtain ⟨h1, h2⟩ := qq_bit8 T0 hT0
  have hle : T &&& (4294967295 - T0) ≤ T := Nat.and_le_left
  have e : (T &&& (4294967295 - T0) = 0) = (∀ i, T.testBit i = true → T0.testBit i = true) := by
    rw [qq_and0]
    refine propext ⟨fun h i hi => ?_, fun h i hi => ?_⟩
    · have h3 := h i hi
      rw [h2 i (qq_lt9 hT hi)] at h3
      cases hb : T0.testBit i with
      | true => rfl
      | false => rw [hb] at h3; cases h3
    · rw [h2 i (qq_lt9 hT hi), h i hi]
      rfl
  rw [← e, h1, qq_nand]
  generalize T &&& (4294967295 - T0) = x at hle
  rw [qq_inj, qq_toI (by omega), qq_toI (by omega)]
  exact propext ⟨fun h => by omega, fun h => by omega⟩
/-- the person p may be next -/
def qq_mp (A : Nat → Nat) (q : Nat → Nat) (n S p : Nat) : Bool := decide (qq_pl q n p < n) && qq_may A S (qq_pl q n p)
theorem qq_RS_uni {q : Nat → Nat} {n S S1 T P : Nat} (h : qq_RS q n S T) (h1 : qq_RS q n S1 T) (hV : qq_Vl q n P) : S1 = S := by
  refine Nat.eq_of_testBit_eq fun i => ?_
  by_cases hi : i < n
  · rw [← qq_RS_in h hV hi, qq_RS_in h1 hV hi]
  · have e1 : S.testBit i = false := by
      cases hb : S.testBit i with
      | false => rfl
      | true => exact absurd (h.2.2.1 i hb) hi
    have e2 : S1.testBit i = false := by
      cases hb : S1.testBit i with
      | false => rfl
      | true => exact absurd (h1.2.2.1 i hb) hi
    rw [e1, e2]
theorem qq_RS_ex {q : Nat → Nat} {n T P : Nat} (hV : qq_Vl q n P) (hP : P ≤ 9) (hT : T < 512) (hs : ∀ i, T.testBit i = true → (qq_ms (fun _ => true) q n).testBit i = true) : ∃ S, qq_RS q n S T := by
  have hn := qq_nle hV hP
  refine ⟨qq_ms (fun k => T.testBit (q k)) (fun j => j) n, qq_ms512 (fun j hj => by show j < 9; omega), hT, fun i hi => ?_, fun p => ?_⟩
  · obtain ⟨j, hj, _, e⟩ := qq_ms_bit.mp hi
    have e : j = i := e
    omega
  · constructor
    · intro hp
      obtain ⟨j, hj, _, e⟩ := qq_ms_bit.mp (hs p hp)
      exact ⟨j, hj, qq_ms_bit.mpr ⟨j, hj, by rw [e]; exact hp, rfl⟩, e⟩
    · rintro ⟨j, hj, h1, h2⟩
      obtain ⟨i, hi, h3, e⟩ := qq_ms_bit.mp h1
      have e : i = j := e
      subst e
      rw [← h2]; exact h3
theorem qq_RS_sub {q : Nat → Nat} {n S T : Nat} (h : qq_RS q n S T) : ∀ i, T.testBit i = true → (qq_ms (fun _ => true) q n).testBit i = true := fun i hi => by
  obtain ⟨k, hk, _, e⟩ := (h.2.2.2 i).mp hi
  exact qq_ms_bit.mpr ⟨k, hk, rfl, e⟩
set_option maxRecDepth 100000 in
set_option maxHeartbeats 4000000 in
theorem qq_mayBe {g : Nat → Nat → Bool} {blocks : Nat → Int32} {q : Nat → Nat} {n P : Nat} (hV : qq_Vl q n P) (hP : P ≤ 9) (hB : ∀ i, i < n → blocks (q i) = nI (qq_ms (g i) q n)) {S T p : Nat} (h : qq_RS q n S T) (hp : p < 9) : f_M_mayBe blocks (nI T) (nI p) = some (qq_t (qq_mp (fun k => qq_ms (g k) (fun j => j) n) q n S p)) := by
  have e1 := qq_bit1 T h.2.1 p hp
  unfold f_M_mayBe qq_mp
  by_cases hm : qq_pl q n p < n
  · obtain ⟨k, hk, rfl⟩ : ∃ k, k < n ∧ p = q k := ⟨qq_pl q n p, hm, (qq_pl_is hm).symm⟩
    rw [qq_pl_eq hV hk, decide_eq_true hk, Bool.true_and]
    rw [qq_RS_in h hV hk] at e1
    unfold qq_may
    cases hb : S.testBit k with
    | false =>
      rw [hb] at e1
      simp (disch := omega) only [e1, Bool.false_and, qq_b1, qq_b2, qq_b3, qq_b4, qq_b5, qq_b6, qq_b7, qq_b8, qq_b9, qq_b10, qq_b11, qq_b12, qq_b13, qq_b18, qq_b19, qq_s0l, qq_s0r, qq_s1l, qq_s1r, qq_s2l, qq_s2r, qq_s3l, qq_s3r, qq_s6l, qq_s6r, qq_s7l, qq_s7r, qq_bt, qq_bf, qq_l70, qq_l24, qq_l23, qq_l22, qq_l21, qq_l19, qq_l18, qq_l17, qq_l16, qq_l25, qq_l32, qq_l33, qq_l34, qq_l35, qq_l44, qq_l46, qq_l108, qq_l0, qq_l1, qq_l2, qq_l3, qq_l4, qq_l5, qq_l6, qq_l7, qq_l8, qq_l9, qq_l10, qq_l11, qq_l12, qq_l13, qq_l14, qq_l15, qq_l20, qq_l30, qq_l31, qq_l36, qq_l37, qq_l38, qq_l39, qq_l40, qq_l41, qq_l42, qq_l43, qq_l45, qq_l47, qq_l48, qq_l49, qq_l50, qq_l57, qq_l58, qq_l59, qq_l60, qq_l61, qq_l62, qq_l63, qq_l80, qq_l81, qq_l97, qq_l98, qq_l99, qq_l100, qq_l103, qq_l112, qq_l113, qq_l119, qq_l120, qq_l121, qq_l124, qq_l126, qq_l128, qq_l255, qq_l360, qq_l512, qq_l729, qq_zg, qq_zs, qq_zsJ, qq_zgT, qq_ltT, qq_ltF, qq_leT, qq_leF, qq_eqT, qq_eqF, qq_nltT, qq_ltnF, qq_nltnT, qq_nltnF, qq_nleT, qq_lenF, qq_nlenT, qq_nlenF, qq_eqnF, qq_neqF, qq_neqnF, qq_neqnT, nI_add, qq_subT, qq_subF, qq_addnT, qq_addnF, qq_naddT, qq_naddF, pk_mul, qq_and, qq_or, if_true, if_false, not_true, not_false_iff, qq_upd, qq_updE, qq_updN, reduceIte, eq_self, ne_eq, true_and, and_true, Nat.add_zero, Nat.zero_add, Nat.add_sub_cancel]
      all_goals rfl
    | true =>
      rw [hb] at e1
      have h2 := qq_RS_and h hV (g k)
      by_cases h3 : qq_ms (g k) (fun j => j) n &&& S = 0
      · have h4 : (nI (qq_ms (g k) q n) &&& nI T = nI 0) = True := by rw [qq_nand0 h.2.1]; exact eq_true (h2.mpr h3)
        rw [decide_eq_true h3]
        simp (disch := omega) only [e1, hB k hk, h4, qq_b1, qq_b2, qq_b3, qq_b4, qq_b5, qq_b6, qq_b7, qq_b8, qq_b9, qq_b10, qq_b11, qq_b12, qq_b13, qq_b18, qq_b19, qq_s0l, qq_s0r, qq_s1l, qq_s1r, qq_s2l, qq_s2r, qq_s3l, qq_s3r, qq_s6l, qq_s6r, qq_s7l, qq_s7r, qq_bt, qq_bf, qq_l70, qq_l24, qq_l23, qq_l22, qq_l21, qq_l19, qq_l18, qq_l17, qq_l16, qq_l25, qq_l32, qq_l33, qq_l34, qq_l35, qq_l44, qq_l46, qq_l108, qq_l0, qq_l1, qq_l2, qq_l3, qq_l4, qq_l5, qq_l6, qq_l7, qq_l8, qq_l9, qq_l10, qq_l11, qq_l12, qq_l13, qq_l14, qq_l15, qq_l20, qq_l30, qq_l31, qq_l36, qq_l37, qq_l38, qq_l39, qq_l40, qq_l41, qq_l42, qq_l43, qq_l45, qq_l47, qq_l48, qq_l49, qq_l50, qq_l57, qq_l58, qq_l59, qq_l60, qq_l61, qq_l62, qq_l63, qq_l80, qq_l81, qq_l97, qq_l98, qq_l99, qq_l100, qq_l103, qq_l112, qq_l113, qq_l119, qq_l120, qq_l121, qq_l124, qq_l126, qq_l128, qq_l255, qq_l360, qq_l512, qq_l729, qq_zg, qq_zs, qq_zsJ, qq_zgT, qq_ltT, qq_ltF, qq_leT, qq_leF, qq_eqT, qq_eqF, qq_nltT, qq_ltnF, qq_nltnT, qq_nltnF, qq_nleT, qq_lenF, qq_nlenT, qq_nlenF, qq_eqnF, qq_neqF, qq_neqnF, qq_neqnT, nI_add, qq_subT, qq_subF, qq_addnT, qq_addnF, qq_naddT, qq_naddF, pk_mul, qq_and, qq_or, if_true, if_false, not_true, not_false_iff, qq_upd, qq_updE, qq_updN, reduceIte, eq_self, ne_eq, true_and, and_true, Nat.add_zero, Nat.zero_add, Nat.add_sub_cancel]
        all_goals rfl
      · have h4 : (nI (qq_ms (g k) q n) &&& nI T = nI 0) = False := by rw [qq_nand0 h.2.1]; exact eq_false (fun hh => h3 (h2.mp hh))
        rw [decide_eq_false h3]
        simp (disch := omega) only [e1, hB k hk, h4, qq_b1, qq_b2, qq_b3, qq_b4, qq_b5, qq_b6, qq_b7, qq_b8, qq_b9, qq_b10, qq_b11, qq_b12, qq_b13, qq_b18, qq_b19, qq_s0l, qq_s0r, qq_s1l, qq_s1r, qq_s2l, qq_s2r, qq_s3l, qq_s3r, qq_s6l, qq_s6r, qq_s7l, qq_s7r, qq_bt, qq_bf, qq_l70, qq_l24, qq_l23, qq_l22, qq_l21, qq_l19, qq_l18, qq_l17, qq_l16, qq_l25, qq_l32, qq_l33, qq_l34, qq_l35, qq_l44, qq_l46, qq_l108, qq_l0, qq_l1, qq_l2, qq_l3, qq_l4, qq_l5, qq_l6, qq_l7, qq_l8, qq_l9, qq_l10, qq_l11, qq_l12, qq_l13, qq_l14, qq_l15, qq_l20, qq_l30, qq_l31, qq_l36, qq_l37, qq_l38, qq_l39, qq_l40, qq_l41, qq_l42, qq_l43, qq_l45, qq_l47, qq_l48, qq_l49, qq_l50, qq_l57, qq_l58, qq_l59, qq_l60, qq_l61, qq_l62, qq_l63, qq_l80, qq_l81, qq_l97, qq_l98, qq_l99, qq_l100, qq_l103, qq_l112, qq_l113, qq_l119, qq_l120, qq_l121, qq_l124, qq_l126, qq_l128, qq_l255, qq_l360, qq_l512, qq_l729, qq_zg, qq_zs, qq_zsJ, qq_zgT, qq_ltT, qq_ltF, qq_leT, qq_leF, qq_eqT, qq_eqF, qq_nltT, qq_ltnF, qq_nltnT, qq_nltnF, qq_nleT, qq_lenF, qq_nlenT, qq_nlenF, qq_eqnF, qq_neqF, qq_neqnF, qq_neqnT, nI_add, qq_subT, qq_subF, qq_addnT, qq_addnF, qq_naddT, qq_naddF, pk_mul, qq_and, qq_or, if_true, if_false, not_true, not_false_iff, qq_upd, qq_updE, qq_updN, reduceIte, eq_self, ne_eq, true_and, and_true, Nat.add_zero, Nat.zero_add, Nat.add_sub_cancel]
        all_goals rfl
  · have hb : T.testBit p = false := by
      cases hb : T.testBit p with
      | false => rfl
      | true =>
        obtain ⟨k, hk, _, e⟩ := (h.2.2.2 p).mp hb
        exact absurd (by rw [← e, qq_pl_eq hV hk]; exact hk) hm
    rw [hb] at e1
    rw [decide_eq_false hm, Bool.false_and]
    simp (disch := omega) only [e1, qq_b1, qq_b2, qq_b3, qq_b4, qq_b5, qq_b6, qq_b7, qq_b8, qq_b9, qq_b10, qq_b11, qq_b12, qq_b13, qq_b18, qq_b19, qq_s0l, qq_s0r, qq_s1l, qq_s1r, qq_s2l, qq_s2r, qq_s3l, qq_s3r, qq_s6l, qq_s6r, qq_s7l, qq_s7r, qq_bt, qq_bf, qq_l70, qq_l24, qq_l23, qq_l22, qq_l21, qq_l19, qq_l18, qq_l17, qq_l16, qq_l25, qq_l32, qq_l33, qq_l34, qq_l35, qq_l44, qq_l46, qq_l108, qq_l0, qq_l1, qq_l2, qq_l3, qq_l4, qq_l5, qq_l6, qq_l7, qq_l8, qq_l9, qq_l10, qq_l11, qq_l12, qq_l13, qq_l14, qq_l15, qq_l20, qq_l30, qq_l31, qq_l36, qq_l37, qq_l38, qq_l39, qq_l40, qq_l41, qq_l42, qq_l43, qq_l45, qq_l47, qq_l48, qq_l49, qq_l50, qq_l57, qq_l58, qq_l59, qq_l60, qq_l61, qq_l62, qq_l63, qq_l80, qq_l81, qq_l97, qq_l98, qq_l99, qq_l100, qq_l103, qq_l112, qq_l113, qq_l119, qq_l120, qq_l121, qq_l124, qq_l126, qq_l128, qq_l255, qq_l360, qq_l512, qq_l729, qq_zg, qq_zs, qq_zsJ, qq_zgT, qq_ltT, qq_ltF, qq_leT, qq_leF, qq_eqT, qq_eqF, qq_nltT, qq_ltnF, qq_nltnT, qq_nltnF, qq_nleT, qq_lenF, qq_nlenT, qq_nlenF, qq_eqnF, qq_neqF, qq_neqnF, qq_neqnT, nI_add, qq_subT, qq_subF, qq_addnT, qq_addnF, qq_naddT, qq_naddF, pk_mul, qq_and, qq_or, if_true, if_false, not_true, not_false_iff, qq_upd, qq_updE, qq_updN, reduceIte, eq_self, ne_eq, true_and, and_true, Nat.add_zero, Nat.zero_add, Nat.add_sub_cancel]
    all_goals rfl
set_option maxRecDepth 100000 in
set_option maxHeartbeats 4000000 in
theorem qq_cr24 {g : Nat → Nat → Bool} {blocks : Nat → Int32} {q : Nat → Nat} {n P : Nat} (hV : qq_Vl q n P) (hP : P ≤ 9) (hB : ∀ i, i < n → blocks (q i) = nI (qq_ms (g i) q n)) {S T V c : Nat} (h : qq_RS q n S T) (hc : ∀ k, k < n → S.testBit k = true → qq_pc (qq_rmv S k) = c) :
    ∀ t p fuel (o : Nat → Int32), p + t = P → t < fuel → o T = nI (V + qq_sum (fun p => if qq_mp (fun k => qq_ms (g k) (fun j => j) n) q n S p = true then qq_od (fun k => qq_ms (g k) (fun j => j) n) n c (qq_rmv S (qq_pl q n p)) else 0) p) →
      (∀ T1 S1, T1 < T → qq_RS q n S1 T1 → o T1 = nI (qq_od (fun k => qq_ms (g k) (fun j => j) n) n (qq_pc S1) S1)) →
      ∃ o1, f_M_countsOrders_L24 (nI P) blocks (nI (qq_ms (fun _ => true) q n)) (nI T) fuel o (nI p) = some o1 ∧ o1 T = nI (V + qq_sum (fun p => if qq_mp (fun k => qq_ms (g k) (fun j => j) n) q n S p = true then qq_od (fun k => qq_ms (g k) (fun j => j) n) n c (qq_rmv S (qq_pl q n p)) else 0) P) ∧ ∀ i, i ≠ T → o1 i = o i := by
  have hn := qq_nle hV hP
  have hT0 := qq_ms512 (f := fun _ => true) (qq_V9 hV hP)
  have hsub : (nI T &&& (nI (qq_ms (fun _ => true) q n) ^^^ (-nI 1)) = nI 0) = True := by rw [qq_subset h.2.1 hT0]; exact eq_true (qq_RS_sub h)
  intro t
  induction t with
  | zero =>
    intro p fuel o h1 hf hA hO
    obtain ⟨f, rfl⟩ : ∃ f, fuel = f + 1 := ⟨fuel - 1, by omega⟩
    obtain rfl : p = P := by omega
    refine ⟨o, ?_, hA, fun _ _ => rfl⟩
    rw [f_M_countsOrders_L24]; simp (disch := omega) only [qq_b1, qq_b2, qq_b3, qq_b4, qq_b5, qq_b6, qq_b7, qq_b8, qq_b9, qq_b10, qq_b11, qq_b12, qq_b13, qq_b18, qq_b19, qq_s0l, qq_s0r, qq_s1l, qq_s1r, qq_s2l, qq_s2r, qq_s3l, qq_s3r, qq_s6l, qq_s6r, qq_s7l, qq_s7r, qq_bt, qq_bf, qq_l70, qq_l24, qq_l23, qq_l22, qq_l21, qq_l19, qq_l18, qq_l17, qq_l16, qq_l25, qq_l32, qq_l33, qq_l34, qq_l35, qq_l44, qq_l46, qq_l108, qq_l0, qq_l1, qq_l2, qq_l3, qq_l4, qq_l5, qq_l6, qq_l7, qq_l8, qq_l9, qq_l10, qq_l11, qq_l12, qq_l13, qq_l14, qq_l15, qq_l20, qq_l30, qq_l31, qq_l36, qq_l37, qq_l38, qq_l39, qq_l40, qq_l41, qq_l42, qq_l43, qq_l45, qq_l47, qq_l48, qq_l49, qq_l50, qq_l57, qq_l58, qq_l59, qq_l60, qq_l61, qq_l62, qq_l63, qq_l80, qq_l81, qq_l97, qq_l98, qq_l99, qq_l100, qq_l103, qq_l112, qq_l113, qq_l119, qq_l120, qq_l121, qq_l124, qq_l126, qq_l128, qq_l255, qq_l360, qq_l512, qq_l729, qq_zg, qq_zs, qq_zsJ, qq_zgT, qq_ltT, qq_ltF, qq_leT, qq_leF, qq_eqT, qq_eqF, qq_nltT, qq_ltnF, qq_nltnT, qq_nltnF, qq_nleT, qq_lenF, qq_nlenT, qq_nlenF, qq_eqnF, qq_neqF, qq_neqnF, qq_neqnT, nI_add, qq_subT, qq_subF, qq_addnT, qq_addnF, qq_naddT, qq_naddF, pk_mul, qq_and, qq_or, if_true, if_false, not_true, not_false_iff, qq_upd, qq_updE, qq_updN, reduceIte, eq_self, ne_eq, true_and, and_true, Nat.add_zero, Nat.zero_add, Nat.add_sub_cancel]
  | succ t ih =>
    intro p fuel o h1 hf hA hO
    obtain ⟨f, rfl⟩ : ∃ f, fuel = f + 1 := ⟨fuel - 1, by omega⟩
    have hp : p < P := by omega
    have hT := h.2.1
    have e1 := qq_mayBe hV hP hB h (p := p) (by omega)
    rw [f_M_countsOrders_L24]
    cases hm : qq_mp (fun k => qq_ms (g k) (fun j => j) n) q n S p with
    | false =>
      rw [hm] at e1
      obtain ⟨o1, e2, g1, g2⟩ := ih (p + 1) f (upd o T (o T)) (by omega) (by omega) (by
        unfold upd
        rw [if_pos rfl, hA, qq_sum, hm, if_neg (by decide), Nat.add_zero]) (fun T1 S1 hT1 hS1 => by
        unfold upd
        rw [if_neg (by omega)]
        exact hO T1 S1 hT1 hS1)
      refine ⟨o1, ?_, g1, fun i hi => by rw [g2 i hi]; unfold upd; rw [if_neg hi]⟩
      rw [hA] at e2
      simp (disch := omega) only [hsub, e1, hA, Nat.add_zero, qq_b1, qq_b2, qq_b3, qq_b4, qq_b5, qq_b6, qq_b7, qq_b8, qq_b9, qq_b10, qq_b11, qq_b12, qq_b13, qq_b18, qq_b19, qq_s0l, qq_s0r, qq_s1l, qq_s1r, qq_s2l, qq_s2r, qq_s3l, qq_s3r, qq_s6l, qq_s6r, qq_s7l, qq_s7r, qq_bt, qq_bf, qq_l70, qq_l24, qq_l23, qq_l22, qq_l21, qq_l19, qq_l18, qq_l17, qq_l16, qq_l25, qq_l32, qq_l33, qq_l34, qq_l35, qq_l44, qq_l46, qq_l108, qq_l0, qq_l1, qq_l2, qq_l3, qq_l4, qq_l5, qq_l6, qq_l7, qq_l8, qq_l9, qq_l10, qq_l11, qq_l12, qq_l13, qq_l14, qq_l15, qq_l20, qq_l30, qq_l31, qq_l36, qq_l37, qq_l38, qq_l39, qq_l40, qq_l41, qq_l42, qq_l43, qq_l45, qq_l47, qq_l48, qq_l49, qq_l50, qq_l57, qq_l58, qq_l59, qq_l60, qq_l61, qq_l62, qq_l63, qq_l80, qq_l81, qq_l97, qq_l98, qq_l99, qq_l100, qq_l103, qq_l112, qq_l113, qq_l119, qq_l120, qq_l121, qq_l124, qq_l126, qq_l128, qq_l255, qq_l360, qq_l512, qq_l729, qq_zg, qq_zs, qq_zsJ, qq_zgT, qq_ltT, qq_ltF, qq_leT, qq_leF, qq_eqT, qq_eqF, qq_nltT, qq_ltnF, qq_nltnT, qq_nltnF, qq_nleT, qq_lenF, qq_nlenT, qq_nlenF, qq_eqnF, qq_neqF, qq_neqnF, qq_neqnT, nI_add, qq_subT, qq_subF, qq_addnT, qq_addnF, qq_naddT, qq_naddF, pk_mul, qq_and, qq_or, if_true, if_false, not_true, not_false_iff, qq_upd, qq_updE, qq_updN, reduceIte, eq_self, ne_eq, true_and, and_true, Nat.add_zero, Nat.zero_add, Nat.add_sub_cancel]
      exact e2
    | true =>
      rw [hm] at e1
      have hm0 := hm
      unfold qq_mp qq_may at hm
      rw [Bool.and_eq_true, Bool.and_eq_true, decide_eq_true_eq] at hm
      have hk := hm.1
      have hq := qq_pl_is hk
      have hR2 := qq_RS_rmv h hV hP hk
      rw [hq] at hR2
      have hbT : T.testBit p = true := by
        have := qq_RS_in h hV hk
        rw [hq] at this
        rw [this]; exact hm.2.1
      have h6 := qq_bit6 T hT p (by omega) hbT
      have h5 := hO (qq_rmv T p) _ h6.2.1 hR2
      rw [hc _ hk hm.2.1] at h5
      obtain ⟨o1, e2, g1, g2⟩ := ih (p + 1) f (upd o T (nI (V + qq_sum (fun p => if qq_mp (fun k => qq_ms (g k) (fun j => j) n) q n S p = true then qq_od (fun k => qq_ms (g k) (fun j => j) n) n c (qq_rmv S (qq_pl q n p)) else 0) p + qq_od (fun k => qq_ms (g k) (fun j => j) n) n c (qq_rmv S (qq_pl q n p))))) (by omega) (by omega) (by
        unfold upd
        rw [if_pos rfl, qq_sum, hm0, if_pos rfl, Nat.add_assoc]) (fun T1 S1 hT1 hS1 => by
        unfold upd
        rw [if_neg (by omega)]
        exact hO T1 S1 hT1 hS1)
      refine ⟨o1, ?_, g1, fun i hi => by rw [g2 i hi]; unfold upd; rw [if_neg hi]⟩
      have h3 := qq_bit3 T hT p (by omega)
      simp (disch := omega) only [hsub, e1, hA, h3.1, h5, qq_b1, qq_b2, qq_b3, qq_b4, qq_b5, qq_b6, qq_b7, qq_b8, qq_b9, qq_b10, qq_b11, qq_b12, qq_b13, qq_b18, qq_b19, qq_s0l, qq_s0r, qq_s1l, qq_s1r, qq_s2l, qq_s2r, qq_s3l, qq_s3r, qq_s6l, qq_s6r, qq_s7l, qq_s7r, qq_bt, qq_bf, qq_l70, qq_l24, qq_l23, qq_l22, qq_l21, qq_l19, qq_l18, qq_l17, qq_l16, qq_l25, qq_l32, qq_l33, qq_l34, qq_l35, qq_l44, qq_l46, qq_l108, qq_l0, qq_l1, qq_l2, qq_l3, qq_l4, qq_l5, qq_l6, qq_l7, qq_l8, qq_l9, qq_l10, qq_l11, qq_l12, qq_l13, qq_l14, qq_l15, qq_l20, qq_l30, qq_l31, qq_l36, qq_l37, qq_l38, qq_l39, qq_l40, qq_l41, qq_l42, qq_l43, qq_l45, qq_l47, qq_l48, qq_l49, qq_l50, qq_l57, qq_l58, qq_l59, qq_l60, qq_l61, qq_l62, qq_l63, qq_l80, qq_l81, qq_l97, qq_l98, qq_l99, qq_l100, qq_l103, qq_l112, qq_l113, qq_l119, qq_l120, qq_l121, qq_l124, qq_l126, qq_l128, qq_l255, qq_l360, qq_l512, qq_l729, qq_zg, qq_zs, qq_zsJ, qq_zgT, qq_ltT, qq_ltF, qq_leT, qq_leF, qq_eqT, qq_eqF, qq_nltT, qq_ltnF, qq_nltnT, qq_nltnF, qq_nleT, qq_lenF, qq_nlenT, qq_nlenF, qq_eqnF, qq_neqF, qq_neqnF, qq_neqnT, nI_add, qq_subT, qq_subF, qq_addnT, qq_addnF, qq_naddT, qq_naddF, pk_mul, qq_and, qq_or, if_true, if_false, not_true, not_false_iff, qq_upd, qq_updE, qq_updN, reduceIte, eq_self, ne_eq, true_and, and_true, Nat.add_zero, Nat.zero_add, Nat.add_sub_cancel]
      exact e2
set_option maxRecDepth 100000 in
set_option maxHeartbeats 4000000 in
theorem qq_cr24n {blocks : Nat → Int32} {P T T0 : Nat} (hP : P ≤ 9) (hT : T < 512) (hT0 : T0 < 512) (h : ¬ ∀ i, T.testBit i = true → T0.testBit i = true) {fuel : Nat} (hf : 0 < fuel) (o : Nat → Int32) : f_M_countsOrders_L24 (nI P) blocks (nI T0) (nI T) fuel o (nI 0) = some o := by
  obtain ⟨f, rfl⟩ : ∃ f, fuel = f + 1 := ⟨fuel - 1, by omega⟩
  have hsub : (nI T &&& (nI T0 ^^^ (-nI 1)) = nI 0) = False := by rw [qq_subset hT hT0]; exact eq_false h
  rw [f_M_countsOrders_L24]
  rcases Nat.eq_zero_or_pos P with e | e
  · simp (disch := omega) only [qq_b1, qq_b2, qq_b3, qq_b4, qq_b5, qq_b6, qq_b7, qq_b8, qq_b9, qq_b10, qq_b11, qq_b12, qq_b13, qq_b18, qq_b19, qq_s0l, qq_s0r, qq_s1l, qq_s1r, qq_s2l, qq_s2r, qq_s3l, qq_s3r, qq_s6l, qq_s6r, qq_s7l, qq_s7r, qq_bt, qq_bf, qq_l70, qq_l24, qq_l23, qq_l22, qq_l21, qq_l19, qq_l18, qq_l17, qq_l16, qq_l25, qq_l32, qq_l33, qq_l34, qq_l35, qq_l44, qq_l46, qq_l108, qq_l0, qq_l1, qq_l2, qq_l3, qq_l4, qq_l5, qq_l6, qq_l7, qq_l8, qq_l9, qq_l10, qq_l11, qq_l12, qq_l13, qq_l14, qq_l15, qq_l20, qq_l30, qq_l31, qq_l36, qq_l37, qq_l38, qq_l39, qq_l40, qq_l41, qq_l42, qq_l43, qq_l45, qq_l47, qq_l48, qq_l49, qq_l50, qq_l57, qq_l58, qq_l59, qq_l60, qq_l61, qq_l62, qq_l63, qq_l80, qq_l81, qq_l97, qq_l98, qq_l99, qq_l100, qq_l103, qq_l112, qq_l113, qq_l119, qq_l120, qq_l121, qq_l124, qq_l126, qq_l128, qq_l255, qq_l360, qq_l512, qq_l729, qq_zg, qq_zs, qq_zsJ, qq_zgT, qq_ltT, qq_ltF, qq_leT, qq_leF, qq_eqT, qq_eqF, qq_nltT, qq_ltnF, qq_nltnT, qq_nltnF, qq_nleT, qq_lenF, qq_nlenT, qq_nlenF, qq_eqnF, qq_neqF, qq_neqnF, qq_neqnT, nI_add, qq_subT, qq_subF, qq_addnT, qq_addnF, qq_naddT, qq_naddF, pk_mul, qq_and, qq_or, if_true, if_false, not_true, not_false_iff, qq_upd, qq_updE, qq_updN, reduceIte, eq_self, ne_eq, true_and, and_true, Nat.add_zero, Nat.zero_add, Nat.add_sub_cancel]
  · simp (disch := omega) only [hsub, qq_b1, qq_b2, qq_b3, qq_b4, qq_b5, qq_b6, qq_b7, qq_b8, qq_b9, qq_b10, qq_b11, qq_b12, qq_b13, qq_b18, qq_b19, qq_s0l, qq_s0r, qq_s1l, qq_s1r, qq_s2l, qq_s2r, qq_s3l, qq_s3r, qq_s6l, qq_s6r, qq_s7l, qq_s7r, qq_bt, qq_bf, qq_l70, qq_l24, qq_l23, qq_l22, qq_l21, qq_l19, qq_l18, qq_l17, qq_l16, qq_l25, qq_l32, qq_l33, qq_l34, qq_l35, qq_l44, qq_l46, qq_l108, qq_l0, qq_l1, qq_l2, qq_l3, qq_l4, qq_l5, qq_l6, qq_l7, qq_l8, qq_l9, qq_l10, qq_l11, qq_l12, qq_l13, qq_l14, qq_l15, qq_l20, qq_l30, qq_l31, qq_l36, qq_l37, qq_l38, qq_l39, qq_l40, qq_l41, qq_l42, qq_l43, qq_l45, qq_l47, qq_l48, qq_l49, qq_l50, qq_l57, qq_l58, qq_l59, qq_l60, qq_l61, qq_l62, qq_l63, qq_l80, qq_l81, qq_l97, qq_l98, qq_l99, qq_l100, qq_l103, qq_l112, qq_l113, qq_l119, qq_l120, qq_l121, qq_l124, qq_l126, qq_l128, qq_l255, qq_l360, qq_l512, qq_l729, qq_zg, qq_zs, qq_zsJ, qq_zgT, qq_ltT, qq_ltF, qq_leT, qq_leF, qq_eqT, qq_eqF, qq_nltT, qq_ltnF, qq_nltnT, qq_nltnF, qq_nleT, qq_lenF, qq_nlenT, qq_nlenF, qq_eqnF, qq_neqF, qq_neqnF, qq_neqnT, nI_add, qq_subT, qq_subF, qq_addnT, qq_addnF, qq_naddT, qq_naddF, pk_mul, qq_and, qq_or, if_true, if_false, not_true, not_false_iff, qq_upd, qq_updE, qq_updN, reduceIte, eq_self, ne_eq, true_and, and_true, Nat.add_zero, Nat.zero_add, Nat.add_sub_cancel]
theorem qq_odP {g : Nat → Nat → Bool} {q : Nat → Nat} {n P : Nat} (hV : qq_Vl q n P) (S c : Nat) : qq_sum (fun p => if qq_mp (fun k => qq_ms (g k) (fun j => j) n) q n S p = true then qq_od (fun k => qq_ms (g k) (fun j => j) n) n c (qq_rmv S (qq_pl q n p)) else 0) P = qq_od (fun k => qq_ms (g k) (fun j => j) n) n (c + 1) S := by
  rw [qq_od, qq_sum_re hV _ n (Nat.le_refl n)]
  apply qq_sum_congr
  intro p _
  unfold qq_mp
  by_cases h : qq_pl q n p < n
  · rw [decide_eq_true h, Bool.true_and, if_pos h]
  · rw [decide_eq_false h, Bool.false_and, if_neg h]
    rfl
set_option maxRecDepth 100000 in
set_option maxHeartbeats 4000000 in
theorem qq_cr2 {g : Nat → Nat → Bool} {blocks : Nat → Int32} {q : Nat → Nat} {n P : Nat} (hV : qq_Vl q n P) (hP : P ≤ 9) (hB : ∀ i, i < n → blocks (q i) = nI (qq_ms (g i) q n)) :
    ∀ t T fuel (o : Nat → Int32), T + t = qq_ms (fun _ => true) q n + 1 → t < fuel →
      (∀ T1 S1, T1 < T → qq_RS q n S1 T1 → o T1 = nI (qq_od (fun k => qq_ms (g k) (fun j => j) n) n (qq_pc S1) S1)) →
      ∃ o1, f_M_countsOrders_L2 (nI P) blocks (nI (qq_ms (fun _ => true) q n)) fuel o (nI T) = some o1 ∧ ∀ T1 S1, T1 < qq_ms (fun _ => true) q n + 1 → qq_RS q n S1 T1 → o1 T1 = nI (qq_od (fun k => qq_ms (g k) (fun j => j) n) n (qq_pc S1) S1) := by
  have hn := qq_nle hV hP
  have hT0 := qq_ms512 (f := fun _ => true) (qq_V9 hV hP)
  intro t
  induction t with
  | zero =>
    intro T fuel o h hf hO
    obtain ⟨f, rfl⟩ : ∃ f, fuel = f + 1 := ⟨fuel - 1, by omega⟩
    refine ⟨o, ?_, fun T1 S1 h1 h2 => hO T1 S1 (by omega) h2⟩
    rw [f_M_countsOrders_L2]; simp (disch := omega) only [qq_b1, qq_b2, qq_b3, qq_b4, qq_b5, qq_b6, qq_b7, qq_b8, qq_b9, qq_b10, qq_b11, qq_b12, qq_b13, qq_b18, qq_b19, qq_s0l, qq_s0r, qq_s1l, qq_s1r, qq_s2l, qq_s2r, qq_s3l, qq_s3r, qq_s6l, qq_s6r, qq_s7l, qq_s7r, qq_bt, qq_bf, qq_l70, qq_l24, qq_l23, qq_l22, qq_l21, qq_l19, qq_l18, qq_l17, qq_l16, qq_l25, qq_l32, qq_l33, qq_l34, qq_l35, qq_l44, qq_l46, qq_l108, qq_l0, qq_l1, qq_l2, qq_l3, qq_l4, qq_l5, qq_l6, qq_l7, qq_l8, qq_l9, qq_l10, qq_l11, qq_l12, qq_l13, qq_l14, qq_l15, qq_l20, qq_l30, qq_l31, qq_l36, qq_l37, qq_l38, qq_l39, qq_l40, qq_l41, qq_l42, qq_l43, qq_l45, qq_l47, qq_l48, qq_l49, qq_l50, qq_l57, qq_l58, qq_l59, qq_l60, qq_l61, qq_l62, qq_l63, qq_l80, qq_l81, qq_l97, qq_l98, qq_l99, qq_l100, qq_l103, qq_l112, qq_l113, qq_l119, qq_l120, qq_l121, qq_l124, qq_l126, qq_l128, qq_l255, qq_l360, qq_l512, qq_l729, qq_zg, qq_zs, qq_zsJ, qq_zgT, qq_ltT, qq_ltF, qq_leT, qq_leF, qq_eqT, qq_eqF, qq_nltT, qq_ltnF, qq_nltnT, qq_nltnF, qq_nleT, qq_lenF, qq_nlenT, qq_nlenF, qq_eqnF, qq_neqF, qq_neqnF, qq_neqnT, nI_add, qq_subT, qq_subF, qq_addnT, qq_addnF, qq_naddT, qq_naddF, pk_mul, qq_and, qq_or, if_true, if_false, not_true, not_false_iff, qq_upd, qq_updE, qq_updN, reduceIte, eq_self, ne_eq, true_and, and_true, Nat.add_zero, Nat.zero_add, Nat.add_sub_cancel]
  | succ t ih =>
    intro T fuel o h hf hO
    obtain ⟨f, rfl⟩ : ∃ f, fuel = f + 1 := ⟨fuel - 1, by omega⟩
    rw [f_M_countsOrders_L2]
    have hz0 : ∀ i, (0 : Nat).testBit i = true → False := fun i hi => by
      rw [Nat.zero_testBit] at hi
      cases hi
    have hR0 : qq_RS q n 0 0 := ⟨by omega, by omega, fun i hi => (hz0 i hi).elim, fun p => ⟨fun hp => (hz0 p hp).elim, fun ⟨k, _, hk, _⟩ => (hz0 k hk).elim⟩⟩
    rcases Nat.eq_zero_or_pos T with e | e
    · subst e
      obtain ⟨o1, e1, g1, g2⟩ := qq_cr24 hV hP hB (V := 1) (c := 0) hR0 (fun k _ hk => by rw [Nat.zero_testBit] at hk; cases hk) P 0 FU (upd o 0 (nI 1)) (by omega) (by rw [qq_FU]; omega) (by unfold upd; rw [if_pos rfl]; rfl) (fun T1 S1 h1 _ => absurd h1 (Nat.not_lt_zero _))
      have hz : qq_sum (fun p => if qq_mp (fun k => qq_ms (g k) (fun j => j) n) q n 0 p = true then qq_od (fun k => qq_ms (g k) (fun j => j) n) n 0 (qq_rmv 0 (qq_pl q n p)) else 0) P = 0 := by
        rw [qq_sum_const 0 (fun p _ => if_neg (by unfold qq_mp qq_may; rw [Nat.zero_testBit, Bool.false_and, Bool.and_false]; decide)), Nat.mul_zero]
      rw [hz] at g1
      obtain ⟨o2, e2, g3⟩ := ih (0 + 1) f o1 (by omega) (by omega) (fun T1 S1 h1 h2 => by
        have e3 : T1 = 0 := by omega
        subst e3
        have e4 := qq_RS_uni hR0 h2 hV
        rw [g1, e4, show qq_pc 0 = 0 by decide +kernel]
        rfl)
      refine ⟨o2, ?_, g3⟩
      simp (disch := omega) only [e1, qq_b1, qq_b2, qq_b3, qq_b4, qq_b5, qq_b6, qq_b7, qq_b8, qq_b9, qq_b10, qq_b11, qq_b12, qq_b13, qq_b18, qq_b19, qq_s0l, qq_s0r, qq_s1l, qq_s1r, qq_s2l, qq_s2r, qq_s3l, qq_s3r, qq_s6l, qq_s6r, qq_s7l, qq_s7r, qq_bt, qq_bf, qq_l70, qq_l24, qq_l23, qq_l22, qq_l21, qq_l19, qq_l18, qq_l17, qq_l16, qq_l25, qq_l32, qq_l33, qq_l34, qq_l35, qq_l44, qq_l46, qq_l108, qq_l0, qq_l1, qq_l2, qq_l3, qq_l4, qq_l5, qq_l6, qq_l7, qq_l8, qq_l9, qq_l10, qq_l11, qq_l12, qq_l13, qq_l14, qq_l15, qq_l20, qq_l30, qq_l31, qq_l36, qq_l37, qq_l38, qq_l39, qq_l40, qq_l41, qq_l42, qq_l43, qq_l45, qq_l47, qq_l48, qq_l49, qq_l50, qq_l57, qq_l58, qq_l59, qq_l60, qq_l61, qq_l62, qq_l63, qq_l80, qq_l81, qq_l97, qq_l98, qq_l99, qq_l100, qq_l103, qq_l112, qq_l113, qq_l119, qq_l120, qq_l121, qq_l124, qq_l126, qq_l128, qq_l255, qq_l360, qq_l512, qq_l729, qq_zg, qq_zs, qq_zsJ, qq_zgT, qq_ltT, qq_ltF, qq_leT, qq_leF, qq_eqT, qq_eqF, qq_nltT, qq_ltnF, qq_nltnT, qq_nltnF, qq_nleT, qq_lenF, qq_nlenT, qq_nlenF, qq_eqnF, qq_neqF, qq_neqnF, qq_neqnT, nI_add, qq_subT, qq_subF, qq_addnT, qq_addnF, qq_naddT, qq_naddF, pk_mul, qq_and, qq_or, if_true, if_false, not_true, not_false_iff, qq_upd, qq_updE, qq_updN, reduceIte, eq_self, ne_eq, true_and, and_true, Nat.add_zero, Nat.zero_add, Nat.add_sub_cancel]
      exact e2
    · by_cases hs : ∀ i, T.testBit i = true → (qq_ms (fun _ => true) q n).testBit i = true
      · obtain ⟨S, hR⟩ := qq_RS_ex hV hP (show T < 512 by omega) hs
        have hS0 : 0 < S := by
          rcases Nat.eq_zero_or_pos S with e0 | e0
          · exfalso
            obtain ⟨i, hi⟩ := qq_ne0 (show T ≠ 0 by omega)
            obtain ⟨k, _, hk, _⟩ := (hR.2.2.2 i).mp hi
            rw [e0, Nat.zero_testBit] at hk; cases hk
          · exact e0
        have hp := qq_pc_pos S hR.1 hS0
        obtain ⟨c, hc⟩ : ∃ c, qq_pc S = c + 1 := ⟨qq_pc S - 1, by omega⟩
        obtain ⟨o1, e1, g1, g2⟩ := qq_cr24 hV hP hB (V := 0) (c := c) hR (fun k hk hb => by have := qq_bit6 S hR.1 k (by omega) hb; omega) P 0 FU (upd o T (nI 0)) (by omega) (by rw [qq_FU]; omega) (by unfold upd; rw [if_pos rfl]; rfl) (fun T1 S1 h1 h2 => by unfold upd; rw [if_neg (by omega)]; exact hO T1 S1 h1 h2)
        rw [qq_odP hV, Nat.zero_add] at g1
        obtain ⟨o2, e2, g3⟩ := ih (T + 1) f o1 (by omega) (by omega) (fun T1 S1 h1 h2 => by
          by_cases e3 : T1 = T
          · subst e3
            rw [g1, qq_RS_uni hR h2 hV, hc]
          · rw [g2 T1 e3]; unfold upd; rw [if_neg e3]; exact hO T1 S1 (by omega) h2)
        refine ⟨o2, ?_, g3⟩
        simp (disch := omega) only [e1, qq_b1, qq_b2, qq_b3, qq_b4, qq_b5, qq_b6, qq_b7, qq_b8, qq_b9, qq_b10, qq_b11, qq_b12, qq_b13, qq_b18, qq_b19, qq_s0l, qq_s0r, qq_s1l, qq_s1r, qq_s2l, qq_s2r, qq_s3l, qq_s3r, qq_s6l, qq_s6r, qq_s7l, qq_s7r, qq_bt, qq_bf, qq_l70, qq_l24, qq_l23, qq_l22, qq_l21, qq_l19, qq_l18, qq_l17, qq_l16, qq_l25, qq_l32, qq_l33, qq_l34, qq_l35, qq_l44, qq_l46, qq_l108, qq_l0, qq_l1, qq_l2, qq_l3, qq_l4, qq_l5, qq_l6, qq_l7, qq_l8, qq_l9, qq_l10, qq_l11, qq_l12, qq_l13, qq_l14, qq_l15, qq_l20, qq_l30, qq_l31, qq_l36, qq_l37, qq_l38, qq_l39, qq_l40, qq_l41, qq_l42, qq_l43, qq_l45, qq_l47, qq_l48, qq_l49, qq_l50, qq_l57, qq_l58, qq_l59, qq_l60, qq_l61, qq_l62, qq_l63, qq_l80, qq_l81, qq_l97, qq_l98, qq_l99, qq_l100, qq_l103, qq_l112, qq_l113, qq_l119, qq_l120, qq_l121, qq_l124, qq_l126, qq_l128, qq_l255, qq_l360, qq_l512, qq_l729, qq_zg, qq_zs, qq_zsJ, qq_zgT, qq_ltT, qq_ltF, qq_leT, qq_leF, qq_eqT, qq_eqF, qq_nltT, qq_ltnF, qq_nltnT, qq_nltnF, qq_nleT, qq_lenF, qq_nlenT, qq_nlenF, qq_eqnF, qq_neqF, qq_neqnF, qq_neqnT, nI_add, qq_subT, qq_subF, qq_addnT, qq_addnF, qq_naddT, qq_naddF, pk_mul, qq_and, qq_or, if_true, if_false, not_true, not_false_iff, qq_upd, qq_updE, qq_updN, reduceIte, eq_self, ne_eq, true_and, and_true, Nat.add_zero, Nat.zero_add, Nat.add_sub_cancel]
        exact e2
      · have e1 := qq_cr24n (blocks := blocks) hP (show T < 512 by omega) hT0 hs (fuel := FU) (by rw [qq_FU]; omega) (upd o T (nI 0))
        obtain ⟨o2, e2, g3⟩ := ih (T + 1) f (upd o T (nI 0)) (by omega) (by omega) (fun T1 S1 h1 h2 => by
          by_cases e3 : T1 = T
          · subst e3
            exact absurd (qq_RS_sub h2) hs
          · unfold upd; rw [if_neg e3]; exact hO T1 S1 (by omega) h2)
        refine ⟨o2, ?_, g3⟩
        simp (disch := omega) only [e1, qq_b1, qq_b2, qq_b3, qq_b4, qq_b5, qq_b6, qq_b7, qq_b8, qq_b9, qq_b10, qq_b11, qq_b12, qq_b13, qq_b18, qq_b19, qq_s0l, qq_s0r, qq_s1l, qq_s1r, qq_s2l, qq_s2r, qq_s3l, qq_s3r, qq_s6l, qq_s6r, qq_s7l, qq_s7r, qq_bt, qq_bf, qq_l70, qq_l24, qq_l23, qq_l22, qq_l21, qq_l19, qq_l18, qq_l17, qq_l16, qq_l25, qq_l32, qq_l33, qq_l34, qq_l35, qq_l44, qq_l46, qq_l108, qq_l0, qq_l1, qq_l2, qq_l3, qq_l4, qq_l5, qq_l6, qq_l7, qq_l8, qq_l9, qq_l10, qq_l11, qq_l12, qq_l13, qq_l14, qq_l15, qq_l20, qq_l30, qq_l31, qq_l36, qq_l37, qq_l38, qq_l39, qq_l40, qq_l41, qq_l42, qq_l43, qq_l45, qq_l47, qq_l48, qq_l49, qq_l50, qq_l57, qq_l58, qq_l59, qq_l60, qq_l61, qq_l62, qq_l63, qq_l80, qq_l81, qq_l97, qq_l98, qq_l99, qq_l100, qq_l103, qq_l112, qq_l113, qq_l119, qq_l120, qq_l121, qq_l124, qq_l126, qq_l128, qq_l255, qq_l360, qq_l512, qq_l729, qq_zg, qq_zs, qq_zsJ, qq_zgT, qq_ltT, qq_ltF, qq_leT, qq_leF, qq_eqT, qq_eqF, qq_nltT, qq_ltnF, qq_nltnT, qq_nltnF, qq_nleT, qq_lenF, qq_nlenT, qq_nlenF, qq_eqnF, qq_neqF, qq_neqnF, qq_neqnT, nI_add, qq_subT, qq_subF, qq_addnT, qq_addnF, qq_naddT, qq_naddF, pk_mul, qq_and, qq_or, if_true, if_false, not_true, not_false_iff, qq_upd, qq_updE, qq_updN, reduceIte, eq_self, ne_eq, true_and, and_true, Nat.add_zero, Nat.zero_add, Nat.add_sub_cancel]
        exact e2
set_option maxRecDepth 100000 in
set_option maxHeartbeats 4000000 in
theorem qq_lsL {line : Nat → Int32} {q : Nat → Nat} {n P : Nat} (hL : qq_Ln line q n) (hV : qq_Vl q n P) (hP : P ≤ 9) : ∀ t k fuel, k + t = n → t < fuel → f_M_lineSet_L4 (nI n) line fuel (nI (qq_ms (fun _ => true) q k)) (nI k) = some (nI (qq_ms (fun _ => true) q n)) := by
  have hn := qq_nle hV hP
  intro t
  induction t with
  | zero =>
    intro k fuel h hf
    obtain ⟨f, rfl⟩ : ∃ f, fuel = f + 1 := ⟨fuel - 1, by omega⟩
    obtain rfl : k = n := by omega
    rw [f_M_lineSet_L4]; simp (disch := omega) only [qq_b1, qq_b2, qq_b3, qq_b4, qq_b5, qq_b6, qq_b7, qq_b8, qq_b9, qq_b10, qq_b11, qq_b12, qq_b13, qq_b18, qq_b19, qq_s0l, qq_s0r, qq_s1l, qq_s1r, qq_s2l, qq_s2r, qq_s3l, qq_s3r, qq_s6l, qq_s6r, qq_s7l, qq_s7r, qq_bt, qq_bf, qq_l70, qq_l24, qq_l23, qq_l22, qq_l21, qq_l19, qq_l18, qq_l17, qq_l16, qq_l25, qq_l32, qq_l33, qq_l34, qq_l35, qq_l44, qq_l46, qq_l108, qq_l0, qq_l1, qq_l2, qq_l3, qq_l4, qq_l5, qq_l6, qq_l7, qq_l8, qq_l9, qq_l10, qq_l11, qq_l12, qq_l13, qq_l14, qq_l15, qq_l20, qq_l30, qq_l31, qq_l36, qq_l37, qq_l38, qq_l39, qq_l40, qq_l41, qq_l42, qq_l43, qq_l45, qq_l47, qq_l48, qq_l49, qq_l50, qq_l57, qq_l58, qq_l59, qq_l60, qq_l61, qq_l62, qq_l63, qq_l80, qq_l81, qq_l97, qq_l98, qq_l99, qq_l100, qq_l103, qq_l112, qq_l113, qq_l119, qq_l120, qq_l121, qq_l124, qq_l126, qq_l128, qq_l255, qq_l360, qq_l512, qq_l729, qq_zg, qq_zs, qq_zsJ, qq_zgT, qq_ltT, qq_ltF, qq_leT, qq_leF, qq_eqT, qq_eqF, qq_nltT, qq_ltnF, qq_nltnT, qq_nltnF, qq_nleT, qq_lenF, qq_nlenT, qq_nlenF, qq_eqnF, qq_neqF, qq_neqnF, qq_neqnT, nI_add, qq_subT, qq_subF, qq_addnT, qq_addnF, qq_naddT, qq_naddF, pk_mul, qq_and, qq_or, if_true, if_false, not_true, not_false_iff, qq_upd, qq_updE, qq_updN, reduceIte, eq_self, ne_eq, true_and, and_true, Nat.add_zero, Nat.zero_add, Nat.add_sub_cancel]
  | succ t ih =>
    intro k fuel h hf
    obtain ⟨f, rfl⟩ : ∃ f, fuel = f + 1 := ⟨fuel - 1, by omega⟩
    have hk : k < n := by omega
    have e := ih (k + 1) f (by omega) (by omega)
    have hms := qq_ms512 (f := fun _ => true) (g := q) (n := k) (fun j hj => qq_V9 hV hP j (by omega))
    rw [qq_ms, if_pos rfl, ← (qq_bit2 _ hms (q k) (qq_V9 hV hP k hk)).1] at e
    have h9 := qq_V9 hV hP k hk
    rw [f_M_lineSet_L4]; simp (disch := omega) only [hL k hk, qq_b1, qq_b2, qq_b3, qq_b4, qq_b5, qq_b6, qq_b7, qq_b8, qq_b9, qq_b10, qq_b11, qq_b12, qq_b13, qq_b18, qq_b19, qq_s0l, qq_s0r, qq_s1l, qq_s1r, qq_s2l, qq_s2r, qq_s3l, qq_s3r, qq_s6l, qq_s6r, qq_s7l, qq_s7r, qq_bt, qq_bf, qq_l70, qq_l24, qq_l23, qq_l22, qq_l21, qq_l19, qq_l18, qq_l17, qq_l16, qq_l25, qq_l32, qq_l33, qq_l34, qq_l35, qq_l44, qq_l46, qq_l108, qq_l0, qq_l1, qq_l2, qq_l3, qq_l4, qq_l5, qq_l6, qq_l7, qq_l8, qq_l9, qq_l10, qq_l11, qq_l12, qq_l13, qq_l14, qq_l15, qq_l20, qq_l30, qq_l31, qq_l36, qq_l37, qq_l38, qq_l39, qq_l40, qq_l41, qq_l42, qq_l43, qq_l45, qq_l47, qq_l48, qq_l49, qq_l50, qq_l57, qq_l58, qq_l59, qq_l60, qq_l61, qq_l62, qq_l63, qq_l80, qq_l81, qq_l97, qq_l98, qq_l99, qq_l100, qq_l103, qq_l112, qq_l113, qq_l119, qq_l120, qq_l121, qq_l124, qq_l126, qq_l128, qq_l255, qq_l360, qq_l512, qq_l729, qq_zg, qq_zs, qq_zsJ, qq_zgT, qq_ltT, qq_ltF, qq_leT, qq_leF, qq_eqT, qq_eqF, qq_nltT, qq_ltnF, qq_nltnT, qq_nltnF, qq_nleT, qq_lenF, qq_nlenT, qq_nlenF, qq_eqnF, qq_neqF, qq_neqnF, qq_neqnT, nI_add, qq_subT, qq_subF, qq_addnT, qq_addnF, qq_naddT, qq_naddF, pk_mul, qq_and, qq_or, if_true, if_false, not_true, not_false_iff, qq_upd, qq_updE, qq_updN, reduceIte, eq_self, ne_eq, true_and, and_true, Nat.add_zero, Nat.zero_add, Nat.add_sub_cancel]; exact e
theorem qq_lineSet {line : Nat → Int32} {q : Nat → Nat} {n P : Nat} (hL : qq_Ln line q n) (hV : qq_Vl q n P) (hP : P ≤ 9) : f_M_lineSet (nI n) line = some (nI (qq_ms (fun _ => true) q n)) := by
  have hn := qq_nle hV hP
  have e := qq_lsL hL hV hP n 0 FU (by omega) (by rw [qq_FU]; omega)
  rw [show qq_ms (fun _ => true) q 0 = 0 from rfl] at e
  unfold f_M_lineSet
  simp (disch := omega) only [e, qq_b1, qq_b2, qq_b3, qq_b4, qq_b5, qq_b6, qq_b7, qq_b8, qq_b9, qq_b10, qq_b11, qq_b12, qq_b13, qq_b18, qq_b19, qq_s0l, qq_s0r, qq_s1l, qq_s1r, qq_s2l, qq_s2r, qq_s3l, qq_s3r, qq_s6l, qq_s6r, qq_s7l, qq_s7r, qq_bt, qq_bf, qq_l70, qq_l24, qq_l23, qq_l22, qq_l21, qq_l19, qq_l18, qq_l17, qq_l16, qq_l25, qq_l32, qq_l33, qq_l34, qq_l35, qq_l44, qq_l46, qq_l108, qq_l0, qq_l1, qq_l2, qq_l3, qq_l4, qq_l5, qq_l6, qq_l7, qq_l8, qq_l9, qq_l10, qq_l11, qq_l12, qq_l13, qq_l14, qq_l15, qq_l20, qq_l30, qq_l31, qq_l36, qq_l37, qq_l38, qq_l39, qq_l40, qq_l41, qq_l42, qq_l43, qq_l45, qq_l47, qq_l48, qq_l49, qq_l50, qq_l57, qq_l58, qq_l59, qq_l60, qq_l61, qq_l62, qq_l63, qq_l80, qq_l81, qq_l97, qq_l98, qq_l99, qq_l100, qq_l103, qq_l112, qq_l113, qq_l119, qq_l120, qq_l121, qq_l124, qq_l126, qq_l128, qq_l255, qq_l360, qq_l512, qq_l729, qq_zg, qq_zs, qq_zsJ, qq_zgT, qq_ltT, qq_ltF, qq_leT, qq_leF, qq_eqT, qq_eqF, qq_nltT, qq_ltnF, qq_nltnT, qq_nltnF, qq_nleT, qq_lenF, qq_nlenT, qq_nlenF, qq_eqnF, qq_neqF, qq_neqnF, qq_neqnT, nI_add, qq_subT, qq_subF, qq_addnT, qq_addnF, qq_naddT, qq_naddF, pk_mul, qq_and, qq_or, if_true, if_false, not_true, not_false_iff, qq_upd, qq_updE, qq_updN, reduceIte, eq_self, ne_eq, true_and, and_true, Nat.add_zero, Nat.zero_add, Nat.add_sub_cancel]
