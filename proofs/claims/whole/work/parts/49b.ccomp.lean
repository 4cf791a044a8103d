/-! LAYER (c): what ties the two worlds, piece by piece (by wip/whole/c/c.py) -/
/-- heights: 1 .. 99, unlike -/
def qq_HV (H : Nat → Nat) (P : Nat) : Prop := (∀ p, p < P → 1 ≤ H p ∧ H p ≤ 99) ∧ ∀ p r, p < P → r < P → H p = H r → p = r
def qq_K (P : Nat) (H q : Nat → Nat) (n : Nat) (lv : Nat → Nat → Nat → Nat → Nat → Bool) (cp : Int32) (ch : Nat → Int32) (ql : Int32) (qw : Nat → Int32) (tl : Int32) (ts kn : Nat → Int32) (mp : Int32) (mh : Nat → Int32) (ml : Int32) (mline : Nat → Int32) (mtm : Int32) (mtext : Nat → Int32) : Prop :=
  cp = nI P ∧ mp = nI P ∧ qq_Ln ch H P ∧ qq_Ln mh H P ∧ qq_HV H P ∧ P ≤ 9 ∧ ql = nI n ∧ ml = nI n ∧ qq_Ln qw q n ∧ qq_Ln mline q n ∧ qq_Vl q n P ∧ qq_LT tl ts lv ∧ qq_LM mtm mtext lv ∧ qq_Kn kn lv H P
theorem qq_HVB {H : Nat → Nat} {P : Nat} (h : qq_HV H P) : ∀ p, p < P → H p < 1000 := fun p hp => by have := h.1 p hp; omega
theorem qq_nle {q : Nat → Nat} {n P : Nat} (hV : qq_Vl q n P) (hP : P ≤ 9) : n ≤ 9 := Nat.le_trans (qq_Vl_le hV) hP
theorem qq_V9 {q : Nat → Nat} {n P : Nat} (hV : qq_Vl q n P) (hP : P ≤ 9) : ∀ i, i < n → q i < 9 := fun i hi => Nat.lt_of_lt_of_le (hV.1 i hi) hP
def qq_Md (done all_ : Int32) (whose before after : Nat → Int32) (kept mdone : Int32) (cAt cWas cIs : Nat → Int32) (P : Nat) : Prop :=
  ∃ d a : Nat, done = nI d ∧ mdone = nI d ∧ all_ = nI a ∧ kept = nI a ∧ d ≤ a ∧ a ≤ 40 ∧ ∃ w b c : Nat → Nat, ∀ k, k < a → whose k = nI (w k) ∧ before k = nI (b k) ∧ after k = nI (c k) ∧ cAt k = nI (w k) ∧ cWas k = nI (b k) ∧ cIs k = nI (c k) ∧ w k < P ∧ 1 ≤ b k ∧ b k ≤ 99 ∧ 1 ≤ c k ∧ c k ≤ 99
def qq_Pc (has plen : Int32) (pwho : Nat → Int32) (kept imany : Int32) (iline : Nat → Int32) (P : Nat) : Prop :=
  ∃ b : Bool, has = qq_t b ∧ kept = qq_t b ∧ (b = true → ∃ (pn : Nat) (pq : Nat → Nat), plen = nI pn ∧ imany = nI pn ∧ pn ≤ 9 ∧ qq_Ln pwho pq pn ∧ qq_Ln iline pq pn ∧ qq_Vl pq pn P)
def qq_Sh (sorts sizes held : Nat → Int32) (els : Nat → Nat → Int64) (shelf many : Nat → Int32) (items : Nat → Int64) (hs : Int32) : Prop :=
  ∀ d, d < 6 →
    (sorts d = -nI 1 ∧ shelf d = -nI 1 ∧ sizes d = nI 0 ∧ many d = nI 0) ∨
    (∃ b c : Nat, sorts d = nI 5 ∧ held d = nI b ∧ shelf d = nI b ∧ hs = nI c ∧ b < c ∧ c ≤ 50 ∧ sizes d = nI 0 ∧ many d = nI 0) ∨
    (∃ s m : Nat, s ≤ 4 ∧ sorts d = nI s ∧ shelf d = nI (50 + s) ∧ sizes d = nI m ∧ many d = nI m ∧ m ≤ 60 ∧ (∀ i, i < m → els d i = items (60 * d + i)) ∧ (s = 0 → ∀ i, i < m → ∃ x : Int32, els d i = Int32.toInt64 x ∧ -128 ≤ x.toInt ∧ x.toInt ≤ 127))
def qq_Hd (size ran : Int32) (kinds trace : Nat → Int32) (bodies mran : Int32) (bodyKind mtrace : Nat → Int32) : Prop :=
  ∃ c r : Nat, size = nI c ∧ bodies = nI c ∧ c ≤ 50 ∧ (∀ k, k < c → ∃ kd, kd < 8 ∧ kinds k = nI kd ∧ bodyKind k = nI kd) ∧ ran = nI r ∧ mran = nI r ∧ r < 1000 ∧ ∀ i, i < r → i < 24 → trace i = mtrace i
def qq_Tp (fed : Int32) (tape : Nat → Int32) (mfed : Int32) (mtape : Nat → Int32) : Prop :=
  ∃ (t : Nat) (bt : Nat → Nat), fed = nI t ∧ mfed = nI t ∧ t ≤ 120 ∧ ∀ i, i < t → tape i = nI (bt i) ∧ mtape i = nI (bt i) ∧ bt i < 256
/-! more people: all else stands -/
theorem qq_Dd_mono {first size : Int32} {klen : Nat → Int32} {kwho : Nat → Nat → Int32} {pasts : Int32} {pastMany past : Nat → Int32} {P R : Nat} (h : qq_Dd first size klen kwho pasts pastMany past P) (hR : P ≤ R) : qq_Dd first size klen kwho pasts pastMany past R := by
  obtain ⟨f, z, a1, a2, a3, a4, a5, h⟩ := h
  refine ⟨f, z, a1, a2, a3, a4, a5, fun k h1 h2 => ?_⟩
  obtain ⟨pn, pq, g1, g2, g3, g4, g5, g6⟩ := h k h1 h2
  exact ⟨pn, pq, g1, g2, g3, g4, g5, qq_Vl_mono g6 hR⟩
theorem qq_Md_mono {done all_ : Int32} {whose before after : Nat → Int32} {kept mdone : Int32} {cAt cWas cIs : Nat → Int32} {P R : Nat} (h : qq_Md done all_ whose before after kept mdone cAt cWas cIs P) (hR : P ≤ R) : qq_Md done all_ whose before after kept mdone cAt cWas cIs R := by
  obtain ⟨d, a, a1, a2, a3, a4, a5, a6, w, b, c, h⟩ := h
  refine ⟨d, a, a1, a2, a3, a4, a5, a6, w, b, c, fun k hk => ?_⟩
  obtain ⟨g1, g2, g3, g4, g5, g6, g7, g8⟩ := h k hk
  exact ⟨g1, g2, g3, g4, g5, g6, Nat.lt_of_lt_of_le g7 hR, g8⟩
theorem qq_Pc_mono {has plen : Int32} {pwho : Nat → Int32} {kept imany : Int32} {iline : Nat → Int32} {P R : Nat} (h : qq_Pc has plen pwho kept imany iline P) (hR : P ≤ R) : qq_Pc has plen pwho kept imany iline R := by
  obtain ⟨b, a1, a2, h⟩ := h
  refine ⟨b, a1, a2, fun hb => ?_⟩
  obtain ⟨pn, pq, g1, g2, g3, g4, g5, g6⟩ := h hb
  exact ⟨pn, pq, g1, g2, g3, g4, g5, qq_Vl_mono g6 hR⟩
/-! whose height it is -/
def qq_oth (H : Nat → Nat) (P : Nat) (px : Int32) (h : Nat) : Bool := decide (qq_fst (fun k => decide (¬ nI k = px) && (H k == h)) P 0 < P)
theorem qq_oth_iff {H : Nat → Nat} {P : Nat} {px : Int32} {h : Nat} : qq_oth H P px h = true ↔ ∃ k, k < P ∧ ¬ nI k = px ∧ H k = h := by
  unfold qq_oth
  rw [decide_eq_true_eq]
  constructor
  · intro hf
    have := qq_fst_is (fun k => decide (¬ nI k = px) && (H k == h)) P 0 (by omega)
    rw [Bool.and_eq_true, decide_eq_true_eq, beq_iff_eq] at this
    exact ⟨_, hf, this⟩
  · intro ⟨k, hk, h1, h2⟩
    rcases Nat.lt_or_ge (qq_fst (fun k => decide (¬ nI k = px) && (H k == h)) P 0) P with h3 | h3
    · exact h3
    · have := qq_fst_not (fun k => decide (¬ nI k = px) && (H k == h)) P 0 k (by omega) (by omega)
      simp [h1, h2] at this
set_option maxRecDepth 100000 in
set_option maxHeartbeats 4000000 in
theorem qq_othL {hts : Nat → Int32} {H : Nat → Nat} {P : Nat} (hH : qq_Ln hts H P) (hB : ∀ p, p < P → H p < 1000) (hP : P ≤ 9) (px : Int32) {h : Nat} (hh : h < 1000) :
    ∀ d i fuel, i + d = P → d < fuel → f_Crowd_isOfAnother_L2 (nI P) hts (nI h) px fuel (nI i) = some (if qq_fst (fun k => decide (¬ nI k = px) && (H k == h)) d i < P then .inr (nI 1) else .inl ()) := by
  intro d
  induction d with
  | zero =>
    intro i fuel hi hf
    obtain ⟨f, rfl⟩ : ∃ f, fuel = f + 1 := ⟨fuel - 1, by omega⟩
    rw [f_Crowd_isOfAnother_L2]
    simp (disch := omega) only [qq_b1, qq_b2, qq_b3, qq_b4, qq_b5, qq_b6, qq_b7, qq_b8, qq_b9, qq_b10, qq_b11, qq_b12, qq_b13, qq_b18, qq_b19, qq_s0l, qq_s0r, qq_s1l, qq_s1r, qq_s2l, qq_s2r, qq_s3l, qq_s3r, qq_s6l, qq_s6r, qq_s7l, qq_s7r, qq_bt, qq_bf, qq_l0, qq_l1, qq_l2, qq_l3, qq_l4, qq_l5, qq_l6, qq_l7, qq_l8, qq_l9, qq_l10, qq_l11, qq_l12, qq_l13, qq_l14, qq_l15, qq_l20, qq_l30, qq_l31, qq_l36, qq_l37, qq_l38, qq_l39, qq_l40, qq_l41, qq_l42, qq_l43, qq_l45, qq_l47, qq_l48, qq_l49, qq_l50, qq_l57, qq_l58, qq_l59, qq_l60, qq_l61, qq_l62, qq_l63, qq_l80, qq_l81, qq_l97, qq_l98, qq_l99, qq_l100, qq_l103, qq_l112, qq_l113, qq_l119, qq_l120, qq_l121, qq_l124, qq_l126, qq_l128, qq_l255, qq_l360, qq_l512, qq_l729, qq_zg, qq_zs, qq_zsJ, qq_zgT, qq_ltT, qq_ltF, qq_leT, qq_leF, qq_eqT, qq_eqF, qq_nltT, qq_ltnF, qq_nltnT, qq_nltnF, qq_nleT, qq_lenF, qq_nlenT, qq_nlenF, qq_eqnF, qq_neqF, qq_neqnF, qq_neqnT, nI_add, qq_subT, qq_subF, qq_addnT, qq_addnF, qq_naddT, qq_naddF, pk_mul, qq_and, qq_or, if_true, if_false, not_true, not_false_iff, qq_upd, qq_updE, qq_updN, reduceIte, eq_self, ne_eq, true_and, and_true, Nat.add_zero, Nat.zero_add, Nat.add_sub_cancel]
    rw [if_neg (by unfold qq_fst; omega)]
  | succ d ih =>
    intro i fuel hi hf
    obtain ⟨f, rfl⟩ : ∃ f, fuel = f + 1 := ⟨fuel - 1, by omega⟩
    rw [f_Crowd_isOfAnother_L2, qq_fst]
    have hik : i < P := by omega
    have hBi := hB i hik
    have e := ih (i + 1) f (by omega) (by omega)
    by_cases h1 : nI i = px
    · simp (disch := omega) only [h1, decide_false, Bool.false_and, Bool.false_eq_true, qq_b1, qq_b2, qq_b3, qq_b4, qq_b5, qq_b6, qq_b7, qq_b8, qq_b9, qq_b10, qq_b11, qq_b12, qq_b13, qq_b18, qq_b19, qq_s0l, qq_s0r, qq_s1l, qq_s1r, qq_s2l, qq_s2r, qq_s3l, qq_s3r, qq_s6l, qq_s6r, qq_s7l, qq_s7r, qq_bt, qq_bf, qq_l0, qq_l1, qq_l2, qq_l3, qq_l4, qq_l5, qq_l6, qq_l7, qq_l8, qq_l9, qq_l10, qq_l11, qq_l12, qq_l13, qq_l14, qq_l15, qq_l20, qq_l30, qq_l31, qq_l36, qq_l37, qq_l38, qq_l39, qq_l40, qq_l41, qq_l42, qq_l43, qq_l45, qq_l47, qq_l48, qq_l49, qq_l50, qq_l57, qq_l58, qq_l59, qq_l60, qq_l61, qq_l62, qq_l63, qq_l80, qq_l81, qq_l97, qq_l98, qq_l99, qq_l100, qq_l103, qq_l112, qq_l113, qq_l119, qq_l120, qq_l121, qq_l124, qq_l126, qq_l128, qq_l255, qq_l360, qq_l512, qq_l729, qq_zg, qq_zs, qq_zsJ, qq_zgT, qq_ltT, qq_ltF, qq_leT, qq_leF, qq_eqT, qq_eqF, qq_nltT, qq_ltnF, qq_nltnT, qq_nltnF, qq_nleT, qq_lenF, qq_nlenT, qq_nlenF, qq_eqnF, qq_neqF, qq_neqnF, qq_neqnT, nI_add, qq_subT, qq_subF, qq_addnT, qq_addnF, qq_naddT, qq_naddF, pk_mul, qq_and, qq_or, if_true, if_false, not_true, not_false_iff, qq_upd, qq_updE, qq_updN, reduceIte, eq_self, ne_eq, true_and, and_true, Nat.add_zero, Nat.zero_add, Nat.add_sub_cancel]
      rw [← h1]
      simp (disch := omega) only [qq_b1, qq_b2, qq_b3, qq_b4, qq_b5, qq_b6, qq_b7, qq_b8, qq_b9, qq_b10, qq_b11, qq_b12, qq_b13, qq_b18, qq_b19, qq_s0l, qq_s0r, qq_s1l, qq_s1r, qq_s2l, qq_s2r, qq_s3l, qq_s3r, qq_s6l, qq_s6r, qq_s7l, qq_s7r, qq_bt, qq_bf, qq_l0, qq_l1, qq_l2, qq_l3, qq_l4, qq_l5, qq_l6, qq_l7, qq_l8, qq_l9, qq_l10, qq_l11, qq_l12, qq_l13, qq_l14, qq_l15, qq_l20, qq_l30, qq_l31, qq_l36, qq_l37, qq_l38, qq_l39, qq_l40, qq_l41, qq_l42, qq_l43, qq_l45, qq_l47, qq_l48, qq_l49, qq_l50, qq_l57, qq_l58, qq_l59, qq_l60, qq_l61, qq_l62, qq_l63, qq_l80, qq_l81, qq_l97, qq_l98, qq_l99, qq_l100, qq_l103, qq_l112, qq_l113, qq_l119, qq_l120, qq_l121, qq_l124, qq_l126, qq_l128, qq_l255, qq_l360, qq_l512, qq_l729, qq_zg, qq_zs, qq_zsJ, qq_zgT, qq_ltT, qq_ltF, qq_leT, qq_leF, qq_eqT, qq_eqF, qq_nltT, qq_ltnF, qq_nltnT, qq_nltnF, qq_nleT, qq_lenF, qq_nlenT, qq_nlenF, qq_eqnF, qq_neqF, qq_neqnF, qq_neqnT, nI_add, qq_subT, qq_subF, qq_addnT, qq_addnF, qq_naddT, qq_naddF, pk_mul, qq_and, qq_or, if_true, if_false, not_true, not_false_iff, qq_upd, qq_updE, qq_updN, reduceIte, eq_self, ne_eq, true_and, and_true, Nat.add_zero, Nat.zero_add, Nat.add_sub_cancel]
      rw [h1]
      exact e
    · by_cases h2 : H i = h
      · simp (disch := omega) only [h1, hH i hik, h2, decide_true, Bool.true_and, beq_self_eq_true, hik, qq_b1, qq_b2, qq_b3, qq_b4, qq_b5, qq_b6, qq_b7, qq_b8, qq_b9, qq_b10, qq_b11, qq_b12, qq_b13, qq_b18, qq_b19, qq_s0l, qq_s0r, qq_s1l, qq_s1r, qq_s2l, qq_s2r, qq_s3l, qq_s3r, qq_s6l, qq_s6r, qq_s7l, qq_s7r, qq_bt, qq_bf, qq_l0, qq_l1, qq_l2, qq_l3, qq_l4, qq_l5, qq_l6, qq_l7, qq_l8, qq_l9, qq_l10, qq_l11, qq_l12, qq_l13, qq_l14, qq_l15, qq_l20, qq_l30, qq_l31, qq_l36, qq_l37, qq_l38, qq_l39, qq_l40, qq_l41, qq_l42, qq_l43, qq_l45, qq_l47, qq_l48, qq_l49, qq_l50, qq_l57, qq_l58, qq_l59, qq_l60, qq_l61, qq_l62, qq_l63, qq_l80, qq_l81, qq_l97, qq_l98, qq_l99, qq_l100, qq_l103, qq_l112, qq_l113, qq_l119, qq_l120, qq_l121, qq_l124, qq_l126, qq_l128, qq_l255, qq_l360, qq_l512, qq_l729, qq_zg, qq_zs, qq_zsJ, qq_zgT, qq_ltT, qq_ltF, qq_leT, qq_leF, qq_eqT, qq_eqF, qq_nltT, qq_ltnF, qq_nltnT, qq_nltnF, qq_nleT, qq_lenF, qq_nlenT, qq_nlenF, qq_eqnF, qq_neqF, qq_neqnF, qq_neqnT, nI_add, qq_subT, qq_subF, qq_addnT, qq_addnF, qq_naddT, qq_naddF, pk_mul, qq_and, qq_or, if_true, if_false, not_true, not_false_iff, qq_upd, qq_updE, qq_updN, reduceIte, eq_self, ne_eq, true_and, and_true, Nat.add_zero, Nat.zero_add, Nat.add_sub_cancel]
      · have h3 : (H i == h) = false := by rw [beq_eq_false_iff_ne]; exact h2
        simp (disch := omega) only [h1, hH i hik, h3, decide_true, Bool.true_and, Bool.false_eq_true, qq_b1, qq_b2, qq_b3, qq_b4, qq_b5, qq_b6, qq_b7, qq_b8, qq_b9, qq_b10, qq_b11, qq_b12, qq_b13, qq_b18, qq_b19, qq_s0l, qq_s0r, qq_s1l, qq_s1r, qq_s2l, qq_s2r, qq_s3l, qq_s3r, qq_s6l, qq_s6r, qq_s7l, qq_s7r, qq_bt, qq_bf, qq_l0, qq_l1, qq_l2, qq_l3, qq_l4, qq_l5, qq_l6, qq_l7, qq_l8, qq_l9, qq_l10, qq_l11, qq_l12, qq_l13, qq_l14, qq_l15, qq_l20, qq_l30, qq_l31, qq_l36, qq_l37, qq_l38, qq_l39, qq_l40, qq_l41, qq_l42, qq_l43, qq_l45, qq_l47, qq_l48, qq_l49, qq_l50, qq_l57, qq_l58, qq_l59, qq_l60, qq_l61, qq_l62, qq_l63, qq_l80, qq_l81, qq_l97, qq_l98, qq_l99, qq_l100, qq_l103, qq_l112, qq_l113, qq_l119, qq_l120, qq_l121, qq_l124, qq_l126, qq_l128, qq_l255, qq_l360, qq_l512, qq_l729, qq_zg, qq_zs, qq_zsJ, qq_zgT, qq_ltT, qq_ltF, qq_leT, qq_leF, qq_eqT, qq_eqF, qq_nltT, qq_ltnF, qq_nltnT, qq_nltnF, qq_nleT, qq_lenF, qq_nlenT, qq_nlenF, qq_eqnF, qq_neqF, qq_neqnF, qq_neqnT, nI_add, qq_subT, qq_subF, qq_addnT, qq_addnF, qq_naddT, qq_naddF, pk_mul, qq_and, qq_or, if_true, if_false, not_true, not_false_iff, qq_upd, qq_updE, qq_updN, reduceIte, eq_self, ne_eq, true_and, and_true, Nat.add_zero, Nat.zero_add, Nat.add_sub_cancel]
        exact e
theorem qq_isOf {hts : Nat → Int32} {H : Nat → Nat} {P : Nat} (hH : qq_Ln hts H P) (hB : ∀ p, p < P → H p < 1000) (hP : P ≤ 9) (px : Int32) {h : Nat} (hh : h < 1000) : f_Crowd_isOfAnother (nI P) hts (nI h) px = some (qq_t (qq_oth H P px h)) := by
  have e := qq_othL hH hB hP px hh P 0 FU (by omega) (by rw [qq_FU]; omega)
  unfold f_Crowd_isOfAnother qq_oth
  by_cases hc : qq_fst (fun k => decide (¬ nI k = px) && (H k == h)) P 0 < P
  · rw [if_pos hc] at e
    rw [qq_tT (decide_eq_true hc)]
    simp (disch := omega) only [e, qq_b1, qq_b2, qq_b3, qq_b4, qq_b5, qq_b6, qq_b7, qq_b8, qq_b9, qq_b10, qq_b11, qq_b12, qq_b13, qq_b18, qq_b19, qq_s0l, qq_s0r, qq_s1l, qq_s1r, qq_s2l, qq_s2r, qq_s3l, qq_s3r, qq_s6l, qq_s6r, qq_s7l, qq_s7r, qq_bt, qq_bf, qq_l0, qq_l1, qq_l2, qq_l3, qq_l4, qq_l5, qq_l6, qq_l7, qq_l8, qq_l9, qq_l10, qq_l11, qq_l12, qq_l13, qq_l14, qq_l15, qq_l20, qq_l30, qq_l31, qq_l36, qq_l37, qq_l38, qq_l39, qq_l40, qq_l41, qq_l42, qq_l43, qq_l45, qq_l47, qq_l48, qq_l49, qq_l50, qq_l57, qq_l58, qq_l59, qq_l60, qq_l61, qq_l62, qq_l63, qq_l80, qq_l81, qq_l97, qq_l98, qq_l99, qq_l100, qq_l103, qq_l112, qq_l113, qq_l119, qq_l120, qq_l121, qq_l124, qq_l126, qq_l128, qq_l255, qq_l360, qq_l512, qq_l729, qq_zg, qq_zs, qq_zsJ, qq_zgT, qq_ltT, qq_ltF, qq_leT, qq_leF, qq_eqT, qq_eqF, qq_nltT, qq_ltnF, qq_nltnT, qq_nltnF, qq_nleT, qq_lenF, qq_nlenT, qq_nlenF, qq_eqnF, qq_neqF, qq_neqnF, qq_neqnT, nI_add, qq_subT, qq_subF, qq_addnT, qq_addnF, qq_naddT, qq_naddF, pk_mul, qq_and, qq_or, if_true, if_false, not_true, not_false_iff, qq_upd, qq_updE, qq_updN, reduceIte, eq_self, ne_eq, true_and, and_true, Nat.add_zero, Nat.zero_add, Nat.add_sub_cancel]
  · rw [if_neg hc] at e
    rw [qq_tF (decide_eq_false hc)]
    simp (disch := omega) only [e, qq_b1, qq_b2, qq_b3, qq_b4, qq_b5, qq_b6, qq_b7, qq_b8, qq_b9, qq_b10, qq_b11, qq_b12, qq_b13, qq_b18, qq_b19, qq_s0l, qq_s0r, qq_s1l, qq_s1r, qq_s2l, qq_s2r, qq_s3l, qq_s3r, qq_s6l, qq_s6r, qq_s7l, qq_s7r, qq_bt, qq_bf, qq_l0, qq_l1, qq_l2, qq_l3, qq_l4, qq_l5, qq_l6, qq_l7, qq_l8, qq_l9, qq_l10, qq_l11, qq_l12, qq_l13, qq_l14, qq_l15, qq_l20, qq_l30, qq_l31, qq_l36, qq_l37, qq_l38, qq_l39, qq_l40, qq_l41, qq_l42, qq_l43, qq_l45, qq_l47, qq_l48, qq_l49, qq_l50, qq_l57, qq_l58, qq_l59, qq_l60, qq_l61, qq_l62, qq_l63, qq_l80, qq_l81, qq_l97, qq_l98, qq_l99, qq_l100, qq_l103, qq_l112, qq_l113, qq_l119, qq_l120, qq_l121, qq_l124, qq_l126, qq_l128, qq_l255, qq_l360, qq_l512, qq_l729, qq_zg, qq_zs, qq_zsJ, qq_zgT, qq_ltT, qq_ltF, qq_leT, qq_leF, qq_eqT, qq_eqF, qq_nltT, qq_ltnF, qq_nltnT, qq_nltnF, qq_nleT, qq_lenF, qq_nlenT, qq_nlenF, qq_eqnF, qq_neqF, qq_neqnF, qq_neqnT, nI_add, qq_subT, qq_subF, qq_addnT, qq_addnF, qq_naddT, qq_naddF, pk_mul, qq_and, qq_or, if_true, if_false, not_true, not_false_iff, qq_upd, qq_updE, qq_updN, reduceIte, eq_self, ne_eq, true_and, and_true, Nat.add_zero, Nat.zero_add, Nat.add_sub_cancel]
set_option maxRecDepth 100000 in
set_option maxHeartbeats 4000000 in
theorem qq_mothL {hts : Nat → Int32} {H : Nat → Nat} {P : Nat} (hH : qq_Ln hts H P) (hB : ∀ p, p < P → H p < 1000) (hP : P ≤ 9) (px : Int32) {h : Nat} (hh : h < 1000) :
    ∀ d i fuel, i + d = P → d < fuel → f_M_isOthers_L3 (nI P) hts px (Int32.toInt64 (nI h)) fuel (nI i) = some (if qq_fst (fun k => decide (¬ nI k = px) && (H k == h)) d i < P then .inr (nI 1) else .inl ()) := by
  intro d
  induction d with
  | zero =>
    intro i fuel hi hf
    obtain ⟨f, rfl⟩ : ∃ f, fuel = f + 1 := ⟨fuel - 1, by omega⟩
    rw [f_M_isOthers_L3]
    simp (disch := omega) only [qq_b1, qq_b2, qq_b3, qq_b4, qq_b5, qq_b6, qq_b7, qq_b8, qq_b9, qq_b10, qq_b11, qq_b12, qq_b13, qq_b18, qq_b19, qq_s0l, qq_s0r, qq_s1l, qq_s1r, qq_s2l, qq_s2r, qq_s3l, qq_s3r, qq_s6l, qq_s6r, qq_s7l, qq_s7r, qq_bt, qq_bf, qq_l0, qq_l1, qq_l2, qq_l3, qq_l4, qq_l5, qq_l6, qq_l7, qq_l8, qq_l9, qq_l10, qq_l11, qq_l12, qq_l13, qq_l14, qq_l15, qq_l20, qq_l30, qq_l31, qq_l36, qq_l37, qq_l38, qq_l39, qq_l40, qq_l41, qq_l42, qq_l43, qq_l45, qq_l47, qq_l48, qq_l49, qq_l50, qq_l57, qq_l58, qq_l59, qq_l60, qq_l61, qq_l62, qq_l63, qq_l80, qq_l81, qq_l97, qq_l98, qq_l99, qq_l100, qq_l103, qq_l112, qq_l113, qq_l119, qq_l120, qq_l121, qq_l124, qq_l126, qq_l128, qq_l255, qq_l360, qq_l512, qq_l729, qq_zg, qq_zs, qq_zsJ, qq_zgT, qq_ltT, qq_ltF, qq_leT, qq_leF, qq_eqT, qq_eqF, qq_nltT, qq_ltnF, qq_nltnT, qq_nltnF, qq_nleT, qq_lenF, qq_nlenT, qq_nlenF, qq_eqnF, qq_neqF, qq_neqnF, qq_neqnT, nI_add, qq_subT, qq_subF, qq_addnT, qq_addnF, qq_naddT, qq_naddF, pk_mul, qq_and, qq_or, if_true, if_false, not_true, not_false_iff, qq_upd, qq_updE, qq_updN, reduceIte, eq_self, ne_eq, true_and, and_true, Nat.add_zero, Nat.zero_add, Nat.add_sub_cancel]
    rw [if_neg (by unfold qq_fst; omega)]
  | succ d ih =>
    intro i fuel hi hf
    obtain ⟨f, rfl⟩ : ∃ f, fuel = f + 1 := ⟨fuel - 1, by omega⟩
    rw [f_M_isOthers_L3, qq_fst]
    have hik : i < P := by omega
    have hBi := hB i hik
    have e := ih (i + 1) f (by omega) (by omega)
    by_cases h1 : nI i = px
    · simp (disch := omega) only [h1, decide_false, Bool.false_and, Bool.false_eq_true, qq_b1, qq_b2, qq_b3, qq_b4, qq_b5, qq_b6, qq_b7, qq_b8, qq_b9, qq_b10, qq_b11, qq_b12, qq_b13, qq_b18, qq_b19, qq_s0l, qq_s0r, qq_s1l, qq_s1r, qq_s2l, qq_s2r, qq_s3l, qq_s3r, qq_s6l, qq_s6r, qq_s7l, qq_s7r, qq_bt, qq_bf, qq_l0, qq_l1, qq_l2, qq_l3, qq_l4, qq_l5, qq_l6, qq_l7, qq_l8, qq_l9, qq_l10, qq_l11, qq_l12, qq_l13, qq_l14, qq_l15, qq_l20, qq_l30, qq_l31, qq_l36, qq_l37, qq_l38, qq_l39, qq_l40, qq_l41, qq_l42, qq_l43, qq_l45, qq_l47, qq_l48, qq_l49, qq_l50, qq_l57, qq_l58, qq_l59, qq_l60, qq_l61, qq_l62, qq_l63, qq_l80, qq_l81, qq_l97, qq_l98, qq_l99, qq_l100, qq_l103, qq_l112, qq_l113, qq_l119, qq_l120, qq_l121, qq_l124, qq_l126, qq_l128, qq_l255, qq_l360, qq_l512, qq_l729, qq_zg, qq_zs, qq_zsJ, qq_zgT, qq_ltT, qq_ltF, qq_leT, qq_leF, qq_eqT, qq_eqF, qq_nltT, qq_ltnF, qq_nltnT, qq_nltnF, qq_nleT, qq_lenF, qq_nlenT, qq_nlenF, qq_eqnF, qq_neqF, qq_neqnF, qq_neqnT, nI_add, qq_subT, qq_subF, qq_addnT, qq_addnF, qq_naddT, qq_naddF, pk_mul, qq_and, qq_or, if_true, if_false, not_true, not_false_iff, qq_upd, qq_updE, qq_updN, reduceIte, eq_self, ne_eq, true_and, and_true, Nat.add_zero, Nat.zero_add, Nat.add_sub_cancel]
      rw [← h1]
      simp (disch := omega) only [qq_b1, qq_b2, qq_b3, qq_b4, qq_b5, qq_b6, qq_b7, qq_b8, qq_b9, qq_b10, qq_b11, qq_b12, qq_b13, qq_b18, qq_b19, qq_s0l, qq_s0r, qq_s1l, qq_s1r, qq_s2l, qq_s2r, qq_s3l, qq_s3r, qq_s6l, qq_s6r, qq_s7l, qq_s7r, qq_bt, qq_bf, qq_l0, qq_l1, qq_l2, qq_l3, qq_l4, qq_l5, qq_l6, qq_l7, qq_l8, qq_l9, qq_l10, qq_l11, qq_l12, qq_l13, qq_l14, qq_l15, qq_l20, qq_l30, qq_l31, qq_l36, qq_l37, qq_l38, qq_l39, qq_l40, qq_l41, qq_l42, qq_l43, qq_l45, qq_l47, qq_l48, qq_l49, qq_l50, qq_l57, qq_l58, qq_l59, qq_l60, qq_l61, qq_l62, qq_l63, qq_l80, qq_l81, qq_l97, qq_l98, qq_l99, qq_l100, qq_l103, qq_l112, qq_l113, qq_l119, qq_l120, qq_l121, qq_l124, qq_l126, qq_l128, qq_l255, qq_l360, qq_l512, qq_l729, qq_zg, qq_zs, qq_zsJ, qq_zgT, qq_ltT, qq_ltF, qq_leT, qq_leF, qq_eqT, qq_eqF, qq_nltT, qq_ltnF, qq_nltnT, qq_nltnF, qq_nleT, qq_lenF, qq_nlenT, qq_nlenF, qq_eqnF, qq_neqF, qq_neqnF, qq_neqnT, nI_add, qq_subT, qq_subF, qq_addnT, qq_addnF, qq_naddT, qq_naddF, pk_mul, qq_and, qq_or, if_true, if_false, not_true, not_false_iff, qq_upd, qq_updE, qq_updN, reduceIte, eq_self, ne_eq, true_and, and_true, Nat.add_zero, Nat.zero_add, Nat.add_sub_cancel]
      rw [h1]
      exact e
    · have hc := qq_fcmp (j := H i) (k := h) (by omega) (by omega)
      have hc2 : (lg_cmp (Int32.toInt64 (nI h)) (Int32.toInt64 (nI h)) = nI 0) = True := (qq_fcmp (j := h) (k := h) (by omega) (by omega)).trans (eq_self h)
      by_cases h2 : H i = h
      · simp (disch := omega) only [h1, hH i hik, hc2, h2, decide_true, Bool.true_and, beq_self_eq_true, hik, qq_b1, qq_b2, qq_b3, qq_b4, qq_b5, qq_b6, qq_b7, qq_b8, qq_b9, qq_b10, qq_b11, qq_b12, qq_b13, qq_b18, qq_b19, qq_s0l, qq_s0r, qq_s1l, qq_s1r, qq_s2l, qq_s2r, qq_s3l, qq_s3r, qq_s6l, qq_s6r, qq_s7l, qq_s7r, qq_bt, qq_bf, qq_l0, qq_l1, qq_l2, qq_l3, qq_l4, qq_l5, qq_l6, qq_l7, qq_l8, qq_l9, qq_l10, qq_l11, qq_l12, qq_l13, qq_l14, qq_l15, qq_l20, qq_l30, qq_l31, qq_l36, qq_l37, qq_l38, qq_l39, qq_l40, qq_l41, qq_l42, qq_l43, qq_l45, qq_l47, qq_l48, qq_l49, qq_l50, qq_l57, qq_l58, qq_l59, qq_l60, qq_l61, qq_l62, qq_l63, qq_l80, qq_l81, qq_l97, qq_l98, qq_l99, qq_l100, qq_l103, qq_l112, qq_l113, qq_l119, qq_l120, qq_l121, qq_l124, qq_l126, qq_l128, qq_l255, qq_l360, qq_l512, qq_l729, qq_zg, qq_zs, qq_zsJ, qq_zgT, qq_ltT, qq_ltF, qq_leT, qq_leF, qq_eqT, qq_eqF, qq_nltT, qq_ltnF, qq_nltnT, qq_nltnF, qq_nleT, qq_lenF, qq_nlenT, qq_nlenF, qq_eqnF, qq_neqF, qq_neqnF, qq_neqnT, nI_add, qq_subT, qq_subF, qq_addnT, qq_addnF, qq_naddT, qq_naddF, pk_mul, qq_and, qq_or, if_true, if_false, not_true, not_false_iff, qq_upd, qq_updE, qq_updN, reduceIte, eq_self, ne_eq, true_and, and_true, Nat.add_zero, Nat.zero_add, Nat.add_sub_cancel]
      · have h3 : (H i == h) = false := by rw [beq_eq_false_iff_ne]; exact h2
        simp (disch := omega) only [h1, hH i hik, hc, h2, h3, decide_true, Bool.true_and, Bool.false_eq_true, qq_b1, qq_b2, qq_b3, qq_b4, qq_b5, qq_b6, qq_b7, qq_b8, qq_b9, qq_b10, qq_b11, qq_b12, qq_b13, qq_b18, qq_b19, qq_s0l, qq_s0r, qq_s1l, qq_s1r, qq_s2l, qq_s2r, qq_s3l, qq_s3r, qq_s6l, qq_s6r, qq_s7l, qq_s7r, qq_bt, qq_bf, qq_l0, qq_l1, qq_l2, qq_l3, qq_l4, qq_l5, qq_l6, qq_l7, qq_l8, qq_l9, qq_l10, qq_l11, qq_l12, qq_l13, qq_l14, qq_l15, qq_l20, qq_l30, qq_l31, qq_l36, qq_l37, qq_l38, qq_l39, qq_l40, qq_l41, qq_l42, qq_l43, qq_l45, qq_l47, qq_l48, qq_l49, qq_l50, qq_l57, qq_l58, qq_l59, qq_l60, qq_l61, qq_l62, qq_l63, qq_l80, qq_l81, qq_l97, qq_l98, qq_l99, qq_l100, qq_l103, qq_l112, qq_l113, qq_l119, qq_l120, qq_l121, qq_l124, qq_l126, qq_l128, qq_l255, qq_l360, qq_l512, qq_l729, qq_zg, qq_zs, qq_zsJ, qq_zgT, qq_ltT, qq_ltF, qq_leT, qq_leF, qq_eqT, qq_eqF, qq_nltT, qq_ltnF, qq_nltnT, qq_nltnF, qq_nleT, qq_lenF, qq_nlenT, qq_nlenF, qq_eqnF, qq_neqF, qq_neqnF, qq_neqnT, nI_add, qq_subT, qq_subF, qq_addnT, qq_addnF, qq_naddT, qq_naddF, pk_mul, qq_and, qq_or, if_true, if_false, not_true, not_false_iff, qq_upd, qq_updE, qq_updN, reduceIte, eq_self, ne_eq, true_and, and_true, Nat.add_zero, Nat.zero_add, Nat.add_sub_cancel]
        exact e
theorem qq_isOthers {hts : Nat → Int32} {H : Nat → Nat} {P : Nat} (hH : qq_Ln hts H P) (hB : ∀ p, p < P → H p < 1000) (hP : P ≤ 9) (px : Int32) {h : Nat} (hh : h < 1000) : f_M_isOthers (nI P) hts px (Int32.toInt64 (nI h)) = some (qq_t (qq_oth H P px h)) := by
  have e := qq_mothL hH hB hP px hh P 0 FU (by omega) (by rw [qq_FU]; omega)
  unfold f_M_isOthers qq_oth
  by_cases hc : qq_fst (fun k => decide (¬ nI k = px) && (H k == h)) P 0 < P
  · rw [if_pos hc] at e
    rw [qq_tT (decide_eq_true hc)]
    simp (disch := omega) only [e, qq_b1, qq_b2, qq_b3, qq_b4, qq_b5, qq_b6, qq_b7, qq_b8, qq_b9, qq_b10, qq_b11, qq_b12, qq_b13, qq_b18, qq_b19, qq_s0l, qq_s0r, qq_s1l, qq_s1r, qq_s2l, qq_s2r, qq_s3l, qq_s3r, qq_s6l, qq_s6r, qq_s7l, qq_s7r, qq_bt, qq_bf, qq_l0, qq_l1, qq_l2, qq_l3, qq_l4, qq_l5, qq_l6, qq_l7, qq_l8, qq_l9, qq_l10, qq_l11, qq_l12, qq_l13, qq_l14, qq_l15, qq_l20, qq_l30, qq_l31, qq_l36, qq_l37, qq_l38, qq_l39, qq_l40, qq_l41, qq_l42, qq_l43, qq_l45, qq_l47, qq_l48, qq_l49, qq_l50, qq_l57, qq_l58, qq_l59, qq_l60, qq_l61, qq_l62, qq_l63, qq_l80, qq_l81, qq_l97, qq_l98, qq_l99, qq_l100, qq_l103, qq_l112, qq_l113, qq_l119, qq_l120, qq_l121, qq_l124, qq_l126, qq_l128, qq_l255, qq_l360, qq_l512, qq_l729, qq_zg, qq_zs, qq_zsJ, qq_zgT, qq_ltT, qq_ltF, qq_leT, qq_leF, qq_eqT, qq_eqF, qq_nltT, qq_ltnF, qq_nltnT, qq_nltnF, qq_nleT, qq_lenF, qq_nlenT, qq_nlenF, qq_eqnF, qq_neqF, qq_neqnF, qq_neqnT, nI_add, qq_subT, qq_subF, qq_addnT, qq_addnF, qq_naddT, qq_naddF, pk_mul, qq_and, qq_or, if_true, if_false, not_true, not_false_iff, qq_upd, qq_updE, qq_updN, reduceIte, eq_self, ne_eq, true_and, and_true, Nat.add_zero, Nat.zero_add, Nat.add_sub_cancel]
  · rw [if_neg hc] at e
    rw [qq_tF (decide_eq_false hc)]
    simp (disch := omega) only [e, qq_b1, qq_b2, qq_b3, qq_b4, qq_b5, qq_b6, qq_b7, qq_b8, qq_b9, qq_b10, qq_b11, qq_b12, qq_b13, qq_b18, qq_b19, qq_s0l, qq_s0r, qq_s1l, qq_s1r, qq_s2l, qq_s2r, qq_s3l, qq_s3r, qq_s6l, qq_s6r, qq_s7l, qq_s7r, qq_bt, qq_bf, qq_l0, qq_l1, qq_l2, qq_l3, qq_l4, qq_l5, qq_l6, qq_l7, qq_l8, qq_l9, qq_l10, qq_l11, qq_l12, qq_l13, qq_l14, qq_l15, qq_l20, qq_l30, qq_l31, qq_l36, qq_l37, qq_l38, qq_l39, qq_l40, qq_l41, qq_l42, qq_l43, qq_l45, qq_l47, qq_l48, qq_l49, qq_l50, qq_l57, qq_l58, qq_l59, qq_l60, qq_l61, qq_l62, qq_l63, qq_l80, qq_l81, qq_l97, qq_l98, qq_l99, qq_l100, qq_l103, qq_l112, qq_l113, qq_l119, qq_l120, qq_l121, qq_l124, qq_l126, qq_l128, qq_l255, qq_l360, qq_l512, qq_l729, qq_zg, qq_zs, qq_zsJ, qq_zgT, qq_ltT, qq_ltF, qq_leT, qq_leF, qq_eqT, qq_eqF, qq_nltT, qq_ltnF, qq_nltnT, qq_nltnF, qq_nleT, qq_lenF, qq_nlenT, qq_nlenF, qq_eqnF, qq_neqF, qq_neqnF, qq_neqnT, nI_add, qq_subT, qq_subF, qq_addnT, qq_addnF, qq_naddT, qq_naddF, pk_mul, qq_and, qq_or, if_true, if_false, not_true, not_false_iff, qq_upd, qq_updE, qq_updN, reduceIte, eq_self, ne_eq, true_and, and_true, Nat.add_zero, Nat.zero_add, Nat.add_sub_cancel]
theorem qq_isFree {hts : Nat → Int32} {H : Nat → Nat} {P : Nat} (hH : qq_Ln hts H P) (hB : ∀ p, p < P → H p < 1000) (hP : P ≤ 9) (px : Int32) {h : Nat} (h1 : 1 ≤ h) (hh : h ≤ 99) : f_Crowd_isFree (nI P) hts (nI h) px = some (qq_t (!qq_oth H P px h)) := by
  unfold f_Crowd_isFree
  simp (disch := omega) only [qq_isOf hH hB hP, qq_b1, qq_b2, qq_b3, qq_b4, qq_b5, qq_b6, qq_b7, qq_b8, qq_b9, qq_b10, qq_b11, qq_b12, qq_b13, qq_b18, qq_b19, qq_s0l, qq_s0r, qq_s1l, qq_s1r, qq_s2l, qq_s2r, qq_s3l, qq_s3r, qq_s6l, qq_s6r, qq_s7l, qq_s7r, qq_bt, qq_bf, qq_l0, qq_l1, qq_l2, qq_l3, qq_l4, qq_l5, qq_l6, qq_l7, qq_l8, qq_l9, qq_l10, qq_l11, qq_l12, qq_l13, qq_l14, qq_l15, qq_l20, qq_l30, qq_l31, qq_l36, qq_l37, qq_l38, qq_l39, qq_l40, qq_l41, qq_l42, qq_l43, qq_l45, qq_l47, qq_l48, qq_l49, qq_l50, qq_l57, qq_l58, qq_l59, qq_l60, qq_l61, qq_l62, qq_l63, qq_l80, qq_l81, qq_l97, qq_l98, qq_l99, qq_l100, qq_l103, qq_l112, qq_l113, qq_l119, qq_l120, qq_l121, qq_l124, qq_l126, qq_l128, qq_l255, qq_l360, qq_l512, qq_l729, qq_zg, qq_zs, qq_zsJ, qq_zgT, qq_ltT, qq_ltF, qq_leT, qq_leF, qq_eqT, qq_eqF, qq_nltT, qq_ltnF, qq_nltnT, qq_nltnF, qq_nleT, qq_lenF, qq_nlenT, qq_nlenF, qq_eqnF, qq_neqF, qq_neqnF, qq_neqnT, nI_add, qq_subT, qq_subF, qq_addnT, qq_addnF, qq_naddT, qq_naddF, pk_mul, qq_and, qq_or, if_true, if_false, not_true, not_false_iff, qq_upd, qq_updE, qq_updN, reduceIte, eq_self, ne_eq, true_and, and_true, Nat.add_zero, Nat.zero_add, Nat.add_sub_cancel]
  cases qq_oth H P px h with
  | true => simp (disch := omega) only [Bool.not_true, qq_b1, qq_b2, qq_b3, qq_b4, qq_b5, qq_b6, qq_b7, qq_b8, qq_b9, qq_b10, qq_b11, qq_b12, qq_b13, qq_b18, qq_b19, qq_s0l, qq_s0r, qq_s1l, qq_s1r, qq_s2l, qq_s2r, qq_s3l, qq_s3r, qq_s6l, qq_s6r, qq_s7l, qq_s7r, qq_bt, qq_bf, qq_l0, qq_l1, qq_l2, qq_l3, qq_l4, qq_l5, qq_l6, qq_l7, qq_l8, qq_l9, qq_l10, qq_l11, qq_l12, qq_l13, qq_l14, qq_l15, qq_l20, qq_l30, qq_l31, qq_l36, qq_l37, qq_l38, qq_l39, qq_l40, qq_l41, qq_l42, qq_l43, qq_l45, qq_l47, qq_l48, qq_l49, qq_l50, qq_l57, qq_l58, qq_l59, qq_l60, qq_l61, qq_l62, qq_l63, qq_l80, qq_l81, qq_l97, qq_l98, qq_l99, qq_l100, qq_l103, qq_l112, qq_l113, qq_l119, qq_l120, qq_l121, qq_l124, qq_l126, qq_l128, qq_l255, qq_l360, qq_l512, qq_l729, qq_zg, qq_zs, qq_zsJ, qq_zgT, qq_ltT, qq_ltF, qq_leT, qq_leF, qq_eqT, qq_eqF, qq_nltT, qq_ltnF, qq_nltnT, qq_nltnF, qq_nleT, qq_lenF, qq_nlenT, qq_nlenF, qq_eqnF, qq_neqF, qq_neqnF, qq_neqnT, nI_add, qq_subT, qq_subF, qq_addnT, qq_addnF, qq_naddT, qq_naddF, pk_mul, qq_and, qq_or, if_true, if_false, not_true, not_false_iff, qq_upd, qq_updE, qq_updN, reduceIte, eq_self, ne_eq, true_and, and_true, Nat.add_zero, Nat.zero_add, Nat.add_sub_cancel]
  | false => simp (disch := omega) only [Bool.not_false, qq_b1, qq_b2, qq_b3, qq_b4, qq_b5, qq_b6, qq_b7, qq_b8, qq_b9, qq_b10, qq_b11, qq_b12, qq_b13, qq_b18, qq_b19, qq_s0l, qq_s0r, qq_s1l, qq_s1r, qq_s2l, qq_s2r, qq_s3l, qq_s3r, qq_s6l, qq_s6r, qq_s7l, qq_s7r, qq_bt, qq_bf, qq_l0, qq_l1, qq_l2, qq_l3, qq_l4, qq_l5, qq_l6, qq_l7, qq_l8, qq_l9, qq_l10, qq_l11, qq_l12, qq_l13, qq_l14, qq_l15, qq_l20, qq_l30, qq_l31, qq_l36, qq_l37, qq_l38, qq_l39, qq_l40, qq_l41, qq_l42, qq_l43, qq_l45, qq_l47, qq_l48, qq_l49, qq_l50, qq_l57, qq_l58, qq_l59, qq_l60, qq_l61, qq_l62, qq_l63, qq_l80, qq_l81, qq_l97, qq_l98, qq_l99, qq_l100, qq_l103, qq_l112, qq_l113, qq_l119, qq_l120, qq_l121, qq_l124, qq_l126, qq_l128, qq_l255, qq_l360, qq_l512, qq_l729, qq_zg, qq_zs, qq_zsJ, qq_zgT, qq_ltT, qq_ltF, qq_leT, qq_leF, qq_eqT, qq_eqF, qq_nltT, qq_ltnF, qq_nltnT, qq_nltnF, qq_nleT, qq_lenF, qq_nlenT, qq_nlenF, qq_eqnF, qq_neqF, qq_neqnF, qq_neqnT, nI_add, qq_subT, qq_subF, qq_addnT, qq_addnF, qq_naddT, qq_naddF, pk_mul, qq_and, qq_or, if_true, if_false, not_true, not_false_iff, qq_upd, qq_updE, qq_updN, reduceIte, eq_self, ne_eq, true_and, and_true, Nat.add_zero, Nat.zero_add, Nat.add_sub_cancel]
theorem qq_isFree0 {hts : Nat → Int32} {P : Nat} (px : Int32) {h : Nat} (h1 : h = 0 ∨ 99 < h ∧ h < 2147483648) : f_Crowd_isFree (nI P) hts (nI h) px = some (nI 0) := by
  unfold f_Crowd_isFree
  rcases h1 with h1 | h1
  · simp (disch := omega) only [qq_b1, qq_b2, qq_b3, qq_b4, qq_b5, qq_b6, qq_b7, qq_b8, qq_b9, qq_b10, qq_b11, qq_b12, qq_b13, qq_b18, qq_b19, qq_s0l, qq_s0r, qq_s1l, qq_s1r, qq_s2l, qq_s2r, qq_s3l, qq_s3r, qq_s6l, qq_s6r, qq_s7l, qq_s7r, qq_bt, qq_bf, qq_l0, qq_l1, qq_l2, qq_l3, qq_l4, qq_l5, qq_l6, qq_l7, qq_l8, qq_l9, qq_l10, qq_l11, qq_l12, qq_l13, qq_l14, qq_l15, qq_l20, qq_l30, qq_l31, qq_l36, qq_l37, qq_l38, qq_l39, qq_l40, qq_l41, qq_l42, qq_l43, qq_l45, qq_l47, qq_l48, qq_l49, qq_l50, qq_l57, qq_l58, qq_l59, qq_l60, qq_l61, qq_l62, qq_l63, qq_l80, qq_l81, qq_l97, qq_l98, qq_l99, qq_l100, qq_l103, qq_l112, qq_l113, qq_l119, qq_l120, qq_l121, qq_l124, qq_l126, qq_l128, qq_l255, qq_l360, qq_l512, qq_l729, qq_zg, qq_zs, qq_zsJ, qq_zgT, qq_ltT, qq_ltF, qq_leT, qq_leF, qq_eqT, qq_eqF, qq_nltT, qq_ltnF, qq_nltnT, qq_nltnF, qq_nleT, qq_lenF, qq_nlenT, qq_nlenF, qq_eqnF, qq_neqF, qq_neqnF, qq_neqnT, nI_add, qq_subT, qq_subF, qq_addnT, qq_addnF, qq_naddT, qq_naddF, pk_mul, qq_and, qq_or, if_true, if_false, not_true, not_false_iff, qq_upd, qq_updE, qq_updN, reduceIte, eq_self, ne_eq, true_and, and_true, Nat.add_zero, Nat.zero_add, Nat.add_sub_cancel]
  · simp (disch := omega) only [qq_b1, qq_b2, qq_b3, qq_b4, qq_b5, qq_b6, qq_b7, qq_b8, qq_b9, qq_b10, qq_b11, qq_b12, qq_b13, qq_b18, qq_b19, qq_s0l, qq_s0r, qq_s1l, qq_s1r, qq_s2l, qq_s2r, qq_s3l, qq_s3r, qq_s6l, qq_s6r, qq_s7l, qq_s7r, qq_bt, qq_bf, qq_l0, qq_l1, qq_l2, qq_l3, qq_l4, qq_l5, qq_l6, qq_l7, qq_l8, qq_l9, qq_l10, qq_l11, qq_l12, qq_l13, qq_l14, qq_l15, qq_l20, qq_l30, qq_l31, qq_l36, qq_l37, qq_l38, qq_l39, qq_l40, qq_l41, qq_l42, qq_l43, qq_l45, qq_l47, qq_l48, qq_l49, qq_l50, qq_l57, qq_l58, qq_l59, qq_l60, qq_l61, qq_l62, qq_l63, qq_l80, qq_l81, qq_l97, qq_l98, qq_l99, qq_l100, qq_l103, qq_l112, qq_l113, qq_l119, qq_l120, qq_l121, qq_l124, qq_l126, qq_l128, qq_l255, qq_l360, qq_l512, qq_l729, qq_zg, qq_zs, qq_zsJ, qq_zgT, qq_ltT, qq_ltF, qq_leT, qq_leF, qq_eqT, qq_eqF, qq_nltT, qq_ltnF, qq_nltnT, qq_nltnF, qq_nleT, qq_lenF, qq_nlenT, qq_nlenF, qq_eqnF, qq_neqF, qq_neqnF, qq_neqnT, nI_add, qq_subT, qq_subF, qq_addnT, qq_addnF, qq_naddT, qq_naddF, pk_mul, qq_and, qq_or, if_true, if_false, not_true, not_false_iff, qq_upd, qq_updE, qq_updN, reduceIte, eq_self, ne_eq, true_and, and_true, Nat.add_zero, Nat.zero_add, Nat.add_sub_cancel]
theorem qq_isFreeN {hts : Nat → Int32} {P : Nat} (px : Int32) {h : Nat} (h1 : 0 < h ∧ h ≤ 2147483648) : f_Crowd_isFree (nI P) hts (-nI h) px = some (nI 0) := by
  unfold f_Crowd_isFree
  simp (disch := omega) only [qq_b1, qq_b2, qq_b3, qq_b4, qq_b5, qq_b6, qq_b7, qq_b8, qq_b9, qq_b10, qq_b11, qq_b12, qq_b13, qq_b18, qq_b19, qq_s0l, qq_s0r, qq_s1l, qq_s1r, qq_s2l, qq_s2r, qq_s3l, qq_s3r, qq_s6l, qq_s6r, qq_s7l, qq_s7r, qq_bt, qq_bf, qq_l0, qq_l1, qq_l2, qq_l3, qq_l4, qq_l5, qq_l6, qq_l7, qq_l8, qq_l9, qq_l10, qq_l11, qq_l12, qq_l13, qq_l14, qq_l15, qq_l20, qq_l30, qq_l31, qq_l36, qq_l37, qq_l38, qq_l39, qq_l40, qq_l41, qq_l42, qq_l43, qq_l45, qq_l47, qq_l48, qq_l49, qq_l50, qq_l57, qq_l58, qq_l59, qq_l60, qq_l61, qq_l62, qq_l63, qq_l80, qq_l81, qq_l97, qq_l98, qq_l99, qq_l100, qq_l103, qq_l112, qq_l113, qq_l119, qq_l120, qq_l121, qq_l124, qq_l126, qq_l128, qq_l255, qq_l360, qq_l512, qq_l729, qq_zg, qq_zs, qq_zsJ, qq_zgT, qq_ltT, qq_ltF, qq_leT, qq_leF, qq_eqT, qq_eqF, qq_nltT, qq_ltnF, qq_nltnT, qq_nltnF, qq_nleT, qq_lenF, qq_nlenT, qq_nlenF, qq_eqnF, qq_neqF, qq_neqnF, qq_neqnT, nI_add, qq_subT, qq_subF, qq_addnT, qq_addnF, qq_naddT, qq_naddF, pk_mul, qq_and, qq_or, if_true, if_false, not_true, not_false_iff, qq_upd, qq_updE, qq_updN, reduceIte, eq_self, ne_eq, true_and, and_true, Nat.add_zero, Nat.zero_add, Nat.add_sub_cancel]
theorem qq_misPersonT {n j : Nat} (h : j < n ∧ n < 1000) : f_M_isPerson (nI n) (nI j) = nI 1 := by
  unfold f_M_isPerson
  rw [qq_l1, qq_subT (by omega)]
  refine qq_wiT (by omega) ?_
  rw [Int32.toInt_toInt64, qq_toI (by omega)]
  exact ⟨by show (0 : Int) ≤ _; omega, by omega⟩
theorem qq_misPersonF {n j : Nat} (h : n ≤ j ∧ j < 2147483648) (h9 : n < 1000) : f_M_isPerson (nI n) (nI j) = nI 0 := by
  unfold f_M_isPerson
  refine qq_wiF (by omega) ?_
  rcases Nat.eq_zero_or_pos n with e | e
  · subst e
    right
    rw [qq_l1, qq_subF (by omega), Int32.toInt_toInt64, qq_toN (by omega)]
    omega
  · right
    rw [qq_l1, qq_subT (by omega), Int32.toInt_toInt64, qq_toI (by omega)]
    omega
theorem qq_misPersonN {n j : Nat} (h : 0 < j ∧ j ≤ 2147483648) : f_M_isPerson (nI n) (-nI j) = nI 0 := by
  unfold f_M_isPerson
  refine qq_wnF (by omega) ?_
  show -(j : Int) < 0
  omega
/-- an argument as a person: in, or out -/
theorem qq_pcase (x : Int32) (P : Nat) (hP : P ≤ 9) : (∃ p, p < P ∧ x = nI p) ∨ (f_Crowd_isPerson (nI P) x = nI 0 ∧ f_M_isPerson (nI P) x = nI 0) := by
  rcases qq_ix x with ⟨j, hj, rfl⟩ | ⟨j, h0, hj, rfl⟩
  · rcases Nat.lt_or_ge j P with h | h
    · exact Or.inl ⟨j, h, rfl⟩
    · exact Or.inr ⟨qq_isPersonF ⟨h, hj⟩, qq_misPersonF ⟨h, hj⟩ (by omega)⟩
  · exact Or.inr ⟨qq_isPersonN ⟨h0, hj⟩, qq_misPersonN ⟨h0, hj⟩⟩
/-- a place -/
theorem qq_plcase (x : Int32) (n : Nat) (hn : n ≤ 9) : (∃ p, p < n ∧ x = nI p) ∨ (f_Line_isPlace (nI n) x = nI 0 ∧ f_M_isPlace (nI n) x = nI 0) := by
  rcases qq_ix x with ⟨j, hj, rfl⟩ | ⟨j, h0, hj, rfl⟩
  · rcases Nat.lt_or_ge j n with h | h
    · exact Or.inl ⟨j, h, rfl⟩
    · exact Or.inr ⟨qq_isPlaceF ⟨h, hj⟩, qq_misPlaceF ⟨h, hj⟩ (by omega)⟩
  · exact Or.inr ⟨qq_isPlaceN ⟨h0, hj⟩, qq_misPlaceN ⟨h0, hj⟩⟩
/-- a range of an argument, as the reference tells it -/
theorem qq_wcase (x : Int32) {a b : Int64} {l m : Nat} (ha : a.toInt = l) (hb : b.toInt = m) : (∃ j, l ≤ j ∧ j ≤ m ∧ j < 2147483648 ∧ x = nI j ∧ f_M_within (Int32.toInt64 x) a b = nI 1) ∨ (f_M_within (Int32.toInt64 x) a b = nI 0 ∧ ((∃ j, j < 2147483648 ∧ x = nI j ∧ (j < l ∨ m < j)) ∨ ∃ j, 0 < j ∧ j ≤ 2147483648 ∧ x = -nI j)) := by
  rcases qq_ix x with ⟨j, hj, rfl⟩ | ⟨j, h0, hj, rfl⟩
  · by_cases h : l ≤ j ∧ j ≤ m
    · exact Or.inl ⟨j, h.1, h.2, hj, rfl, qq_wiT hj (by omega)⟩
    · exact Or.inr ⟨qq_wiF hj (by omega), Or.inl ⟨j, hj, rfl, by omega⟩⟩
  · exact Or.inr ⟨qq_wnF hj (by omega), Or.inr ⟨j, h0, hj, rfl⟩⟩
