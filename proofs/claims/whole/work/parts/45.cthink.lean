/-! LAYER (c): in thought (by wip/whole/c/c.py) -/
theorem qq_swp2 (q : Nat → Nat) (i j t : Nat) : qq_swp (qq_swp q i j) i j t = q t := by
  unfold qq_swp
  by_cases h1 : t = j
  · subst h1
    by_cases h2 : i = t
    · subst h2; simp
    · simp [h2]
  · by_cases h2 : t = i
    · subst h2; simp [h1]
    · simp [h1, h2]
theorem qq_Ln_congr {who : Nat → Int32} {q r : Nat → Nat} {n : Nat} (h : qq_Ln who q n) (e : ∀ i, i < n → q i = r i) : qq_Ln who r n := fun i hi => by rw [h i hi, e i hi]
/-- CALM: the least disquiet, the places -/
def qq_clJ (c : Nat → Nat → Nat → Bool) (q : Nat → Nat) (n i : Nat) : Nat → Nat → Nat × Int32 → Nat × Int32
  | 0, _, s => s
  | d + 1, j, s => qq_clJ c q n i d (j + 1) (if qq_dis c (qq_swp q i j) n < s.1 then (qq_dis c (qq_swp q i j) n, nI (10 * i + j)) else s)
def qq_clI (c : Nat → Nat → Nat → Bool) (q : Nat → Nat) (n : Nat) : Nat → Nat → Nat × Int32 → Nat × Int32
  | 0, _, s => s
  | d + 1, i, s => qq_clI c q n d (i + 1) (qq_clJ c q n i (n - (i + 1)) (i + 1) s)
def qq_clP (s : Nat × Int32) : Prop := s.1 < 1000 ∧ (s.2 = -nI 2 ∨ ∃ t, t < 1000 ∧ s.2 = nI t)
theorem qq_clJ_P {c : Nat → Nat → Nat → Bool} {q : Nat → Nat} {n i : Nat} (hn : n ≤ 9) (hi : i < 9) : ∀ d j s, j + d ≤ 9 → qq_clP s → qq_clP (qq_clJ c q n i d j s)
  | 0, _, _, _, h => h
  | d + 1, j, s, hj, h => by
    unfold qq_clJ
    refine qq_clJ_P hn hi d (j + 1) _ (by omega) ?_
    split
    · exact ⟨by have := qq_dis_le c (qq_swp q i j) hn; show _ < 1000; omega, Or.inr ⟨10 * i + j, by omega, rfl⟩⟩
    · exact h
theorem qq_clI_P {c : Nat → Nat → Nat → Bool} {q : Nat → Nat} {n : Nat} (hn : n ≤ 9) : ∀ d i s, i + d ≤ n → qq_clP s → qq_clP (qq_clI c q n d i s)
  | 0, _, _, _, h => h
  | d + 1, i, s, hi, h => by
    unfold qq_clI
    exact qq_clI_P hn d (i + 1) _ (by omega) (qq_clJ_P hn (by omega) _ _ _ (by omega) h)
set_option maxRecDepth 100000 in
set_option maxHeartbeats 4000000 in
theorem qq_calmJ {tl : Int32} {ts : Nat → Int32} {lv : Nat → Nat → Nat → Nat → Nat → Bool} (hT : qq_LT tl ts lv) {hts : Nat → Int32} {H : Nat → Nat} {P : Nat} (hH : qq_Ln hts H P) (hB : ∀ p, p < P → H p < 1000) (hP : P ≤ 9) {q : Nat → Nat} {n i : Nat} (hV : qq_Vl q n P) (hn : n ≤ 9) (hi : i < n) :
    ∀ d j fuel (top : Int32) (worked known who : Nat → Int32) (s : Nat × Int32), j + d = n → d < fuel → qq_Kn known lv H P → qq_Ln who q n → qq_clP s → ∃ (top1 : Int32) (worked1 known1 who1 : Nat → Int32), f_Thoughts_calmest_L42 (nI P) hts tl ts (nI n) (nI i) fuel top worked known who (nI s.1) s.2 (nI j) = some (top1, worked1, known1, who1, nI (qq_clJ (qq_cs lv H) q n i d j s).1, (qq_clJ (qq_cs lv H) q n i d j s).2) ∧ qq_Kn known1 lv H P ∧ qq_Ln who1 q n := by
  intro d
  induction d with
  | zero =>
    intro j fuel top worked known who s h hf hK hL hs
    obtain ⟨f, rfl⟩ : ∃ f, fuel = f + 1 := ⟨fuel - 1, by omega⟩
    refine ⟨top, worked, known, who, ?_, hK, hL⟩
    rw [f_Thoughts_calmest_L42]
    unfold f_Line_size
    simp (disch := omega) only [qq_b1, qq_b2, qq_b3, qq_b4, qq_b5, qq_b6, qq_b7, qq_b8, qq_b9, qq_b10, qq_b11, qq_b12, qq_b13, qq_b18, qq_b19, qq_s0l, qq_s0r, qq_s1l, qq_s1r, qq_s2l, qq_s2r, qq_s3l, qq_s3r, qq_s6l, qq_s6r, qq_s7l, qq_s7r, qq_bt, qq_bf, qq_l0, qq_l1, qq_l2, qq_l3, qq_l4, qq_l5, qq_l6, qq_l7, qq_l8, qq_l9, qq_l10, qq_l11, qq_l12, qq_l13, qq_l14, qq_l15, qq_l20, qq_l30, qq_l31, qq_l36, qq_l37, qq_l38, qq_l39, qq_l40, qq_l41, qq_l42, qq_l43, qq_l45, qq_l47, qq_l48, qq_l49, qq_l50, qq_l57, qq_l58, qq_l59, qq_l60, qq_l61, qq_l62, qq_l63, qq_l80, qq_l81, qq_l97, qq_l98, qq_l99, qq_l100, qq_l103, qq_l112, qq_l113, qq_l119, qq_l120, qq_l121, qq_l124, qq_l126, qq_l128, qq_l255, qq_l360, qq_l512, qq_l729, qq_zg, qq_zs, qq_zsJ, qq_zgT, qq_ltT, qq_ltF, qq_leT, qq_leF, qq_eqT, qq_eqF, qq_nltT, qq_ltnF, qq_nltnT, qq_nltnF, qq_nleT, qq_lenF, qq_nlenT, qq_nlenF, qq_eqnF, qq_neqF, qq_neqnF, qq_neqnT, nI_add, qq_subT, qq_subF, qq_addnT, qq_addnF, qq_naddT, qq_naddF, pk_mul, qq_and, qq_or, if_true, if_false, not_true, not_false_iff, qq_upd, qq_updE, qq_updN, reduceIte, eq_self, ne_eq, true_and, and_true, Nat.add_zero, Nat.zero_add, Nat.add_sub_cancel]
    rfl
  | succ d ih =>
    intro j fuel top worked known who s h hf hK hL hs
    obtain ⟨f, rfl⟩ : ∃ f, fuel = f + 1 := ⟨fuel - 1, by omega⟩
    rw [f_Thoughts_calmest_L42]
    unfold f_Line_size
    obtain ⟨w1, e1, hw1⟩ := qq_exchange hL hn hi (j := j) (by omega)
    obtain ⟨top1, worked1, known1, e2, hK1⟩ := qq_disquietOf hT hH hB hP hw1 (qq_Vl_swp hV hi (by omega)).1 hn top worked hK
    obtain ⟨w2, e3, hw2⟩ := qq_exchange hw1 hn hi (j := j) (by omega)
    have hd := qq_dis_le (qq_cs lv H) (qq_swp q i j) hn
    have hs1 := hs.1
    have hL2 : qq_Ln w2 q n := qq_Ln_congr hw2 fun t _ => qq_swp2 q i j t
    simp (disch := omega) only [e1, e2, e3, qq_b1, qq_b2, qq_b3, qq_b4, qq_b5, qq_b6, qq_b7, qq_b8, qq_b9, qq_b10, qq_b11, qq_b12, qq_b13, qq_b18, qq_b19, qq_s0l, qq_s0r, qq_s1l, qq_s1r, qq_s2l, qq_s2r, qq_s3l, qq_s3r, qq_s6l, qq_s6r, qq_s7l, qq_s7r, qq_bt, qq_bf, qq_l0, qq_l1, qq_l2, qq_l3, qq_l4, qq_l5, qq_l6, qq_l7, qq_l8, qq_l9, qq_l10, qq_l11, qq_l12, qq_l13, qq_l14, qq_l15, qq_l20, qq_l30, qq_l31, qq_l36, qq_l37, qq_l38, qq_l39, qq_l40, qq_l41, qq_l42, qq_l43, qq_l45, qq_l47, qq_l48, qq_l49, qq_l50, qq_l57, qq_l58, qq_l59, qq_l60, qq_l61, qq_l62, qq_l63, qq_l80, qq_l81, qq_l97, qq_l98, qq_l99, qq_l100, qq_l103, qq_l112, qq_l113, qq_l119, qq_l120, qq_l121, qq_l124, qq_l126, qq_l128, qq_l255, qq_l360, qq_l512, qq_l729, qq_zg, qq_zs, qq_zsJ, qq_zgT, qq_ltT, qq_ltF, qq_leT, qq_leF, qq_eqT, qq_eqF, qq_nltT, qq_ltnF, qq_nltnT, qq_nltnF, qq_nleT, qq_lenF, qq_nlenT, qq_nlenF, qq_eqnF, qq_neqF, qq_neqnF, qq_neqnT, nI_add, qq_subT, qq_subF, qq_addnT, qq_addnF, qq_naddT, qq_naddF, pk_mul, qq_and, qq_or, if_true, if_false, not_true, not_false_iff, qq_upd, qq_updE, qq_updN, reduceIte, eq_self, ne_eq, true_and, and_true, Nat.add_zero, Nat.zero_add, Nat.add_sub_cancel]
    rw [qq_clJ]
    by_cases hc : qq_dis (qq_cs lv H) (qq_swp q i j) n < s.1
    · rw [if_pos hc]
      obtain ⟨top2, worked2, known2, w3, e4, hK2, hw3⟩ := ih (j + 1) f top1 worked1 known1 w2 (qq_dis (qq_cs lv H) (qq_swp q i j) n, nI (10 * i + j)) (by omega) (by omega) hK1 hL2 ⟨by show _ < 1000; omega, Or.inr ⟨10 * i + j, by omega, rfl⟩⟩
      refine ⟨top2, worked2, known2, w3, ?_, hK2, hw3⟩
      simp (disch := omega) only [qq_b1, qq_b2, qq_b3, qq_b4, qq_b5, qq_b6, qq_b7, qq_b8, qq_b9, qq_b10, qq_b11, qq_b12, qq_b13, qq_b18, qq_b19, qq_s0l, qq_s0r, qq_s1l, qq_s1r, qq_s2l, qq_s2r, qq_s3l, qq_s3r, qq_s6l, qq_s6r, qq_s7l, qq_s7r, qq_bt, qq_bf, qq_l0, qq_l1, qq_l2, qq_l3, qq_l4, qq_l5, qq_l6, qq_l7, qq_l8, qq_l9, qq_l10, qq_l11, qq_l12, qq_l13, qq_l14, qq_l15, qq_l20, qq_l30, qq_l31, qq_l36, qq_l37, qq_l38, qq_l39, qq_l40, qq_l41, qq_l42, qq_l43, qq_l45, qq_l47, qq_l48, qq_l49, qq_l50, qq_l57, qq_l58, qq_l59, qq_l60, qq_l61, qq_l62, qq_l63, qq_l80, qq_l81, qq_l97, qq_l98, qq_l99, qq_l100, qq_l103, qq_l112, qq_l113, qq_l119, qq_l120, qq_l121, qq_l124, qq_l126, qq_l128, qq_l255, qq_l360, qq_l512, qq_l729, qq_zg, qq_zs, qq_zsJ, qq_zgT, qq_ltT, qq_ltF, qq_leT, qq_leF, qq_eqT, qq_eqF, qq_nltT, qq_ltnF, qq_nltnT, qq_nltnF, qq_nleT, qq_lenF, qq_nlenT, qq_nlenF, qq_eqnF, qq_neqF, qq_neqnF, qq_neqnT, nI_add, qq_subT, qq_subF, qq_addnT, qq_addnF, qq_naddT, qq_naddF, pk_mul, qq_and, qq_or, if_true, if_false, not_true, not_false_iff, qq_upd, qq_updE, qq_updN, reduceIte, eq_self, ne_eq, true_and, and_true, Nat.add_zero, Nat.zero_add, Nat.add_sub_cancel]
      exact e4
    · rw [if_neg hc]
      obtain ⟨top2, worked2, known2, w3, e4, hK2, hw3⟩ := ih (j + 1) f top1 worked1 known1 w2 s (by omega) (by omega) hK1 hL2 hs
      refine ⟨top2, worked2, known2, w3, ?_, hK2, hw3⟩
      simp (disch := omega) only [qq_b1, qq_b2, qq_b3, qq_b4, qq_b5, qq_b6, qq_b7, qq_b8, qq_b9, qq_b10, qq_b11, qq_b12, qq_b13, qq_b18, qq_b19, qq_s0l, qq_s0r, qq_s1l, qq_s1r, qq_s2l, qq_s2r, qq_s3l, qq_s3r, qq_s6l, qq_s6r, qq_s7l, qq_s7r, qq_bt, qq_bf, qq_l0, qq_l1, qq_l2, qq_l3, qq_l4, qq_l5, qq_l6, qq_l7, qq_l8, qq_l9, qq_l10, qq_l11, qq_l12, qq_l13, qq_l14, qq_l15, qq_l20, qq_l30, qq_l31, qq_l36, qq_l37, qq_l38, qq_l39, qq_l40, qq_l41, qq_l42, qq_l43, qq_l45, qq_l47, qq_l48, qq_l49, qq_l50, qq_l57, qq_l58, qq_l59, qq_l60, qq_l61, qq_l62, qq_l63, qq_l80, qq_l81, qq_l97, qq_l98, qq_l99, qq_l100, qq_l103, qq_l112, qq_l113, qq_l119, qq_l120, qq_l121, qq_l124, qq_l126, qq_l128, qq_l255, qq_l360, qq_l512, qq_l729, qq_zg, qq_zs, qq_zsJ, qq_zgT, qq_ltT, qq_ltF, qq_leT, qq_leF, qq_eqT, qq_eqF, qq_nltT, qq_ltnF, qq_nltnT, qq_nltnF, qq_nleT, qq_lenF, qq_nlenT, qq_nlenF, qq_eqnF, qq_neqF, qq_neqnF, qq_neqnT, nI_add, qq_subT, qq_subF, qq_addnT, qq_addnF, qq_naddT, qq_naddF, pk_mul, qq_and, qq_or, if_true, if_false, not_true, not_false_iff, qq_upd, qq_updE, qq_updN, reduceIte, eq_self, ne_eq, true_and, and_true, Nat.add_zero, Nat.zero_add, Nat.add_sub_cancel]
      exact e4
set_option maxRecDepth 100000 in
set_option maxHeartbeats 4000000 in
theorem qq_calmI {tl : Int32} {ts : Nat → Int32} {lv : Nat → Nat → Nat → Nat → Nat → Bool} (hT : qq_LT tl ts lv) {hts : Nat → Int32} {H : Nat → Nat} {P : Nat} (hH : qq_Ln hts H P) (hB : ∀ p, p < P → H p < 1000) (hP : P ≤ 9) {q : Nat → Nat} {n : Nat} (hV : qq_Vl q n P) (hn : n ≤ 9) :
    ∀ d i fuel (top : Int32) (worked known who : Nat → Int32) (s : Nat × Int32), i + d = n → d < fuel → qq_Kn known lv H P → qq_Ln who q n → qq_clP s → ∃ (top1 : Int32) (worked1 known1 who1 : Nat → Int32), f_Thoughts_calmest_L24 (nI P) hts tl ts (nI n) fuel top worked known who (nI s.1) s.2 (nI i) = some (top1, worked1, known1, who1, nI (qq_clI (qq_cs lv H) q n d i s).1, (qq_clI (qq_cs lv H) q n d i s).2) ∧ qq_Kn known1 lv H P := by
  intro d
  induction d with
  | zero =>
    intro i fuel top worked known who s h hf hK hL hs
    obtain ⟨f, rfl⟩ : ∃ f, fuel = f + 1 := ⟨fuel - 1, by omega⟩
    refine ⟨top, worked, known, who, ?_, hK⟩
    rw [f_Thoughts_calmest_L24]
    unfold f_Line_size
    simp (disch := omega) only [qq_b1, qq_b2, qq_b3, qq_b4, qq_b5, qq_b6, qq_b7, qq_b8, qq_b9, qq_b10, qq_b11, qq_b12, qq_b13, qq_b18, qq_b19, qq_s0l, qq_s0r, qq_s1l, qq_s1r, qq_s2l, qq_s2r, qq_s3l, qq_s3r, qq_s6l, qq_s6r, qq_s7l, qq_s7r, qq_bt, qq_bf, qq_l0, qq_l1, qq_l2, qq_l3, qq_l4, qq_l5, qq_l6, qq_l7, qq_l8, qq_l9, qq_l10, qq_l11, qq_l12, qq_l13, qq_l14, qq_l15, qq_l20, qq_l30, qq_l31, qq_l36, qq_l37, qq_l38, qq_l39, qq_l40, qq_l41, qq_l42, qq_l43, qq_l45, qq_l47, qq_l48, qq_l49, qq_l50, qq_l57, qq_l58, qq_l59, qq_l60, qq_l61, qq_l62, qq_l63, qq_l80, qq_l81, qq_l97, qq_l98, qq_l99, qq_l100, qq_l103, qq_l112, qq_l113, qq_l119, qq_l120, qq_l121, qq_l124, qq_l126, qq_l128, qq_l255, qq_l360, qq_l512, qq_l729, qq_zg, qq_zs, qq_zsJ, qq_zgT, qq_ltT, qq_ltF, qq_leT, qq_leF, qq_eqT, qq_eqF, qq_nltT, qq_ltnF, qq_nltnT, qq_nltnF, qq_nleT, qq_lenF, qq_nlenT, qq_nlenF, qq_eqnF, qq_neqF, qq_neqnF, qq_neqnT, nI_add, qq_subT, qq_subF, qq_addnT, qq_addnF, qq_naddT, qq_naddF, pk_mul, qq_and, qq_or, if_true, if_false, not_true, not_false_iff, qq_upd, qq_updE, qq_updN, reduceIte, eq_self, ne_eq, true_and, and_true, Nat.add_zero, Nat.zero_add, Nat.add_sub_cancel]
    rfl
  | succ d ih =>
    intro i fuel top worked known who s h hf hK hL hs
    obtain ⟨f, rfl⟩ : ∃ f, fuel = f + 1 := ⟨fuel - 1, by omega⟩
    rw [f_Thoughts_calmest_L24]
    unfold f_Line_size
    obtain ⟨top1, worked1, known1, w1, e1, hK1, hw1⟩ := qq_calmJ hT hH hB hP hV hn (i := i) (by omega) (n - (i + 1)) (i + 1) FU top worked known who s (by omega) (by rw [qq_FU]; omega) hK hL hs
    obtain ⟨top2, worked2, known2, w2, e2, hK2⟩ := ih (i + 1) f top1 worked1 known1 w1 _ (by omega) (by omega) hK1 hw1 (qq_clJ_P (i := i) hn (by omega) (n - (i + 1)) (i + 1) s (by omega) hs)
    refine ⟨top2, worked2, known2, w2, ?_, hK2⟩
    simp (disch := omega) only [e1, qq_b1, qq_b2, qq_b3, qq_b4, qq_b5, qq_b6, qq_b7, qq_b8, qq_b9, qq_b10, qq_b11, qq_b12, qq_b13, qq_b18, qq_b19, qq_s0l, qq_s0r, qq_s1l, qq_s1r, qq_s2l, qq_s2r, qq_s3l, qq_s3r, qq_s6l, qq_s6r, qq_s7l, qq_s7r, qq_bt, qq_bf, qq_l0, qq_l1, qq_l2, qq_l3, qq_l4, qq_l5, qq_l6, qq_l7, qq_l8, qq_l9, qq_l10, qq_l11, qq_l12, qq_l13, qq_l14, qq_l15, qq_l20, qq_l30, qq_l31, qq_l36, qq_l37, qq_l38, qq_l39, qq_l40, qq_l41, qq_l42, qq_l43, qq_l45, qq_l47, qq_l48, qq_l49, qq_l50, qq_l57, qq_l58, qq_l59, qq_l60, qq_l61, qq_l62, qq_l63, qq_l80, qq_l81, qq_l97, qq_l98, qq_l99, qq_l100, qq_l103, qq_l112, qq_l113, qq_l119, qq_l120, qq_l121, qq_l124, qq_l126, qq_l128, qq_l255, qq_l360, qq_l512, qq_l729, qq_zg, qq_zs, qq_zsJ, qq_zgT, qq_ltT, qq_ltF, qq_leT, qq_leF, qq_eqT, qq_eqF, qq_nltT, qq_ltnF, qq_nltnT, qq_nltnF, qq_nleT, qq_lenF, qq_nlenT, qq_nlenF, qq_eqnF, qq_neqF, qq_neqnF, qq_neqnT, nI_add, qq_subT, qq_subF, qq_addnT, qq_addnF, qq_naddT, qq_naddF, pk_mul, qq_and, qq_or, if_true, if_false, not_true, not_false_iff, qq_upd, qq_updE, qq_updN, reduceIte, eq_self, ne_eq, true_and, and_true, Nat.add_zero, Nat.zero_add, Nat.add_sub_cancel]
    exact e2
/-- what calm answers -/
def qq_calmA (c : Nat → Nat → Nat → Bool) (q : Nat → Nat) (n : Nat) (places : Bool) : Int32 :=
  let s := qq_clI c q n n 0 (qq_dis c q n, -nI 2)
  if s.2 = -nI 2 then s.2 else if places then s.2 else nI s.1
theorem qq_cl0 (c : Nat → Nat → Nat → Bool) (q : Nat → Nat) {n : Nat} (hn : n ≤ 9) : qq_clP (qq_dis c q n, -nI 2) := ⟨by have := qq_dis_le c q hn; show _ < 1000; omega, Or.inl rfl⟩
theorem qq_calmest {tl : Int32} {ts : Nat → Int32} {lv : Nat → Nat → Nat → Nat → Nat → Bool} (hT : qq_LT tl ts lv) {hts : Nat → Int32} {H : Nat → Nat} {P : Nat} (hH : qq_Ln hts H P) (hB : ∀ p, p < P → H p < 1000) (hP : P ≤ 9) {who : Nat → Int32} {q : Nat → Nat} {n : Nat} (hL : qq_Ln who q n) (hV : qq_Vl q n P) (hn : n ≤ 9) (places : Bool) (top : Int32) (worked : Nat → Int32) {known : Nat → Int32} (hK : qq_Kn known lv H P) (tlen : Int32) (twho : Nat → Int32) :
    ∃ (top1 : Int32) (worked1 known1 : Nat → Int32) (tlen1 : Int32) (twho1 : Nat → Int32), f_Thoughts_calmest (nI P) hts tl top ts worked known tlen twho (nI n) who (qq_t places) = some (qq_calmA (qq_cs lv H) q n places, top1, worked1, known1, tlen1, twho1) ∧ qq_Kn known1 lv H P := by
  unfold f_Thoughts_calmest
  obtain ⟨w, e1, hw⟩ := qq_copyFrom (l := tlen) (who := twho) (l1 := nI n) (who1 := who)
  have hLw : qq_Ln w q n := fun i hi => by rw [hw i (by omega)]; exact hL i hi
  obtain ⟨top1, worked1, known1, e2, hK1⟩ := qq_disquietOf hT hH hB hP hL hV.1 hn top worked hK
  obtain ⟨top2, worked2, known2, w2, e3, hK2⟩ := qq_calmI hT hH hB hP hV hn n 0 FU top1 worked1 known1 w (qq_dis (qq_cs lv H) q n, -nI 2) (by omega) (by rw [qq_FU]; omega) hK1 hLw (qq_cl0 _ _ hn)
  refine ⟨top2, worked2, known2, nI n, w2, ?_, hK2⟩
  simp only [] at e3
  simp (disch := omega) only [e1, e2, e3, qq_b1, qq_b2, qq_b3, qq_b4, qq_b5, qq_b6, qq_b7, qq_b8, qq_b9, qq_b10, qq_b11, qq_b12, qq_b13, qq_b18, qq_b19, qq_s0l, qq_s0r, qq_s1l, qq_s1r, qq_s2l, qq_s2r, qq_s3l, qq_s3r, qq_s6l, qq_s6r, qq_s7l, qq_s7r, qq_bt, qq_bf, qq_l0, qq_l1, qq_l2, qq_l3, qq_l4, qq_l5, qq_l6, qq_l7, qq_l8, qq_l9, qq_l10, qq_l11, qq_l12, qq_l13, qq_l14, qq_l15, qq_l20, qq_l30, qq_l31, qq_l36, qq_l37, qq_l38, qq_l39, qq_l40, qq_l41, qq_l42, qq_l43, qq_l45, qq_l47, qq_l48, qq_l49, qq_l50, qq_l57, qq_l58, qq_l59, qq_l60, qq_l61, qq_l62, qq_l63, qq_l80, qq_l81, qq_l97, qq_l98, qq_l99, qq_l100, qq_l103, qq_l112, qq_l113, qq_l119, qq_l120, qq_l121, qq_l124, qq_l126, qq_l128, qq_l255, qq_l360, qq_l512, qq_l729, qq_zg, qq_zs, qq_zsJ, qq_zgT, qq_ltT, qq_ltF, qq_leT, qq_leF, qq_eqT, qq_eqF, qq_nltT, qq_ltnF, qq_nltnT, qq_nltnF, qq_nleT, qq_lenF, qq_nlenT, qq_nlenF, qq_eqnF, qq_neqF, qq_neqnF, qq_neqnT, nI_add, qq_subT, qq_subF, qq_addnT, qq_addnF, qq_naddT, qq_naddF, pk_mul, qq_and, qq_or, if_true, if_false, not_true, not_false_iff, qq_upd, qq_updE, qq_updN, reduceIte, eq_self, ne_eq, true_and, and_true, Nat.add_zero, Nat.zero_add, Nat.add_sub_cancel]
  unfold qq_calmA
  simp only []
  by_cases hc : (qq_clI (qq_cs lv H) q n n 0 (qq_dis (qq_cs lv H) q n, -nI 2)).2 = -nI 2
  · simp (disch := omega) only [hc, qq_b1, qq_b2, qq_b3, qq_b4, qq_b5, qq_b6, qq_b7, qq_b8, qq_b9, qq_b10, qq_b11, qq_b12, qq_b13, qq_b18, qq_b19, qq_s0l, qq_s0r, qq_s1l, qq_s1r, qq_s2l, qq_s2r, qq_s3l, qq_s3r, qq_s6l, qq_s6r, qq_s7l, qq_s7r, qq_bt, qq_bf, qq_l0, qq_l1, qq_l2, qq_l3, qq_l4, qq_l5, qq_l6, qq_l7, qq_l8, qq_l9, qq_l10, qq_l11, qq_l12, qq_l13, qq_l14, qq_l15, qq_l20, qq_l30, qq_l31, qq_l36, qq_l37, qq_l38, qq_l39, qq_l40, qq_l41, qq_l42, qq_l43, qq_l45, qq_l47, qq_l48, qq_l49, qq_l50, qq_l57, qq_l58, qq_l59, qq_l60, qq_l61, qq_l62, qq_l63, qq_l80, qq_l81, qq_l97, qq_l98, qq_l99, qq_l100, qq_l103, qq_l112, qq_l113, qq_l119, qq_l120, qq_l121, qq_l124, qq_l126, qq_l128, qq_l255, qq_l360, qq_l512, qq_l729, qq_zg, qq_zs, qq_zsJ, qq_zgT, qq_ltT, qq_ltF, qq_leT, qq_leF, qq_eqT, qq_eqF, qq_nltT, qq_ltnF, qq_nltnT, qq_nltnF, qq_nleT, qq_lenF, qq_nlenT, qq_nlenF, qq_eqnF, qq_neqF, qq_neqnF, qq_neqnT, nI_add, qq_subT, qq_subF, qq_addnT, qq_addnF, qq_naddT, qq_naddF, pk_mul, qq_and, qq_or, if_true, if_false, not_true, not_false_iff, qq_upd, qq_updE, qq_updN, reduceIte, eq_self, ne_eq, true_and, and_true, Nat.add_zero, Nat.zero_add, Nat.add_sub_cancel]
  · cases places with
    | true => simp (disch := omega) only [hc, qq_b1, qq_b2, qq_b3, qq_b4, qq_b5, qq_b6, qq_b7, qq_b8, qq_b9, qq_b10, qq_b11, qq_b12, qq_b13, qq_b18, qq_b19, qq_s0l, qq_s0r, qq_s1l, qq_s1r, qq_s2l, qq_s2r, qq_s3l, qq_s3r, qq_s6l, qq_s6r, qq_s7l, qq_s7r, qq_bt, qq_bf, qq_l0, qq_l1, qq_l2, qq_l3, qq_l4, qq_l5, qq_l6, qq_l7, qq_l8, qq_l9, qq_l10, qq_l11, qq_l12, qq_l13, qq_l14, qq_l15, qq_l20, qq_l30, qq_l31, qq_l36, qq_l37, qq_l38, qq_l39, qq_l40, qq_l41, qq_l42, qq_l43, qq_l45, qq_l47, qq_l48, qq_l49, qq_l50, qq_l57, qq_l58, qq_l59, qq_l60, qq_l61, qq_l62, qq_l63, qq_l80, qq_l81, qq_l97, qq_l98, qq_l99, qq_l100, qq_l103, qq_l112, qq_l113, qq_l119, qq_l120, qq_l121, qq_l124, qq_l126, qq_l128, qq_l255, qq_l360, qq_l512, qq_l729, qq_zg, qq_zs, qq_zsJ, qq_zgT, qq_ltT, qq_ltF, qq_leT, qq_leF, qq_eqT, qq_eqF, qq_nltT, qq_ltnF, qq_nltnT, qq_nltnF, qq_nleT, qq_lenF, qq_nlenT, qq_nlenF, qq_eqnF, qq_neqF, qq_neqnF, qq_neqnT, nI_add, qq_subT, qq_subF, qq_addnT, qq_addnF, qq_naddT, qq_naddF, pk_mul, qq_and, qq_or, if_true, if_false, not_true, not_false_iff, qq_upd, qq_updE, qq_updN, reduceIte, eq_self, ne_eq, true_and, and_true, Nat.add_zero, Nat.zero_add, Nat.add_sub_cancel]
    | false => simp (disch := omega) only [hc, Bool.false_eq_true, qq_b1, qq_b2, qq_b3, qq_b4, qq_b5, qq_b6, qq_b7, qq_b8, qq_b9, qq_b10, qq_b11, qq_b12, qq_b13, qq_b18, qq_b19, qq_s0l, qq_s0r, qq_s1l, qq_s1r, qq_s2l, qq_s2r, qq_s3l, qq_s3r, qq_s6l, qq_s6r, qq_s7l, qq_s7r, qq_bt, qq_bf, qq_l0, qq_l1, qq_l2, qq_l3, qq_l4, qq_l5, qq_l6, qq_l7, qq_l8, qq_l9, qq_l10, qq_l11, qq_l12, qq_l13, qq_l14, qq_l15, qq_l20, qq_l30, qq_l31, qq_l36, qq_l37, qq_l38, qq_l39, qq_l40, qq_l41, qq_l42, qq_l43, qq_l45, qq_l47, qq_l48, qq_l49, qq_l50, qq_l57, qq_l58, qq_l59, qq_l60, qq_l61, qq_l62, qq_l63, qq_l80, qq_l81, qq_l97, qq_l98, qq_l99, qq_l100, qq_l103, qq_l112, qq_l113, qq_l119, qq_l120, qq_l121, qq_l124, qq_l126, qq_l128, qq_l255, qq_l360, qq_l512, qq_l729, qq_zg, qq_zs, qq_zsJ, qq_zgT, qq_ltT, qq_ltF, qq_leT, qq_leF, qq_eqT, qq_eqF, qq_nltT, qq_ltnF, qq_nltnT, qq_nltnF, qq_nleT, qq_lenF, qq_nlenT, qq_nlenF, qq_eqnF, qq_neqF, qq_neqnF, qq_neqnT, nI_add, qq_subT, qq_subF, qq_addnT, qq_addnF, qq_naddT, qq_naddF, pk_mul, qq_and, qq_or, if_true, if_false, not_true, not_false_iff, qq_upd, qq_updE, qq_updN, reduceIte, eq_self, ne_eq, true_and, and_true, Nat.add_zero, Nat.zero_add, Nat.add_sub_cancel]
set_option maxRecDepth 100000 in
set_option maxHeartbeats 4000000 in
theorem qq_mcalmJ {tm : Int32} {text : Nat → Int32} {lv : Nat → Nat → Nat → Nat → Nat → Bool} (hM : qq_LM tm text lv) {hts : Nat → Int32} {H : Nat → Nat} {P : Nat} {tl tb : Int32} (hH : ∀ p, p < P → f_M_heightOf tl tb hts (nI p) = some (nI (H p))) (hB : ∀ p, p < P → H p < 1000) (hP : P ≤ 9) {q : Nat → Nat} {n i : Nat} (hV : qq_Vl q n P) (hn : n ≤ 9) (hi : i < n) (tape : Nat → Int32) :
    ∀ d j fuel (base at_ ends fault opened : Int32) (names row : Nat → Int32) (s : Nat × Int32), j + d = n → d < fuel → qq_Ln row q n → qq_clP s → ∃ (b1 a1 e1 f1 o1 : Int32) (names1 row1 : Nat → Int32), f_M_calm_L38 tm (nI n) (nI n) tl tb hts tape text (nI i) fuel base at_ ends fault opened names row (nI s.1) s.2 (nI j) = some (b1, a1, e1, f1, o1, names1, row1, nI (qq_clJ (qq_cs lv H) q n i d j s).1, (qq_clJ (qq_cs lv H) q n i d j s).2) ∧ qq_Ln row1 q n := by
  intro d
  induction d with
  | zero =>
    intro j fuel base at_ ends fault opened names row s h hf hL hs
    obtain ⟨f, rfl⟩ : ∃ f, fuel = f + 1 := ⟨fuel - 1, by omega⟩
    refine ⟨base, at_, ends, fault, opened, names, row, ?_, hL⟩
    rw [f_M_calm_L38]
    simp (disch := omega) only [qq_b1, qq_b2, qq_b3, qq_b4, qq_b5, qq_b6, qq_b7, qq_b8, qq_b9, qq_b10, qq_b11, qq_b12, qq_b13, qq_b18, qq_b19, qq_s0l, qq_s0r, qq_s1l, qq_s1r, qq_s2l, qq_s2r, qq_s3l, qq_s3r, qq_s6l, qq_s6r, qq_s7l, qq_s7r, qq_bt, qq_bf, qq_l0, qq_l1, qq_l2, qq_l3, qq_l4, qq_l5, qq_l6, qq_l7, qq_l8, qq_l9, qq_l10, qq_l11, qq_l12, qq_l13, qq_l14, qq_l15, qq_l20, qq_l30, qq_l31, qq_l36, qq_l37, qq_l38, qq_l39, qq_l40, qq_l41, qq_l42, qq_l43, qq_l45, qq_l47, qq_l48, qq_l49, qq_l50, qq_l57, qq_l58, qq_l59, qq_l60, qq_l61, qq_l62, qq_l63, qq_l80, qq_l81, qq_l97, qq_l98, qq_l99, qq_l100, qq_l103, qq_l112, qq_l113, qq_l119, qq_l120, qq_l121, qq_l124, qq_l126, qq_l128, qq_l255, qq_l360, qq_l512, qq_l729, qq_zg, qq_zs, qq_zsJ, qq_zgT, qq_ltT, qq_ltF, qq_leT, qq_leF, qq_eqT, qq_eqF, qq_nltT, qq_ltnF, qq_nltnT, qq_nltnF, qq_nleT, qq_lenF, qq_nlenT, qq_nlenF, qq_eqnF, qq_neqF, qq_neqnF, qq_neqnT, nI_add, qq_subT, qq_subF, qq_addnT, qq_addnF, qq_naddT, qq_naddF, pk_mul, qq_and, qq_or, if_true, if_false, not_true, not_false_iff, qq_upd, qq_updE, qq_updN, reduceIte, eq_self, ne_eq, true_and, and_true, Nat.add_zero, Nat.zero_add, Nat.add_sub_cancel]
    rfl
  | succ d ih =>
    intro j fuel base at_ ends fault opened names row s h hf hL hs
    obtain ⟨f, rfl⟩ : ∃ f, fuel = f + 1 := ⟨fuel - 1, by omega⟩
    rw [f_M_calm_L38]
    obtain ⟨w1, e1, hw1⟩ := qq_changesIn hL hn hi (j := j) (by omega)
    obtain ⟨b1, a1, en1, f1, o1, names1, e2⟩ := qq_mdisquietOf hM hH hB hP hw1 (qq_Vl_swp hV hi (by omega)).1 hn base at_ ends fault opened tape names
    obtain ⟨w2, e3, hw2⟩ := qq_changesIn hw1 hn hi (j := j) (by omega)
    have hd := qq_dis_le (qq_cs lv H) (qq_swp q i j) hn
    have hs1 := hs.1
    have hL2 : qq_Ln w2 q n := qq_Ln_congr hw2 fun t _ => qq_swp2 q i j t
    simp (disch := omega) only [e1, e2, e3, qq_b1, qq_b2, qq_b3, qq_b4, qq_b5, qq_b6, qq_b7, qq_b8, qq_b9, qq_b10, qq_b11, qq_b12, qq_b13, qq_b18, qq_b19, qq_s0l, qq_s0r, qq_s1l, qq_s1r, qq_s2l, qq_s2r, qq_s3l, qq_s3r, qq_s6l, qq_s6r, qq_s7l, qq_s7r, qq_bt, qq_bf, qq_l0, qq_l1, qq_l2, qq_l3, qq_l4, qq_l5, qq_l6, qq_l7, qq_l8, qq_l9, qq_l10, qq_l11, qq_l12, qq_l13, qq_l14, qq_l15, qq_l20, qq_l30, qq_l31, qq_l36, qq_l37, qq_l38, qq_l39, qq_l40, qq_l41, qq_l42, qq_l43, qq_l45, qq_l47, qq_l48, qq_l49, qq_l50, qq_l57, qq_l58, qq_l59, qq_l60, qq_l61, qq_l62, qq_l63, qq_l80, qq_l81, qq_l97, qq_l98, qq_l99, qq_l100, qq_l103, qq_l112, qq_l113, qq_l119, qq_l120, qq_l121, qq_l124, qq_l126, qq_l128, qq_l255, qq_l360, qq_l512, qq_l729, qq_zg, qq_zs, qq_zsJ, qq_zgT, qq_ltT, qq_ltF, qq_leT, qq_leF, qq_eqT, qq_eqF, qq_nltT, qq_ltnF, qq_nltnT, qq_nltnF, qq_nleT, qq_lenF, qq_nlenT, qq_nlenF, qq_eqnF, qq_neqF, qq_neqnF, qq_neqnT, nI_add, qq_subT, qq_subF, qq_addnT, qq_addnF, qq_naddT, qq_naddF, pk_mul, qq_and, qq_or, if_true, if_false, not_true, not_false_iff, qq_upd, qq_updE, qq_updN, reduceIte, eq_self, ne_eq, true_and, and_true, Nat.add_zero, Nat.zero_add, Nat.add_sub_cancel]
    rw [qq_clJ]
    by_cases hc : qq_dis (qq_cs lv H) (qq_swp q i j) n < s.1
    · rw [if_pos hc]
      obtain ⟨b2, a2, en2, f2, o2, names2, w3, e4, hw3⟩ := ih (j + 1) f b1 a1 en1 f1 o1 names1 w2 (qq_dis (qq_cs lv H) (qq_swp q i j) n, nI (10 * i + j)) (by omega) (by omega) hL2 ⟨by show _ < 1000; omega, Or.inr ⟨10 * i + j, by omega, rfl⟩⟩
      refine ⟨b2, a2, en2, f2, o2, names2, w3, ?_, hw3⟩
      simp (disch := omega) only [qq_b1, qq_b2, qq_b3, qq_b4, qq_b5, qq_b6, qq_b7, qq_b8, qq_b9, qq_b10, qq_b11, qq_b12, qq_b13, qq_b18, qq_b19, qq_s0l, qq_s0r, qq_s1l, qq_s1r, qq_s2l, qq_s2r, qq_s3l, qq_s3r, qq_s6l, qq_s6r, qq_s7l, qq_s7r, qq_bt, qq_bf, qq_l0, qq_l1, qq_l2, qq_l3, qq_l4, qq_l5, qq_l6, qq_l7, qq_l8, qq_l9, qq_l10, qq_l11, qq_l12, qq_l13, qq_l14, qq_l15, qq_l20, qq_l30, qq_l31, qq_l36, qq_l37, qq_l38, qq_l39, qq_l40, qq_l41, qq_l42, qq_l43, qq_l45, qq_l47, qq_l48, qq_l49, qq_l50, qq_l57, qq_l58, qq_l59, qq_l60, qq_l61, qq_l62, qq_l63, qq_l80, qq_l81, qq_l97, qq_l98, qq_l99, qq_l100, qq_l103, qq_l112, qq_l113, qq_l119, qq_l120, qq_l121, qq_l124, qq_l126, qq_l128, qq_l255, qq_l360, qq_l512, qq_l729, qq_zg, qq_zs, qq_zsJ, qq_zgT, qq_ltT, qq_ltF, qq_leT, qq_leF, qq_eqT, qq_eqF, qq_nltT, qq_ltnF, qq_nltnT, qq_nltnF, qq_nleT, qq_lenF, qq_nlenT, qq_nlenF, qq_eqnF, qq_neqF, qq_neqnF, qq_neqnT, nI_add, qq_subT, qq_subF, qq_addnT, qq_addnF, qq_naddT, qq_naddF, pk_mul, qq_and, qq_or, if_true, if_false, not_true, not_false_iff, qq_upd, qq_updE, qq_updN, reduceIte, eq_self, ne_eq, true_and, and_true, Nat.add_zero, Nat.zero_add, Nat.add_sub_cancel]
      exact e4
    · rw [if_neg hc]
      obtain ⟨b2, a2, en2, f2, o2, names2, w3, e4, hw3⟩ := ih (j + 1) f b1 a1 en1 f1 o1 names1 w2 s (by omega) (by omega) hL2 hs
      refine ⟨b2, a2, en2, f2, o2, names2, w3, ?_, hw3⟩
      simp (disch := omega) only [qq_b1, qq_b2, qq_b3, qq_b4, qq_b5, qq_b6, qq_b7, qq_b8, qq_b9, qq_b10, qq_b11, qq_b12, qq_b13, qq_b18, qq_b19, qq_s0l, qq_s0r, qq_s1l, qq_s1r, qq_s2l, qq_s2r, qq_s3l, qq_s3r, qq_s6l, qq_s6r, qq_s7l, qq_s7r, qq_bt, qq_bf, qq_l0, qq_l1, qq_l2, qq_l3, qq_l4, qq_l5, qq_l6, qq_l7, qq_l8, qq_l9, qq_l10, qq_l11, qq_l12, qq_l13, qq_l14, qq_l15, qq_l20, qq_l30, qq_l31, qq_l36, qq_l37, qq_l38, qq_l39, qq_l40, qq_l41, qq_l42, qq_l43, qq_l45, qq_l47, qq_l48, qq_l49, qq_l50, qq_l57, qq_l58, qq_l59, qq_l60, qq_l61, qq_l62, qq_l63, qq_l80, qq_l81, qq_l97, qq_l98, qq_l99, qq_l100, qq_l103, qq_l112, qq_l113, qq_l119, qq_l120, qq_l121, qq_l124, qq_l126, qq_l128, qq_l255, qq_l360, qq_l512, qq_l729, qq_zg, qq_zs, qq_zsJ, qq_zgT, qq_ltT, qq_ltF, qq_leT, qq_leF, qq_eqT, qq_eqF, qq_nltT, qq_ltnF, qq_nltnT, qq_nltnF, qq_nleT, qq_lenF, qq_nlenT, qq_nlenF, qq_eqnF, qq_neqF, qq_neqnF, qq_neqnT, nI_add, qq_subT, qq_subF, qq_addnT, qq_addnF, qq_naddT, qq_naddF, pk_mul, qq_and, qq_or, if_true, if_false, not_true, not_false_iff, qq_upd, qq_updE, qq_updN, reduceIte, eq_self, ne_eq, true_and, and_true, Nat.add_zero, Nat.zero_add, Nat.add_sub_cancel]
      exact e4
set_option maxRecDepth 100000 in
set_option maxHeartbeats 4000000 in
theorem qq_mcalmI {tm : Int32} {text : Nat → Int32} {lv : Nat → Nat → Nat → Nat → Nat → Bool} (hM : qq_LM tm text lv) {hts : Nat → Int32} {H : Nat → Nat} {P : Nat} {tl tb : Int32} (hH : ∀ p, p < P → f_M_heightOf tl tb hts (nI p) = some (nI (H p))) (hB : ∀ p, p < P → H p < 1000) (hP : P ≤ 9) {q : Nat → Nat} {n : Nat} (hV : qq_Vl q n P) (hn : n ≤ 9) (tape : Nat → Int32) :
    ∀ d i fuel (base at_ ends fault opened : Int32) (names row : Nat → Int32) (s : Nat × Int32), i + d = n → d < fuel → qq_Ln row q n → qq_clP s → ∃ (b1 a1 e1 f1 o1 : Int32) (names1 row1 : Nat → Int32), f_M_calm_L23 tm (nI n) (nI n) tl tb hts tape text fuel base at_ ends fault opened names row (nI s.1) s.2 (nI i) = some (b1, a1, e1, f1, o1, names1, row1, nI (qq_clI (qq_cs lv H) q n d i s).1, (qq_clI (qq_cs lv H) q n d i s).2) := by
  intro d
  induction d with
  | zero =>
    intro i fuel base at_ ends fault opened names row s h hf hL hs
    obtain ⟨f, rfl⟩ : ∃ f, fuel = f + 1 := ⟨fuel - 1, by omega⟩
    refine ⟨base, at_, ends, fault, opened, names, row, ?_⟩
    rw [f_M_calm_L23]
    simp (disch := omega) only [qq_b1, qq_b2, qq_b3, qq_b4, qq_b5, qq_b6, qq_b7, qq_b8, qq_b9, qq_b10, qq_b11, qq_b12, qq_b13, qq_b18, qq_b19, qq_s0l, qq_s0r, qq_s1l, qq_s1r, qq_s2l, qq_s2r, qq_s3l, qq_s3r, qq_s6l, qq_s6r, qq_s7l, qq_s7r, qq_bt, qq_bf, qq_l0, qq_l1, qq_l2, qq_l3, qq_l4, qq_l5, qq_l6, qq_l7, qq_l8, qq_l9, qq_l10, qq_l11, qq_l12, qq_l13, qq_l14, qq_l15, qq_l20, qq_l30, qq_l31, qq_l36, qq_l37, qq_l38, qq_l39, qq_l40, qq_l41, qq_l42, qq_l43, qq_l45, qq_l47, qq_l48, qq_l49, qq_l50, qq_l57, qq_l58, qq_l59, qq_l60, qq_l61, qq_l62, qq_l63, qq_l80, qq_l81, qq_l97, qq_l98, qq_l99, qq_l100, qq_l103, qq_l112, qq_l113, qq_l119, qq_l120, qq_l121, qq_l124, qq_l126, qq_l128, qq_l255, qq_l360, qq_l512, qq_l729, qq_zg, qq_zs, qq_zsJ, qq_zgT, qq_ltT, qq_ltF, qq_leT, qq_leF, qq_eqT, qq_eqF, qq_nltT, qq_ltnF, qq_nltnT, qq_nltnF, qq_nleT, qq_lenF, qq_nlenT, qq_nlenF, qq_eqnF, qq_neqF, qq_neqnF, qq_neqnT, nI_add, qq_subT, qq_subF, qq_addnT, qq_addnF, qq_naddT, qq_naddF, pk_mul, qq_and, qq_or, if_true, if_false, not_true, not_false_iff, qq_upd, qq_updE, qq_updN, reduceIte, eq_self, ne_eq, true_and, and_true, Nat.add_zero, Nat.zero_add, Nat.add_sub_cancel]
    rfl
  | succ d ih =>
    intro i fuel base at_ ends fault opened names row s h hf hL hs
    obtain ⟨f, rfl⟩ : ∃ f, fuel = f + 1 := ⟨fuel - 1, by omega⟩
    rw [f_M_calm_L23]
    obtain ⟨b1, a1, en1, f1, o1, names1, w1, e1, hw1⟩ := qq_mcalmJ hM hH hB hP hV hn (i := i) (by omega) tape (n - (i + 1)) (i + 1) FU base at_ ends fault opened names row s (by omega) (by rw [qq_FU]; omega) hL hs
    obtain ⟨b2, a2, en2, f2, o2, names2, w2, e2⟩ := ih (i + 1) f b1 a1 en1 f1 o1 names1 w1 _ (by omega) (by omega) hw1 (qq_clJ_P (i := i) hn (by omega) (n - (i + 1)) (i + 1) s (by omega) hs)
    refine ⟨b2, a2, en2, f2, o2, names2, w2, ?_⟩
    simp (disch := omega) only [e1, qq_b1, qq_b2, qq_b3, qq_b4, qq_b5, qq_b6, qq_b7, qq_b8, qq_b9, qq_b10, qq_b11, qq_b12, qq_b13, qq_b18, qq_b19, qq_s0l, qq_s0r, qq_s1l, qq_s1r, qq_s2l, qq_s2r, qq_s3l, qq_s3r, qq_s6l, qq_s6r, qq_s7l, qq_s7r, qq_bt, qq_bf, qq_l0, qq_l1, qq_l2, qq_l3, qq_l4, qq_l5, qq_l6, qq_l7, qq_l8, qq_l9, qq_l10, qq_l11, qq_l12, qq_l13, qq_l14, qq_l15, qq_l20, qq_l30, qq_l31, qq_l36, qq_l37, qq_l38, qq_l39, qq_l40, qq_l41, qq_l42, qq_l43, qq_l45, qq_l47, qq_l48, qq_l49, qq_l50, qq_l57, qq_l58, qq_l59, qq_l60, qq_l61, qq_l62, qq_l63, qq_l80, qq_l81, qq_l97, qq_l98, qq_l99, qq_l100, qq_l103, qq_l112, qq_l113, qq_l119, qq_l120, qq_l121, qq_l124, qq_l126, qq_l128, qq_l255, qq_l360, qq_l512, qq_l729, qq_zg, qq_zs, qq_zsJ, qq_zgT, qq_ltT, qq_ltF, qq_leT, qq_leF, qq_eqT, qq_eqF, qq_nltT, qq_ltnF, qq_nltnT, qq_nltnF, qq_nleT, qq_lenF, qq_nlenT, qq_nlenF, qq_eqnF, qq_neqF, qq_neqnF, qq_neqnT, nI_add, qq_subT, qq_subF, qq_addnT, qq_addnF, qq_naddT, qq_naddF, pk_mul, qq_and, qq_or, if_true, if_false, not_true, not_false_iff, qq_upd, qq_updE, qq_updN, reduceIte, eq_self, ne_eq, true_and, and_true, Nat.add_zero, Nat.zero_add, Nat.add_sub_cancel]
    exact e2
set_option maxRecDepth 100000 in
set_option maxHeartbeats 4000000 in
theorem qq_mcalm {tm : Int32} {text : Nat → Int32} {lv : Nat → Nat → Nat → Nat → Nat → Bool} (hM : qq_LM tm text lv) {hts : Nat → Int32} {H : Nat → Nat} {P : Nat} (hH : qq_Ln hts H P) (hB : ∀ p, p < P → H p < 1000) (hP : P ≤ 9) {line : Nat → Int32} {q : Nat → Nat} {n : Nat} (hL : qq_Ln line q n) (hV : qq_Vl q n P) (hn : n ≤ 9) (base at_ ends fault opened rm tl tb : Int32) (tape names row : Nat → Int32) {k : Nat} (hk : k ≤ 1) :
    ∃ (b1 a1 e1 f1 o1 rm1 tl1 : Int32) (names1 row1 : Nat → Int32), f_M_calm tm base at_ ends fault opened (nI n) rm tl tb hts tape text names line row (nI k) = some (qq_calmA (qq_cs lv H) q n (k == 0), b1, a1, e1, f1, o1, rm1, tl1, names1, row1) := by
  unfold f_M_calm
  obtain ⟨b1, a1, en1, f1, o1, names1, w, e1, hw⟩ := qq_disquietNow hM hH hB hP hL hV.1 hn base at_ ends fault opened rm tl tb tape names row
  obtain ⟨b2, a2, en2, f2, o2, names2, w2, e2⟩ := qq_mcalmI hM (tl := -nI 1) (tb := tb) (fun p hp => qq_mheightOf hH ⟨hp, hP⟩) hB hP hV hn tape n 0 FU b1 a1 en1 f1 o1 names1 w (qq_dis (qq_cs lv H) q n, -nI 2) (by omega) (by rw [qq_FU]; omega) hw (qq_cl0 _ _ hn)
  refine ⟨b2, a2, en2, f2, o2, nI n, -nI 1, names2, w2, ?_⟩
  simp only [] at e2
  rw [qq_wiT (by omega) ⟨by show (0 : Int) ≤ _; omega, by show _ ≤ (1 : Int); omega⟩]
  simp (disch := omega) only [e1, e2, qq_b1, qq_b2, qq_b3, qq_b4, qq_b5, qq_b6, qq_b7, qq_b8, qq_b9, qq_b10, qq_b11, qq_b12, qq_b13, qq_b18, qq_b19, qq_s0l, qq_s0r, qq_s1l, qq_s1r, qq_s2l, qq_s2r, qq_s3l, qq_s3r, qq_s6l, qq_s6r, qq_s7l, qq_s7r, qq_bt, qq_bf, qq_l0, qq_l1, qq_l2, qq_l3, qq_l4, qq_l5, qq_l6, qq_l7, qq_l8, qq_l9, qq_l10, qq_l11, qq_l12, qq_l13, qq_l14, qq_l15, qq_l20, qq_l30, qq_l31, qq_l36, qq_l37, qq_l38, qq_l39, qq_l40, qq_l41, qq_l42, qq_l43, qq_l45, qq_l47, qq_l48, qq_l49, qq_l50, qq_l57, qq_l58, qq_l59, qq_l60, qq_l61, qq_l62, qq_l63, qq_l80, qq_l81, qq_l97, qq_l98, qq_l99, qq_l100, qq_l103, qq_l112, qq_l113, qq_l119, qq_l120, qq_l121, qq_l124, qq_l126, qq_l128, qq_l255, qq_l360, qq_l512, qq_l729, qq_zg, qq_zs, qq_zsJ, qq_zgT, qq_ltT, qq_ltF, qq_leT, qq_leF, qq_eqT, qq_eqF, qq_nltT, qq_ltnF, qq_nltnT, qq_nltnF, qq_nleT, qq_lenF, qq_nlenT, qq_nlenF, qq_eqnF, qq_neqF, qq_neqnF, qq_neqnT, nI_add, qq_subT, qq_subF, qq_addnT, qq_addnF, qq_naddT, qq_naddF, pk_mul, qq_and, qq_or, if_true, if_false, not_true, not_false_iff, qq_upd, qq_updE, qq_updN, reduceIte, eq_self, ne_eq, true_and, and_true, Nat.add_zero, Nat.zero_add, Nat.add_sub_cancel]
  obtain ⟨h1, h2⟩ := qq_clI_P hn n 0 _ (by omega) (qq_cl0 (qq_cs lv H) q hn)
  unfold qq_calmA
  simp only []
  rcases h2 with h2 | ⟨t, ht, h2⟩
  · rw [h2]; simp (disch := omega) only [qq_b1, qq_b2, qq_b3, qq_b4, qq_b5, qq_b6, qq_b7, qq_b8, qq_b9, qq_b10, qq_b11, qq_b12, qq_b13, qq_b18, qq_b19, qq_s0l, qq_s0r, qq_s1l, qq_s1r, qq_s2l, qq_s2r, qq_s3l, qq_s3r, qq_s6l, qq_s6r, qq_s7l, qq_s7r, qq_bt, qq_bf, qq_l0, qq_l1, qq_l2, qq_l3, qq_l4, qq_l5, qq_l6, qq_l7, qq_l8, qq_l9, qq_l10, qq_l11, qq_l12, qq_l13, qq_l14, qq_l15, qq_l20, qq_l30, qq_l31, qq_l36, qq_l37, qq_l38, qq_l39, qq_l40, qq_l41, qq_l42, qq_l43, qq_l45, qq_l47, qq_l48, qq_l49, qq_l50, qq_l57, qq_l58, qq_l59, qq_l60, qq_l61, qq_l62, qq_l63, qq_l80, qq_l81, qq_l97, qq_l98, qq_l99, qq_l100, qq_l103, qq_l112, qq_l113, qq_l119, qq_l120, qq_l121, qq_l124, qq_l126, qq_l128, qq_l255, qq_l360, qq_l512, qq_l729, qq_zg, qq_zs, qq_zsJ, qq_zgT, qq_ltT, qq_ltF, qq_leT, qq_leF, qq_eqT, qq_eqF, qq_nltT, qq_ltnF, qq_nltnT, qq_nltnF, qq_nleT, qq_lenF, qq_nlenT, qq_nlenF, qq_eqnF, qq_neqF, qq_neqnF, qq_neqnT, nI_add, qq_subT, qq_subF, qq_addnT, qq_addnF, qq_naddT, qq_naddF, pk_mul, qq_and, qq_or, if_true, if_false, not_true, not_false_iff, qq_upd, qq_updE, qq_updN, reduceIte, eq_self, ne_eq, true_and, and_true, Nat.add_zero, Nat.zero_add, Nat.add_sub_cancel]
  · rw [h2]
    rcases Nat.eq_zero_or_pos k with rfl | h0
    · simp (disch := omega) only [beq_self_eq_true, qq_b1, qq_b2, qq_b3, qq_b4, qq_b5, qq_b6, qq_b7, qq_b8, qq_b9, qq_b10, qq_b11, qq_b12, qq_b13, qq_b18, qq_b19, qq_s0l, qq_s0r, qq_s1l, qq_s1r, qq_s2l, qq_s2r, qq_s3l, qq_s3r, qq_s6l, qq_s6r, qq_s7l, qq_s7r, qq_bt, qq_bf, qq_l0, qq_l1, qq_l2, qq_l3, qq_l4, qq_l5, qq_l6, qq_l7, qq_l8, qq_l9, qq_l10, qq_l11, qq_l12, qq_l13, qq_l14, qq_l15, qq_l20, qq_l30, qq_l31, qq_l36, qq_l37, qq_l38, qq_l39, qq_l40, qq_l41, qq_l42, qq_l43, qq_l45, qq_l47, qq_l48, qq_l49, qq_l50, qq_l57, qq_l58, qq_l59, qq_l60, qq_l61, qq_l62, qq_l63, qq_l80, qq_l81, qq_l97, qq_l98, qq_l99, qq_l100, qq_l103, qq_l112, qq_l113, qq_l119, qq_l120, qq_l121, qq_l124, qq_l126, qq_l128, qq_l255, qq_l360, qq_l512, qq_l729, qq_zg, qq_zs, qq_zsJ, qq_zgT, qq_ltT, qq_ltF, qq_leT, qq_leF, qq_eqT, qq_eqF, qq_nltT, qq_ltnF, qq_nltnT, qq_nltnF, qq_nleT, qq_lenF, qq_nlenT, qq_nlenF, qq_eqnF, qq_neqF, qq_neqnF, qq_neqnT, nI_add, qq_subT, qq_subF, qq_addnT, qq_addnF, qq_naddT, qq_naddF, pk_mul, qq_and, qq_or, if_true, if_false, not_true, not_false_iff, qq_upd, qq_updE, qq_updN, reduceIte, eq_self, ne_eq, true_and, and_true, Nat.add_zero, Nat.zero_add, Nat.add_sub_cancel]
    · have : (k == 0) = false := by rw [beq_eq_false_iff_ne]; omega
      rw [this]
      simp (disch := omega) only [Bool.false_eq_true, qq_b1, qq_b2, qq_b3, qq_b4, qq_b5, qq_b6, qq_b7, qq_b8, qq_b9, qq_b10, qq_b11, qq_b12, qq_b13, qq_b18, qq_b19, qq_s0l, qq_s0r, qq_s1l, qq_s1r, qq_s2l, qq_s2r, qq_s3l, qq_s3r, qq_s6l, qq_s6r, qq_s7l, qq_s7r, qq_bt, qq_bf, qq_l0, qq_l1, qq_l2, qq_l3, qq_l4, qq_l5, qq_l6, qq_l7, qq_l8, qq_l9, qq_l10, qq_l11, qq_l12, qq_l13, qq_l14, qq_l15, qq_l20, qq_l30, qq_l31, qq_l36, qq_l37, qq_l38, qq_l39, qq_l40, qq_l41, qq_l42, qq_l43, qq_l45, qq_l47, qq_l48, qq_l49, qq_l50, qq_l57, qq_l58, qq_l59, qq_l60, qq_l61, qq_l62, qq_l63, qq_l80, qq_l81, qq_l97, qq_l98, qq_l99, qq_l100, qq_l103, qq_l112, qq_l113, qq_l119, qq_l120, qq_l121, qq_l124, qq_l126, qq_l128, qq_l255, qq_l360, qq_l512, qq_l729, qq_zg, qq_zs, qq_zsJ, qq_zgT, qq_ltT, qq_ltF, qq_leT, qq_leF, qq_eqT, qq_eqF, qq_nltT, qq_ltnF, qq_nltnT, qq_nltnF, qq_nleT, qq_lenF, qq_nlenT, qq_nlenF, qq_eqnF, qq_neqF, qq_neqnF, qq_neqnT, nI_add, qq_subT, qq_subF, qq_addnT, qq_addnF, qq_naddT, qq_naddF, pk_mul, qq_and, qq_or, if_true, if_false, not_true, not_false_iff, qq_upd, qq_updE, qq_updN, reduceIte, eq_self, ne_eq, true_and, and_true, Nat.add_zero, Nat.zero_add, Nat.add_sub_cancel]
theorem qq_mcalmB {tm : Int32} {text : Nat → Int32} {lv : Nat → Nat → Nat → Nat → Nat → Bool} (hM : qq_LM tm text lv) {line hts : Nat → Int32} {P n : Nat} (base at_ ends fault opened rm tl tb : Int32) (tape names row : Nat → Int32) {x : Int32} (hx : f_M_within (Int32.toInt64 x) 0 1 = nI 0) : f_M_calm tm base at_ ends fault opened (nI n) rm tl tb hts tape text names line row x = some (-nI 1, base, at_, ends, fault, opened, rm, tl, names, row) := by
  unfold f_M_calm
  rw [hx]
  simp (disch := omega) only [qq_b1, qq_b2, qq_b3, qq_b4, qq_b5, qq_b6, qq_b7, qq_b8, qq_b9, qq_b10, qq_b11, qq_b12, qq_b13, qq_b18, qq_b19, qq_s0l, qq_s0r, qq_s1l, qq_s1r, qq_s2l, qq_s2r, qq_s3l, qq_s3r, qq_s6l, qq_s6r, qq_s7l, qq_s7r, qq_bt, qq_bf, qq_l0, qq_l1, qq_l2, qq_l3, qq_l4, qq_l5, qq_l6, qq_l7, qq_l8, qq_l9, qq_l10, qq_l11, qq_l12, qq_l13, qq_l14, qq_l15, qq_l20, qq_l30, qq_l31, qq_l36, qq_l37, qq_l38, qq_l39, qq_l40, qq_l41, qq_l42, qq_l43, qq_l45, qq_l47, qq_l48, qq_l49, qq_l50, qq_l57, qq_l58, qq_l59, qq_l60, qq_l61, qq_l62, qq_l63, qq_l80, qq_l81, qq_l97, qq_l98, qq_l99, qq_l100, qq_l103, qq_l112, qq_l113, qq_l119, qq_l120, qq_l121, qq_l124, qq_l126, qq_l128, qq_l255, qq_l360, qq_l512, qq_l729, qq_zg, qq_zs, qq_zsJ, qq_zgT, qq_ltT, qq_ltF, qq_leT, qq_leF, qq_eqT, qq_eqF, qq_nltT, qq_ltnF, qq_nltnT, qq_nltnF, qq_nleT, qq_lenF, qq_nlenT, qq_nlenF, qq_eqnF, qq_neqF, qq_neqnF, qq_neqnT, nI_add, qq_subT, qq_subF, qq_addnT, qq_addnF, qq_naddT, qq_naddF, pk_mul, qq_and, qq_or, if_true, if_false, not_true, not_false_iff, qq_upd, qq_updE, qq_updN, reduceIte, eq_self, ne_eq, true_and, and_true, Nat.add_zero, Nat.zero_add, Nat.add_sub_cancel]
