/-! LAYER (c): restored (by wip/whole/c/c.py) -/
theorem qq_mem {q : Nat → Nat} {n p : Nat} : qq_pl q n p < n ↔ ∃ j, j < n ∧ q j = p := by
  constructor
  · intro h; exact ⟨_, h, qq_pl_is h⟩
  · intro ⟨j, hj, e⟩
    rcases Nat.lt_or_ge (qq_pl q n p) n with h | h
    · exact h
    · exact absurd e (qq_pl_not (by omega) j hj)
theorem qq_mem_rem {q : Nat → Nat} {n P k o : Nat} (hV : qq_Vl q (n + 1) P) (hk : k < n + 1) : qq_pl (qq_rem q k) n o < n ↔ qq_pl q (n + 1) o < n + 1 ∧ o ≠ q k := by
  rw [qq_mem, qq_mem]
  constructor
  · intro ⟨j, hj, e⟩
    unfold qq_rem at e
    by_cases h : j < k
    · rw [if_pos h] at e
      refine ⟨⟨j, by omega, e⟩, fun e2 => ?_⟩
      have := hV.2 j k (by omega) hk (by rw [e, e2])
      omega
    · rw [if_neg h] at e
      refine ⟨⟨j + 1, by omega, e⟩, fun e2 => ?_⟩
      have := hV.2 (j + 1) k (by omega) hk (by rw [e, e2])
      omega
  · intro ⟨⟨j, hj, e⟩, hne⟩
    have hjk : j ≠ k := fun h => hne (by rw [← e, h])
    by_cases h : j < k
    · exact ⟨j, by omega, by unfold qq_rem; rw [if_pos h]; exact e⟩
    · exact ⟨j - 1, by omega, by unfold qq_rem; rw [if_neg (by omega), show j - 1 + 1 = j by omega]; exact e⟩
/-! counting anew by people -/
theorem qq_cnt_or {a : Nat} {f g : Nat → Bool} (hg : g a = false) : ∀ P, qq_cnt (fun o => (decide (o = a) || g o) && f o) P = qq_cnt (fun o => g o && f o) P + (if a < P ∧ f a = true then 1 else 0)
  | 0 => by rw [if_neg (by omega)]; rfl
  | P + 1 => by
    unfold qq_cnt
    rw [qq_cnt_or hg P]
    by_cases h : P = a
    · subst h
      rw [decide_eq_true rfl, hg]
      cases hf : f P with
      | true => simp
      | false => simp
    · rw [decide_eq_false h]
      have hE : (a < P + 1 ∧ f a = true) = (a < P ∧ f a = true) := propext ⟨fun hh => ⟨by omega, hh.2⟩, fun hh => ⟨by omega, hh.2⟩⟩
      simp only [hE, Bool.false_or]
      exact Nat.add_right_comm _ _ _
theorem qq_cnt_re {lf : Nat → Nat} {P : Nat} (f : Nat → Bool) : ∀ len, qq_Vl lf len P → qq_cnt (fun k => f (lf k)) len = qq_cnt (fun o => decide (qq_pl lf len o < len) && f o) P
  | 0, _ => by
    have h : ∀ m, qq_cnt (fun o => decide (qq_pl lf 0 o < 0) && f o) m = 0 := by
      intro m
      induction m with
      | zero => rfl
      | succ m ih => unfold qq_cnt; rw [ih]; simp
    rw [h]
    rfl
  | len + 1, hV => by
    have hV' : qq_Vl lf len P := ⟨fun i hi => hV.1 i (by omega), fun i j hi hj e => hV.2 i j (by omega) (by omega) e⟩
    have ih := qq_cnt_re f len hV'
    have hg : decide (qq_pl lf len (lf len) < len) = false := decide_eq_false (fun h => by
      have := hV.2 _ len (by omega) (by omega) (qq_pl_is h)
      omega)
    have e : qq_cnt (fun o => decide (qq_pl lf (len + 1) o < len + 1) && f o) P = qq_cnt (fun o => (decide (o = lf len) || decide (qq_pl lf len o < len)) && f o) P := by
      apply qq_cnt_congr
      intro o _
      congr 1
      rw [qq_pl_succ hV (by omega)]
      by_cases h1 : o = lf len
      · rw [if_pos h1, decide_eq_true h1, decide_eq_true (by omega)]
        rfl
      · rw [if_neg h1, decide_eq_false h1]
        by_cases h2 : qq_pl lf len o < len
        · rw [if_pos h2, decide_eq_true h2, decide_eq_true (by omega)]
          rfl
        · rw [if_neg h2, decide_eq_false h2, decide_eq_false (by omega)]
          rfl
    rw [e, qq_cnt_or hg P, ← ih, qq_cnt]
    by_cases hf : f (lf len) = true
    · rw [if_pos hf, if_pos ⟨hV.1 len (by omega), hf⟩]
    · rw [if_neg hf, if_neg (fun h => hf h.2)]
theorem qq_ite_le {b c : Bool} (h : b = true → c = true) : (if b = true then 1 else 0) ≤ (if c = true then 1 else 0) := by
  cases hb : b with
  | false => simp
  | true => rw [h hb]; simp
theorem qq_cnt_mono {p r : Nat → Bool} : ∀ {n : Nat}, (∀ i, i < n → p i = true → r i = true) → qq_cnt p n ≤ qq_cnt r n
  | 0, _ => Nat.le_refl 0
  | n + 1, h => by
    have h1 := qq_cnt_mono (p := p) (r := r) (n := n) (fun i hi => h i (by omega))
    have h2 := qq_ite_le (h n (by omega))
    unfold qq_cnt
    exact Nat.add_le_add h1 h2
theorem qq_cnt_strict {p r : Nat → Bool} : ∀ {n j : Nat}, (∀ i, i < n → p i = true → r i = true) → j < n → p j = false → r j = true → qq_cnt p n < qq_cnt r n
  | n + 1, j, h, hj, h1, h2 => by
    unfold qq_cnt
    rcases Nat.eq_or_lt_of_le (Nat.lt_succ_iff.mp hj) with e | e
    · subst e
      have h3 := qq_cnt_mono (p := p) (r := r) (n := j) (fun i hi => h i (by omega))
      rw [h1, h2]
      exact Nat.lt_succ_of_le h3
    · have h3 := qq_cnt_strict (p := p) (r := r) (n := n) (fun i hi => h i (by omega)) e h1 h2
      have h4 := qq_ite_le (h n (by omega))
      exact Nat.add_lt_add_of_lt_of_le h3 h4
/-- how many taller among those left -/
def qq_fnd (H lf : Nat → Nat) (len i : Nat) : Nat := qq_cnt (fun k => decide (H (lf i) < H (lf k))) len
theorem qq_fnd_lt {H lf : Nat → Nat} {len i : Nat} (hi : i < len) : qq_fnd H lf len i < len := by
  have h := qq_cnt_strict (p := fun k => decide (H (lf i) < H (lf k))) (r := fun _ => true) (n := len) (j := i) (fun _ _ _ => rfl) hi (decide_eq_false (by omega)) rfl
  have h2 : ∀ n, qq_cnt (fun _ => true) n = n := by
    intro n
    induction n with
    | zero => rfl
    | succ n ih => unfold qq_cnt; rw [ih]; rfl
  rw [h2] at h
  exact h
theorem qq_fnd_inj {H lf : Nat → Nat} {len P i j : Nat} (hV : qq_Vl lf len P) (hHV : qq_HV H P) (hi : i < len) (hj : j < len) (e : qq_fnd H lf len i = qq_fnd H lf len j) : i = j := by
  have key : ∀ a b, a < len → b < len → H (lf a) < H (lf b) → qq_fnd H lf len b < qq_fnd H lf len a := fun a b ha hb hab =>
    qq_cnt_strict (j := b) (fun k _ hk => decide_eq_true (by have := of_decide_eq_true hk; omega)) hb (decide_eq_false (by omega)) (decide_eq_true hab)
  rcases Nat.lt_trichotomy (H (lf i)) (H (lf j)) with h | h | h
  · have := key i j hi hj h; omega
  · exact hV.2 i j hi hj (hHV.2 _ _ (hV.1 i hi) (hV.1 j hj) h)
  · have := key j i hj hi h; omega
theorem qq_fnd_ex {H lf : Nat → Nat} {len P t : Nat} (hV : qq_Vl lf len P) (hHV : qq_HV H P) (ht : t < len) : ∃ i, i < len ∧ qq_fnd H lf len i = t := by
  by_cases h : ∃ i, i < len ∧ qq_fnd H lf len i = t
  · exact h
  · exfalso
    have hVf : qq_Vl (qq_fnd H lf len) len len := ⟨fun i hi => qq_fnd_lt hi, fun i j hi hj e => qq_fnd_inj hV hHV hi hj e⟩
    have := qq_Vl_lt hVf ht (fun i hi e => h ⟨i, hi, e⟩)
    omega
/-! the class -/
set_option maxRecDepth 100000 in
set_option maxHeartbeats 4000000 in
theorem qq_pil18 {hts : Nat → Int32} {H : Nat → Nat} {P : Nat} (hH : qq_Ln hts H P) (hB : ∀ p, p < P → H p < 1000) (hP : P ≤ 9) {lw : Nat → Int32} {lf : Nat → Nat} {len i : Nat} (hL : qq_Ln lw lf len) (hV : ∀ i, i < len → lf i < P) (hn : len ≤ 9) (hi : i < len) :
    ∀ t k fuel, k + t = len → t < fuel → f_Books_placeInLeft_L18 (nI P) hts (nI len) lw (nI i) fuel (nI (qq_cnt (fun k => decide (H (lf i) < H (lf k))) k)) (nI k) = some (nI (qq_fnd H lf len i)) := by
  intro t
  induction t with
  | zero =>
    intro k fuel h hf
    obtain ⟨f, rfl⟩ : ∃ f, fuel = f + 1 := ⟨fuel - 1, by omega⟩
    obtain rfl : k = len := by omega
    rw [f_Books_placeInLeft_L18]
    unfold f_Line_size
    simp (disch := omega) only [qq_b1, qq_b2, qq_b3, qq_b4, qq_b5, qq_b6, qq_b7, qq_b8, qq_b9, qq_b10, qq_b11, qq_b12, qq_b13, qq_b18, qq_b19, qq_s0l, qq_s0r, qq_s1l, qq_s1r, qq_s2l, qq_s2r, qq_s3l, qq_s3r, qq_s6l, qq_s6r, qq_s7l, qq_s7r, qq_bt, qq_bf, qq_l70, qq_l24, qq_l23, qq_l22, qq_l21, qq_l19, qq_l18, qq_l17, qq_l16, qq_l25, qq_l32, qq_l33, qq_l34, qq_l35, qq_l44, qq_l46, qq_l108, qq_l0, qq_l1, qq_l2, qq_l3, qq_l4, qq_l5, qq_l6, qq_l7, qq_l8, qq_l9, qq_l10, qq_l11, qq_l12, qq_l13, qq_l14, qq_l15, qq_l20, qq_l30, qq_l31, qq_l36, qq_l37, qq_l38, qq_l39, qq_l40, qq_l41, qq_l42, qq_l43, qq_l45, qq_l47, qq_l48, qq_l49, qq_l50, qq_l57, qq_l58, qq_l59, qq_l60, qq_l61, qq_l62, qq_l63, qq_l80, qq_l81, qq_l97, qq_l98, qq_l99, qq_l100, qq_l103, qq_l112, qq_l113, qq_l119, qq_l120, qq_l121, qq_l124, qq_l126, qq_l128, qq_l255, qq_l360, qq_l512, qq_l729, qq_zg, qq_zs, qq_zsJ, qq_zgT, qq_ltT, qq_ltF, qq_leT, qq_leF, qq_eqT, qq_eqF, qq_nltT, qq_ltnF, qq_nltnT, qq_nltnF, qq_nleT, qq_lenF, qq_nlenT, qq_nlenF, qq_eqnF, qq_neqF, qq_neqnF, qq_neqnT, nI_add, qq_subT, qq_subF, qq_addnT, qq_addnF, qq_naddT, qq_naddF, pk_mul, qq_and, qq_or, if_true, if_false, not_true, not_false_iff, qq_upd, qq_updE, qq_updN, reduceIte, eq_self, ne_eq, true_and, and_true, Nat.add_zero, Nat.zero_add, Nat.add_sub_cancel]
    rfl
  | succ t ih =>
    intro k fuel h hf
    obtain ⟨f, rfl⟩ : ∃ f, fuel = f + 1 := ⟨fuel - 1, by omega⟩
    rw [f_Books_placeInLeft_L18]
    unfold f_Line_size
    have h1 := hV i hi
    have h2 := hV k (by omega)
    simp (disch := omega) only [qq_at hL, qq_isTaller hH hB, qq_b1, qq_b2, qq_b3, qq_b4, qq_b5, qq_b6, qq_b7, qq_b8, qq_b9, qq_b10, qq_b11, qq_b12, qq_b13, qq_b18, qq_b19, qq_s0l, qq_s0r, qq_s1l, qq_s1r, qq_s2l, qq_s2r, qq_s3l, qq_s3r, qq_s6l, qq_s6r, qq_s7l, qq_s7r, qq_bt, qq_bf, qq_l70, qq_l24, qq_l23, qq_l22, qq_l21, qq_l19, qq_l18, qq_l17, qq_l16, qq_l25, qq_l32, qq_l33, qq_l34, qq_l35, qq_l44, qq_l46, qq_l108, qq_l0, qq_l1, qq_l2, qq_l3, qq_l4, qq_l5, qq_l6, qq_l7, qq_l8, qq_l9, qq_l10, qq_l11, qq_l12, qq_l13, qq_l14, qq_l15, qq_l20, qq_l30, qq_l31, qq_l36, qq_l37, qq_l38, qq_l39, qq_l40, qq_l41, qq_l42, qq_l43, qq_l45, qq_l47, qq_l48, qq_l49, qq_l50, qq_l57, qq_l58, qq_l59, qq_l60, qq_l61, qq_l62, qq_l63, qq_l80, qq_l81, qq_l97, qq_l98, qq_l99, qq_l100, qq_l103, qq_l112, qq_l113, qq_l119, qq_l120, qq_l121, qq_l124, qq_l126, qq_l128, qq_l255, qq_l360, qq_l512, qq_l729, qq_zg, qq_zs, qq_zsJ, qq_zgT, qq_ltT, qq_ltF, qq_leT, qq_leF, qq_eqT, qq_eqF, qq_nltT, qq_ltnF, qq_nltnT, qq_nltnF, qq_nleT, qq_lenF, qq_nlenT, qq_nlenF, qq_eqnF, qq_neqF, qq_neqnF, qq_neqnT, nI_add, qq_subT, qq_subF, qq_addnT, qq_addnF, qq_naddT, qq_naddF, pk_mul, qq_and, qq_or, if_true, if_false, not_true, not_false_iff, qq_upd, qq_updE, qq_updN, reduceIte, eq_self, ne_eq, true_and, and_true, Nat.add_zero, Nat.zero_add, Nat.add_sub_cancel]
    rw [← ih (k + 1) f (by omega) (by omega), qq_cnt]
    by_cases hc : H (lf i) < H (lf k)
    · rw [decide_eq_true hc]
      simp (disch := omega) only [qq_b1, qq_b2, qq_b3, qq_b4, qq_b5, qq_b6, qq_b7, qq_b8, qq_b9, qq_b10, qq_b11, qq_b12, qq_b13, qq_b18, qq_b19, qq_s0l, qq_s0r, qq_s1l, qq_s1r, qq_s2l, qq_s2r, qq_s3l, qq_s3r, qq_s6l, qq_s6r, qq_s7l, qq_s7r, qq_bt, qq_bf, qq_l70, qq_l24, qq_l23, qq_l22, qq_l21, qq_l19, qq_l18, qq_l17, qq_l16, qq_l25, qq_l32, qq_l33, qq_l34, qq_l35, qq_l44, qq_l46, qq_l108, qq_l0, qq_l1, qq_l2, qq_l3, qq_l4, qq_l5, qq_l6, qq_l7, qq_l8, qq_l9, qq_l10, qq_l11, qq_l12, qq_l13, qq_l14, qq_l15, qq_l20, qq_l30, qq_l31, qq_l36, qq_l37, qq_l38, qq_l39, qq_l40, qq_l41, qq_l42, qq_l43, qq_l45, qq_l47, qq_l48, qq_l49, qq_l50, qq_l57, qq_l58, qq_l59, qq_l60, qq_l61, qq_l62, qq_l63, qq_l80, qq_l81, qq_l97, qq_l98, qq_l99, qq_l100, qq_l103, qq_l112, qq_l113, qq_l119, qq_l120, qq_l121, qq_l124, qq_l126, qq_l128, qq_l255, qq_l360, qq_l512, qq_l729, qq_zg, qq_zs, qq_zsJ, qq_zgT, qq_ltT, qq_ltF, qq_leT, qq_leF, qq_eqT, qq_eqF, qq_nltT, qq_ltnF, qq_nltnT, qq_nltnF, qq_nleT, qq_lenF, qq_nlenT, qq_nlenF, qq_eqnF, qq_neqF, qq_neqnF, qq_neqnT, nI_add, qq_subT, qq_subF, qq_addnT, qq_addnF, qq_naddT, qq_naddF, pk_mul, qq_and, qq_or, if_true, if_false, not_true, not_false_iff, qq_upd, qq_updE, qq_updN, reduceIte, eq_self, ne_eq, true_and, and_true, Nat.add_zero, Nat.zero_add, Nat.add_sub_cancel]
    · rw [decide_eq_false hc]
      simp (disch := omega) only [Bool.false_eq_true, qq_b1, qq_b2, qq_b3, qq_b4, qq_b5, qq_b6, qq_b7, qq_b8, qq_b9, qq_b10, qq_b11, qq_b12, qq_b13, qq_b18, qq_b19, qq_s0l, qq_s0r, qq_s1l, qq_s1r, qq_s2l, qq_s2r, qq_s3l, qq_s3r, qq_s6l, qq_s6r, qq_s7l, qq_s7r, qq_bt, qq_bf, qq_l70, qq_l24, qq_l23, qq_l22, qq_l21, qq_l19, qq_l18, qq_l17, qq_l16, qq_l25, qq_l32, qq_l33, qq_l34, qq_l35, qq_l44, qq_l46, qq_l108, qq_l0, qq_l1, qq_l2, qq_l3, qq_l4, qq_l5, qq_l6, qq_l7, qq_l8, qq_l9, qq_l10, qq_l11, qq_l12, qq_l13, qq_l14, qq_l15, qq_l20, qq_l30, qq_l31, qq_l36, qq_l37, qq_l38, qq_l39, qq_l40, qq_l41, qq_l42, qq_l43, qq_l45, qq_l47, qq_l48, qq_l49, qq_l50, qq_l57, qq_l58, qq_l59, qq_l60, qq_l61, qq_l62, qq_l63, qq_l80, qq_l81, qq_l97, qq_l98, qq_l99, qq_l100, qq_l103, qq_l112, qq_l113, qq_l119, qq_l120, qq_l121, qq_l124, qq_l126, qq_l128, qq_l255, qq_l360, qq_l512, qq_l729, qq_zg, qq_zs, qq_zsJ, qq_zgT, qq_ltT, qq_ltF, qq_leT, qq_leF, qq_eqT, qq_eqF, qq_nltT, qq_ltnF, qq_nltnT, qq_nltnF, qq_nleT, qq_lenF, qq_nlenT, qq_nlenF, qq_eqnF, qq_neqF, qq_neqnF, qq_neqnT, nI_add, qq_subT, qq_subF, qq_addnT, qq_addnF, qq_naddT, qq_naddF, pk_mul, qq_and, qq_or, if_true, if_false, not_true, not_false_iff, qq_upd, qq_updE, qq_updN, reduceIte, eq_self, ne_eq, true_and, and_true, Nat.add_zero, Nat.zero_add, Nat.add_sub_cancel]
set_option maxRecDepth 100000 in
set_option maxHeartbeats 4000000 in
theorem qq_pil2 {hts : Nat → Int32} {H : Nat → Nat} {P : Nat} (hH : qq_Ln hts H P) (hB : ∀ p, p < P → H p < 1000) (hP : P ≤ 9) {lw : Nat → Int32} {lf : Nat → Nat} {len : Nat} (hL : qq_Ln lw lf len) (hV : ∀ i, i < len → lf i < P) (hn : len ≤ 9) {t0 : Nat} (ht0 : t0 < 1000) :
    ∀ t k fuel, k + t = len → t < fuel → f_Books_placeInLeft_L2 (nI P) hts (nI len) lw (nI t0) fuel (nI k) = some (if qq_fst (fun i => qq_fnd H lf len i == t0) t k < len then .inr (nI (qq_fst (fun i => qq_fnd H lf len i == t0) t k)) else .inl ()) := by
  intro t
  induction t with
  | zero =>
    intro k fuel h hf
    obtain ⟨f, rfl⟩ : ∃ f, fuel = f + 1 := ⟨fuel - 1, by omega⟩
    rw [f_Books_placeInLeft_L2]
    unfold f_Line_size
    simp (disch := omega) only [qq_b1, qq_b2, qq_b3, qq_b4, qq_b5, qq_b6, qq_b7, qq_b8, qq_b9, qq_b10, qq_b11, qq_b12, qq_b13, qq_b18, qq_b19, qq_s0l, qq_s0r, qq_s1l, qq_s1r, qq_s2l, qq_s2r, qq_s3l, qq_s3r, qq_s6l, qq_s6r, qq_s7l, qq_s7r, qq_bt, qq_bf, qq_l70, qq_l24, qq_l23, qq_l22, qq_l21, qq_l19, qq_l18, qq_l17, qq_l16, qq_l25, qq_l32, qq_l33, qq_l34, qq_l35, qq_l44, qq_l46, qq_l108, qq_l0, qq_l1, qq_l2, qq_l3, qq_l4, qq_l5, qq_l6, qq_l7, qq_l8, qq_l9, qq_l10, qq_l11, qq_l12, qq_l13, qq_l14, qq_l15, qq_l20, qq_l30, qq_l31, qq_l36, qq_l37, qq_l38, qq_l39, qq_l40, qq_l41, qq_l42, qq_l43, qq_l45, qq_l47, qq_l48, qq_l49, qq_l50, qq_l57, qq_l58, qq_l59, qq_l60, qq_l61, qq_l62, qq_l63, qq_l80, qq_l81, qq_l97, qq_l98, qq_l99, qq_l100, qq_l103, qq_l112, qq_l113, qq_l119, qq_l120, qq_l121, qq_l124, qq_l126, qq_l128, qq_l255, qq_l360, qq_l512, qq_l729, qq_zg, qq_zs, qq_zsJ, qq_zgT, qq_ltT, qq_ltF, qq_leT, qq_leF, qq_eqT, qq_eqF, qq_nltT, qq_ltnF, qq_nltnT, qq_nltnF, qq_nleT, qq_lenF, qq_nlenT, qq_nlenF, qq_eqnF, qq_neqF, qq_neqnF, qq_neqnT, nI_add, qq_subT, qq_subF, qq_addnT, qq_addnF, qq_naddT, qq_naddF, pk_mul, qq_and, qq_or, if_true, if_false, not_true, not_false_iff, qq_upd, qq_updE, qq_updN, reduceIte, eq_self, ne_eq, true_and, and_true, Nat.add_zero, Nat.zero_add, Nat.add_sub_cancel]
    rw [if_neg (by unfold qq_fst; omega)]
  | succ t ih =>
    intro k fuel h hf
    obtain ⟨f, rfl⟩ : ∃ f, fuel = f + 1 := ⟨fuel - 1, by omega⟩
    rw [f_Books_placeInLeft_L2, qq_fst]
    unfold f_Line_size
    have hk : k < len := by omega
    have e1 := qq_pil18 hH hB hP hL hV hn hk len 0 FU (by omega) (by rw [qq_FU]; omega)
    rw [show qq_cnt (fun j => decide (H (lf k) < H (lf j))) 0 = 0 from rfl] at e1
    have hlt := qq_fnd_lt (H := H) (lf := lf) hk
    have e2 := ih (k + 1) f (by omega) (by omega)
    by_cases hc : qq_fnd H lf len k = t0
    · have h3 : (qq_fnd H lf len k == t0) = true := beq_iff_eq.mpr hc
      simp (disch := omega) only [e1, hc, h3, hk, beq_self_eq_true, qq_b1, qq_b2, qq_b3, qq_b4, qq_b5, qq_b6, qq_b7, qq_b8, qq_b9, qq_b10, qq_b11, qq_b12, qq_b13, qq_b18, qq_b19, qq_s0l, qq_s0r, qq_s1l, qq_s1r, qq_s2l, qq_s2r, qq_s3l, qq_s3r, qq_s6l, qq_s6r, qq_s7l, qq_s7r, qq_bt, qq_bf, qq_l70, qq_l24, qq_l23, qq_l22, qq_l21, qq_l19, qq_l18, qq_l17, qq_l16, qq_l25, qq_l32, qq_l33, qq_l34, qq_l35, qq_l44, qq_l46, qq_l108, qq_l0, qq_l1, qq_l2, qq_l3, qq_l4, qq_l5, qq_l6, qq_l7, qq_l8, qq_l9, qq_l10, qq_l11, qq_l12, qq_l13, qq_l14, qq_l15, qq_l20, qq_l30, qq_l31, qq_l36, qq_l37, qq_l38, qq_l39, qq_l40, qq_l41, qq_l42, qq_l43, qq_l45, qq_l47, qq_l48, qq_l49, qq_l50, qq_l57, qq_l58, qq_l59, qq_l60, qq_l61, qq_l62, qq_l63, qq_l80, qq_l81, qq_l97, qq_l98, qq_l99, qq_l100, qq_l103, qq_l112, qq_l113, qq_l119, qq_l120, qq_l121, qq_l124, qq_l126, qq_l128, qq_l255, qq_l360, qq_l512, qq_l729, qq_zg, qq_zs, qq_zsJ, qq_zgT, qq_ltT, qq_ltF, qq_leT, qq_leF, qq_eqT, qq_eqF, qq_nltT, qq_ltnF, qq_nltnT, qq_nltnF, qq_nleT, qq_lenF, qq_nlenT, qq_nlenF, qq_eqnF, qq_neqF, qq_neqnF, qq_neqnT, nI_add, qq_subT, qq_subF, qq_addnT, qq_addnF, qq_naddT, qq_naddF, pk_mul, qq_and, qq_or, if_true, if_false, not_true, not_false_iff, qq_upd, qq_updE, qq_updN, reduceIte, eq_self, ne_eq, true_and, and_true, Nat.add_zero, Nat.zero_add, Nat.add_sub_cancel]
    · have h3 : (qq_fnd H lf len k == t0) = false := by rw [beq_eq_false_iff_ne]; exact hc
      simp (disch := omega) only [e1, hc, h3, Bool.false_eq_true, qq_b1, qq_b2, qq_b3, qq_b4, qq_b5, qq_b6, qq_b7, qq_b8, qq_b9, qq_b10, qq_b11, qq_b12, qq_b13, qq_b18, qq_b19, qq_s0l, qq_s0r, qq_s1l, qq_s1r, qq_s2l, qq_s2r, qq_s3l, qq_s3r, qq_s6l, qq_s6r, qq_s7l, qq_s7r, qq_bt, qq_bf, qq_l70, qq_l24, qq_l23, qq_l22, qq_l21, qq_l19, qq_l18, qq_l17, qq_l16, qq_l25, qq_l32, qq_l33, qq_l34, qq_l35, qq_l44, qq_l46, qq_l108, qq_l0, qq_l1, qq_l2, qq_l3, qq_l4, qq_l5, qq_l6, qq_l7, qq_l8, qq_l9, qq_l10, qq_l11, qq_l12, qq_l13, qq_l14, qq_l15, qq_l20, qq_l30, qq_l31, qq_l36, qq_l37, qq_l38, qq_l39, qq_l40, qq_l41, qq_l42, qq_l43, qq_l45, qq_l47, qq_l48, qq_l49, qq_l50, qq_l57, qq_l58, qq_l59, qq_l60, qq_l61, qq_l62, qq_l63, qq_l80, qq_l81, qq_l97, qq_l98, qq_l99, qq_l100, qq_l103, qq_l112, qq_l113, qq_l119, qq_l120, qq_l121, qq_l124, qq_l126, qq_l128, qq_l255, qq_l360, qq_l512, qq_l729, qq_zg, qq_zs, qq_zsJ, qq_zgT, qq_ltT, qq_ltF, qq_leT, qq_leF, qq_eqT, qq_eqF, qq_nltT, qq_ltnF, qq_nltnT, qq_nltnF, qq_nleT, qq_lenF, qq_nlenT, qq_nlenF, qq_eqnF, qq_neqF, qq_neqnF, qq_neqnT, nI_add, qq_subT, qq_subF, qq_addnT, qq_addnF, qq_naddT, qq_naddF, pk_mul, qq_and, qq_or, if_true, if_false, not_true, not_false_iff, qq_upd, qq_updE, qq_updN, reduceIte, eq_self, ne_eq, true_and, and_true, Nat.add_zero, Nat.zero_add, Nat.add_sub_cancel]
      exact e2
theorem qq_placeInLeft {hts : Nat → Int32} {H : Nat → Nat} {P : Nat} (hH : qq_Ln hts H P) (hHV : qq_HV H P) (hP : P ≤ 9) {lw : Nat → Int32} {lf : Nat → Nat} {len : Nat} (hL : qq_Ln lw lf len) (hV : qq_Vl lf len P) {i : Nat} (hi : i < len) : f_Books_placeInLeft (nI P) hts (nI len) lw (nI (qq_fnd H lf len i)) = some (nI i) := by
  have hn := qq_nle hV hP
  have hlt := qq_fnd_lt (H := H) (lf := lf) hi
  have e := qq_pil2 hH (qq_HVB hHV) hP hL hV.1 hn (t0 := qq_fnd H lf len i) (by omega) len 0 FU (by omega) (by rw [qq_FU]; omega)
  have e2 : qq_fst (fun j => qq_fnd H lf len j == qq_fnd H lf len i) len 0 = i := qq_fst_eq _ (by omega) (by omega) (beq_self_eq_true _) (fun t h1 h2 => by
    rw [beq_eq_false_iff_ne]
    intro e
    have := qq_fnd_inj hV hHV (by omega) hi e
    omega)
  rw [e2, if_pos hi] at e
  unfold f_Books_placeInLeft
  simp (disch := omega) only [e, qq_b1, qq_b2, qq_b3, qq_b4, qq_b5, qq_b6, qq_b7, qq_b8, qq_b9, qq_b10, qq_b11, qq_b12, qq_b13, qq_b18, qq_b19, qq_s0l, qq_s0r, qq_s1l, qq_s1r, qq_s2l, qq_s2r, qq_s3l, qq_s3r, qq_s6l, qq_s6r, qq_s7l, qq_s7r, qq_bt, qq_bf, qq_l70, qq_l24, qq_l23, qq_l22, qq_l21, qq_l19, qq_l18, qq_l17, qq_l16, qq_l25, qq_l32, qq_l33, qq_l34, qq_l35, qq_l44, qq_l46, qq_l108, qq_l0, qq_l1, qq_l2, qq_l3, qq_l4, qq_l5, qq_l6, qq_l7, qq_l8, qq_l9, qq_l10, qq_l11, qq_l12, qq_l13, qq_l14, qq_l15, qq_l20, qq_l30, qq_l31, qq_l36, qq_l37, qq_l38, qq_l39, qq_l40, qq_l41, qq_l42, qq_l43, qq_l45, qq_l47, qq_l48, qq_l49, qq_l50, qq_l57, qq_l58, qq_l59, qq_l60, qq_l61, qq_l62, qq_l63, qq_l80, qq_l81, qq_l97, qq_l98, qq_l99, qq_l100, qq_l103, qq_l112, qq_l113, qq_l119, qq_l120, qq_l121, qq_l124, qq_l126, qq_l128, qq_l255, qq_l360, qq_l512, qq_l729, qq_zg, qq_zs, qq_zsJ, qq_zgT, qq_ltT, qq_ltF, qq_leT, qq_leF, qq_eqT, qq_eqF, qq_nltT, qq_ltnF, qq_nltnT, qq_nltnF, qq_nleT, qq_lenF, qq_nlenT, qq_nlenF, qq_eqnF, qq_neqF, qq_neqnF, qq_neqnT, nI_add, qq_subT, qq_subF, qq_addnT, qq_addnF, qq_naddT, qq_naddF, pk_mul, qq_and, qq_or, if_true, if_false, not_true, not_false_iff, qq_upd, qq_updE, qq_updN, reduceIte, eq_self, ne_eq, true_and, and_true, Nat.add_zero, Nat.zero_add, Nat.add_sub_cancel]
/-! sets as bits -/
theorem qq_bit1 : ∀ S, S < 512 → ∀ p, p < 9 → f_M_isIn (nI S) (nI p) = qq_t (S.testBit p) := by decide +kernel
theorem qq_bit2 : ∀ S, S < 512 → ∀ p, p < 9 → nI S ||| (nI 1 <<< (nI p &&& nI 31)) = nI (S ||| 2 ^ p) ∧ S ||| 2 ^ p < 512 := by decide +kernel
def qq_rmv (S p : Nat) : Nat := S &&& (511 - 2 ^ p)
theorem qq_bit3 : ∀ S, S < 512 → ∀ p, p < 9 → nI S &&& ((nI 1 <<< (nI p &&& nI 31)) ^^^ (-nI 1)) = nI (qq_rmv S p) ∧ qq_rmv S p < 512 := by decide +kernel
theorem qq_bit4 : ∀ p, p < 9 → ∀ o, o < 9 → (511 - 2 ^ p).testBit o = decide (o ≠ p) := by decide +kernel
theorem qq_rmv_bit {S p o : Nat} (hp : p < 9) (ho : o < 9) : (qq_rmv S p).testBit o = (S.testBit o && decide (o ≠ p)) := by
  unfold qq_rmv
  rw [Nat.testBit_and, qq_bit4 p hp o ho]
theorem qq_or_bit {S p o : Nat} : (S ||| 2 ^ p).testBit o = (S.testBit o || decide (o = p)) := by
  rw [Nat.testBit_or, Nat.testBit_two_pow]
  congr 1
  by_cases h : p = o
  · rw [decide_eq_true h, decide_eq_true h.symm]
  · rw [decide_eq_false h, decide_eq_false (fun e => h e.symm)]
/-- the set is those of the row -/
def qq_St (S : Nat) (lf : Nat → Nat) (len : Nat) : Prop := S < 512 ∧ ∀ p, p < 9 → S.testBit p = decide (qq_pl lf len p < len)
theorem qq_St0 (lf : Nat → Nat) : qq_St 0 lf 0 := ⟨by omega, fun p _ => by rw [Nat.zero_testBit, decide_eq_false (by omega)]⟩
theorem qq_St_succ {S : Nat} {lf : Nat → Nat} {len P k : Nat} (hS : qq_St S lf k) (hV : qq_Vl lf len P) (hk : k < len) (hP : P ≤ 9) : qq_St (S ||| 2 ^ lf k) lf (k + 1) := by
  have h9 : lf k < 9 := Nat.lt_of_lt_of_le (hV.1 k hk) hP
  refine ⟨(qq_bit2 S hS.1 _ h9).2, fun p hp => ?_⟩
  rw [qq_or_bit, hS.2 p hp, qq_pl_succ hV hk]
  by_cases e : p = lf k
  · rw [if_pos e, decide_eq_true e, Bool.or_true, decide_eq_true (by omega)]
  · rw [if_neg e, decide_eq_false e, Bool.or_false]
    by_cases h2 : qq_pl lf k p < k
    · rw [if_pos h2, decide_eq_true h2, decide_eq_true (by omega)]
    · rw [if_neg h2, decide_eq_false h2, decide_eq_false (by omega)]
theorem qq_St_rem {S : Nat} {lf : Nat → Nat} {len P k : Nat} (hS : qq_St S lf (len + 1)) (hV : qq_Vl lf (len + 1) P) (hk : k < len + 1) (hP : P ≤ 9) : qq_St (qq_rmv S (lf k)) (qq_rem lf k) len := by
  have h9 : lf k < 9 := Nat.lt_of_lt_of_le (hV.1 k hk) hP
  refine ⟨(qq_bit3 S hS.1 _ h9).2, fun p hp => ?_⟩
  rw [qq_rmv_bit h9 hp, hS.2 p hp]
  have h1 := qq_mem_rem (o := p) hV hk
  by_cases h : qq_pl (qq_rem lf k) len p < len
  · have h2 := h1.mp h
    rw [decide_eq_true h, decide_eq_true h2.1, decide_eq_true h2.2]
    rfl
  · rw [decide_eq_false h]
    have h2 : ¬ (qq_pl lf (len + 1) p < len + 1 ∧ p ≠ lf k) := fun hh => h (h1.mpr hh)
    by_cases h3 : qq_pl lf (len + 1) p < len + 1
    · rw [decide_eq_true h3, decide_eq_false (fun h4 => h2 ⟨h3, h4⟩)]
      rfl
    · rw [decide_eq_false h3]
      rfl
set_option maxRecDepth 100000 in
set_option maxHeartbeats 4000000 in
theorem qq_tIn {hts : Nat → Int32} {H : Nat → Nat} {P : Nat} (hH : qq_Ln hts H P) (hB : ∀ p, p < P → H p < 1000) (hP : P ≤ 9) {S p : Nat} (hS : S < 512) (hp : p < P) :
    ∀ t k fuel, k + t = P → t < fuel → f_M_tallerIn_L5 (nI P) hts (nI S) (nI p) fuel (nI (qq_cnt (fun o => S.testBit o && decide (H p < H o)) k)) (nI k) = some (nI (qq_cnt (fun o => S.testBit o && decide (H p < H o)) P)) := by
  intro t
  induction t with
  | zero =>
    intro k fuel h hf
    obtain ⟨f, rfl⟩ : ∃ f, fuel = f + 1 := ⟨fuel - 1, by omega⟩
    obtain rfl : k = P := by omega
    rw [f_M_tallerIn_L5]
    simp (disch := omega) only [qq_b1, qq_b2, qq_b3, qq_b4, qq_b5, qq_b6, qq_b7, qq_b8, qq_b9, qq_b10, qq_b11, qq_b12, qq_b13, qq_b18, qq_b19, qq_s0l, qq_s0r, qq_s1l, qq_s1r, qq_s2l, qq_s2r, qq_s3l, qq_s3r, qq_s6l, qq_s6r, qq_s7l, qq_s7r, qq_bt, qq_bf, qq_l70, qq_l24, qq_l23, qq_l22, qq_l21, qq_l19, qq_l18, qq_l17, qq_l16, qq_l25, qq_l32, qq_l33, qq_l34, qq_l35, qq_l44, qq_l46, qq_l108, qq_l0, qq_l1, qq_l2, qq_l3, qq_l4, qq_l5, qq_l6, qq_l7, qq_l8, qq_l9, qq_l10, qq_l11, qq_l12, qq_l13, qq_l14, qq_l15, qq_l20, qq_l30, qq_l31, qq_l36, qq_l37, qq_l38, qq_l39, qq_l40, qq_l41, qq_l42, qq_l43, qq_l45, qq_l47, qq_l48, qq_l49, qq_l50, qq_l57, qq_l58, qq_l59, qq_l60, qq_l61, qq_l62, qq_l63, qq_l80, qq_l81, qq_l97, qq_l98, qq_l99, qq_l100, qq_l103, qq_l112, qq_l113, qq_l119, qq_l120, qq_l121, qq_l124, qq_l126, qq_l128, qq_l255, qq_l360, qq_l512, qq_l729, qq_zg, qq_zs, qq_zsJ, qq_zgT, qq_ltT, qq_ltF, qq_leT, qq_leF, qq_eqT, qq_eqF, qq_nltT, qq_ltnF, qq_nltnT, qq_nltnF, qq_nleT, qq_lenF, qq_nlenT, qq_nlenF, qq_eqnF, qq_neqF, qq_neqnF, qq_neqnT, nI_add, qq_subT, qq_subF, qq_addnT, qq_addnF, qq_naddT, qq_naddF, pk_mul, qq_and, qq_or, if_true, if_false, not_true, not_false_iff, qq_upd, qq_updE, qq_updN, reduceIte, eq_self, ne_eq, true_and, and_true, Nat.add_zero, Nat.zero_add, Nat.add_sub_cancel]
  | succ t ih =>
    intro k fuel h hf
    obtain ⟨f, rfl⟩ : ∃ f, fuel = f + 1 := ⟨fuel - 1, by omega⟩
    rw [f_M_tallerIn_L5, ← ih (k + 1) f (by omega) (by omega), qq_cnt]
    have hk : k < P := by omega
    have h1 := hB k hk
    have h2 := hB p hp
    have e1 := qq_bit1 S hS k (by omega)
    cases hb : S.testBit k with
    | false =>
      rw [hb] at e1
      simp (disch := omega) only [e1, Bool.false_and, Bool.false_eq_true, qq_b1, qq_b2, qq_b3, qq_b4, qq_b5, qq_b6, qq_b7, qq_b8, qq_b9, qq_b10, qq_b11, qq_b12, qq_b13, qq_b18, qq_b19, qq_s0l, qq_s0r, qq_s1l, qq_s1r, qq_s2l, qq_s2r, qq_s3l, qq_s3r, qq_s6l, qq_s6r, qq_s7l, qq_s7r, qq_bt, qq_bf, qq_l70, qq_l24, qq_l23, qq_l22, qq_l21, qq_l19, qq_l18, qq_l17, qq_l16, qq_l25, qq_l32, qq_l33, qq_l34, qq_l35, qq_l44, qq_l46, qq_l108, qq_l0, qq_l1, qq_l2, qq_l3, qq_l4, qq_l5, qq_l6, qq_l7, qq_l8, qq_l9, qq_l10, qq_l11, qq_l12, qq_l13, qq_l14, qq_l15, qq_l20, qq_l30, qq_l31, qq_l36, qq_l37, qq_l38, qq_l39, qq_l40, qq_l41, qq_l42, qq_l43, qq_l45, qq_l47, qq_l48, qq_l49, qq_l50, qq_l57, qq_l58, qq_l59, qq_l60, qq_l61, qq_l62, qq_l63, qq_l80, qq_l81, qq_l97, qq_l98, qq_l99, qq_l100, qq_l103, qq_l112, qq_l113, qq_l119, qq_l120, qq_l121, qq_l124, qq_l126, qq_l128, qq_l255, qq_l360, qq_l512, qq_l729, qq_zg, qq_zs, qq_zsJ, qq_zgT, qq_ltT, qq_ltF, qq_leT, qq_leF, qq_eqT, qq_eqF, qq_nltT, qq_ltnF, qq_nltnT, qq_nltnF, qq_nleT, qq_lenF, qq_nlenT, qq_nlenF, qq_eqnF, qq_neqF, qq_neqnF, qq_neqnT, nI_add, qq_subT, qq_subF, qq_addnT, qq_addnF, qq_naddT, qq_naddF, pk_mul, qq_and, qq_or, if_true, if_false, not_true, not_false_iff, qq_upd, qq_updE, qq_updN, reduceIte, eq_self, ne_eq, true_and, and_true, Nat.add_zero, Nat.zero_add, Nat.add_sub_cancel]
    | true =>
      rw [hb] at e1
      by_cases hc : H p < H k
      · simp (disch := omega) only [e1, hH k hk, hH p hp, decide_eq_true hc, Bool.true_and, qq_b1, qq_b2, qq_b3, qq_b4, qq_b5, qq_b6, qq_b7, qq_b8, qq_b9, qq_b10, qq_b11, qq_b12, qq_b13, qq_b18, qq_b19, qq_s0l, qq_s0r, qq_s1l, qq_s1r, qq_s2l, qq_s2r, qq_s3l, qq_s3r, qq_s6l, qq_s6r, qq_s7l, qq_s7r, qq_bt, qq_bf, qq_l70, qq_l24, qq_l23, qq_l22, qq_l21, qq_l19, qq_l18, qq_l17, qq_l16, qq_l25, qq_l32, qq_l33, qq_l34, qq_l35, qq_l44, qq_l46, qq_l108, qq_l0, qq_l1, qq_l2, qq_l3, qq_l4, qq_l5, qq_l6, qq_l7, qq_l8, qq_l9, qq_l10, qq_l11, qq_l12, qq_l13, qq_l14, qq_l15, qq_l20, qq_l30, qq_l31, qq_l36, qq_l37, qq_l38, qq_l39, qq_l40, qq_l41, qq_l42, qq_l43, qq_l45, qq_l47, qq_l48, qq_l49, qq_l50, qq_l57, qq_l58, qq_l59, qq_l60, qq_l61, qq_l62, qq_l63, qq_l80, qq_l81, qq_l97, qq_l98, qq_l99, qq_l100, qq_l103, qq_l112, qq_l113, qq_l119, qq_l120, qq_l121, qq_l124, qq_l126, qq_l128, qq_l255, qq_l360, qq_l512, qq_l729, qq_zg, qq_zs, qq_zsJ, qq_zgT, qq_ltT, qq_ltF, qq_leT, qq_leF, qq_eqT, qq_eqF, qq_nltT, qq_ltnF, qq_nltnT, qq_nltnF, qq_nleT, qq_lenF, qq_nlenT, qq_nlenF, qq_eqnF, qq_neqF, qq_neqnF, qq_neqnT, nI_add, qq_subT, qq_subF, qq_addnT, qq_addnF, qq_naddT, qq_naddF, pk_mul, qq_and, qq_or, if_true, if_false, not_true, not_false_iff, qq_upd, qq_updE, qq_updN, reduceIte, eq_self, ne_eq, true_and, and_true, Nat.add_zero, Nat.zero_add, Nat.add_sub_cancel]
      · simp (disch := omega) only [e1, hH k hk, hH p hp, decide_eq_false hc, Bool.true_and, Bool.false_eq_true, qq_b1, qq_b2, qq_b3, qq_b4, qq_b5, qq_b6, qq_b7, qq_b8, qq_b9, qq_b10, qq_b11, qq_b12, qq_b13, qq_b18, qq_b19, qq_s0l, qq_s0r, qq_s1l, qq_s1r, qq_s2l, qq_s2r, qq_s3l, qq_s3r, qq_s6l, qq_s6r, qq_s7l, qq_s7r, qq_bt, qq_bf, qq_l70, qq_l24, qq_l23, qq_l22, qq_l21, qq_l19, qq_l18, qq_l17, qq_l16, qq_l25, qq_l32, qq_l33, qq_l34, qq_l35, qq_l44, qq_l46, qq_l108, qq_l0, qq_l1, qq_l2, qq_l3, qq_l4, qq_l5, qq_l6, qq_l7, qq_l8, qq_l9, qq_l10, qq_l11, qq_l12, qq_l13, qq_l14, qq_l15, qq_l20, qq_l30, qq_l31, qq_l36, qq_l37, qq_l38, qq_l39, qq_l40, qq_l41, qq_l42, qq_l43, qq_l45, qq_l47, qq_l48, qq_l49, qq_l50, qq_l57, qq_l58, qq_l59, qq_l60, qq_l61, qq_l62, qq_l63, qq_l80, qq_l81, qq_l97, qq_l98, qq_l99, qq_l100, qq_l103, qq_l112, qq_l113, qq_l119, qq_l120, qq_l121, qq_l124, qq_l126, qq_l128, qq_l255, qq_l360, qq_l512, qq_l729, qq_zg, qq_zs, qq_zsJ, qq_zgT, qq_ltT, qq_ltF, qq_leT, qq_leF, qq_eqT, qq_eqF, qq_nltT, qq_ltnF, qq_nltnT, qq_nltnF, qq_nleT, qq_lenF, qq_nlenT, qq_nlenF, qq_eqnF, qq_neqF, qq_neqnF, qq_neqnT, nI_add, qq_subT, qq_subF, qq_addnT, qq_addnF, qq_naddT, qq_naddF, pk_mul, qq_and, qq_or, if_true, if_false, not_true, not_false_iff, qq_upd, qq_updE, qq_updN, reduceIte, eq_self, ne_eq, true_and, and_true, Nat.add_zero, Nat.zero_add, Nat.add_sub_cancel]
theorem qq_tallerIn {hts : Nat → Int32} {H : Nat → Nat} {P : Nat} (hH : qq_Ln hts H P) (hB : ∀ p, p < P → H p < 1000) (hP : P ≤ 9) {S p : Nat} (hS : S < 512) (hp : p < P) : f_M_tallerIn (nI P) hts (nI S) (nI p) = some (nI (qq_cnt (fun o => S.testBit o && decide (H p < H o)) P)) := by
  have e := qq_tIn hH hB hP hS hp P 0 FU (by omega) (by rw [qq_FU]; omega)
  rw [show qq_cnt (fun o => S.testBit o && decide (H p < H o)) 0 = 0 from rfl] at e
  unfold f_M_tallerIn
  simp (disch := omega) only [e, qq_b1, qq_b2, qq_b3, qq_b4, qq_b5, qq_b6, qq_b7, qq_b8, qq_b9, qq_b10, qq_b11, qq_b12, qq_b13, qq_b18, qq_b19, qq_s0l, qq_s0r, qq_s1l, qq_s1r, qq_s2l, qq_s2r, qq_s3l, qq_s3r, qq_s6l, qq_s6r, qq_s7l, qq_s7r, qq_bt, qq_bf, qq_l70, qq_l24, qq_l23, qq_l22, qq_l21, qq_l19, qq_l18, qq_l17, qq_l16, qq_l25, qq_l32, qq_l33, qq_l34, qq_l35, qq_l44, qq_l46, qq_l108, qq_l0, qq_l1, qq_l2, qq_l3, qq_l4, qq_l5, qq_l6, qq_l7, qq_l8, qq_l9, qq_l10, qq_l11, qq_l12, qq_l13, qq_l14, qq_l15, qq_l20, qq_l30, qq_l31, qq_l36, qq_l37, qq_l38, qq_l39, qq_l40, qq_l41, qq_l42, qq_l43, qq_l45, qq_l47, qq_l48, qq_l49, qq_l50, qq_l57, qq_l58, qq_l59, qq_l60, qq_l61, qq_l62, qq_l63, qq_l80, qq_l81, qq_l97, qq_l98, qq_l99, qq_l100, qq_l103, qq_l112, qq_l113, qq_l119, qq_l120, qq_l121, qq_l124, qq_l126, qq_l128, qq_l255, qq_l360, qq_l512, qq_l729, qq_zg, qq_zs, qq_zsJ, qq_zgT, qq_ltT, qq_ltF, qq_leT, qq_leF, qq_eqT, qq_eqF, qq_nltT, qq_ltnF, qq_nltnT, qq_nltnF, qq_nleT, qq_lenF, qq_nlenT, qq_nlenF, qq_eqnF, qq_neqF, qq_neqnF, qq_neqnT, nI_add, qq_subT, qq_subF, qq_addnT, qq_addnF, qq_naddT, qq_naddF, pk_mul, qq_and, qq_or, if_true, if_false, not_true, not_false_iff, qq_upd, qq_updE, qq_updN, reduceIte, eq_self, ne_eq, true_and, and_true, Nat.add_zero, Nat.zero_add, Nat.add_sub_cancel]
theorem qq_tIn_fnd {H lf : Nat → Nat} {S len P i : Nat} (hS : qq_St S lf len) (hV : qq_Vl lf len P) (hP : P ≤ 9) : qq_cnt (fun o => S.testBit o && decide (H (lf i) < H o)) P = qq_fnd H lf len i := by
  unfold qq_fnd
  rw [qq_cnt_re (fun o => decide (H (lf i) < H o)) len hV]
  exact qq_cnt_congr fun o ho => by rw [hS.2 o (by omega)]
set_option maxRecDepth 100000 in
set_option maxHeartbeats 4000000 in
theorem qq_r58 {hts : Nat → Int32} {H : Nat → Nat} {P : Nat} (hH : qq_Ln hts H P) (hHV : qq_HV H P) (hP : P ≤ 9) {S : Nat} {lf : Nat → Nat} {len i0 : Nat} (hS : qq_St S lf len) (hV : qq_Vl lf len P) (hi0 : i0 < len) {told : Nat → Int32} {k0 : Nat} (hk0 : k0 < 9) (ht : told k0 = nI (qq_fnd H lf len i0)) :
    ∀ t k fuel x, k + t = P → t < fuel → (lf i0 < k → x = nI (lf i0)) → f_M_restores_L58 (nI P) hts told (nI S) (nI k0) fuel x (nI k) = some (nI (lf i0)) := by
  have hB := qq_HVB hHV
  intro t
  induction t with
  | zero =>
    intro k fuel x h hf hx
    obtain ⟨f, rfl⟩ : ∃ f, fuel = f + 1 := ⟨fuel - 1, by omega⟩
    rw [f_M_restores_L58]
    have := hV.1 i0 hi0
    rw [hx (by omega)]
    simp (disch := omega) only [qq_b1, qq_b2, qq_b3, qq_b4, qq_b5, qq_b6, qq_b7, qq_b8, qq_b9, qq_b10, qq_b11, qq_b12, qq_b13, qq_b18, qq_b19, qq_s0l, qq_s0r, qq_s1l, qq_s1r, qq_s2l, qq_s2r, qq_s3l, qq_s3r, qq_s6l, qq_s6r, qq_s7l, qq_s7r, qq_bt, qq_bf, qq_l70, qq_l24, qq_l23, qq_l22, qq_l21, qq_l19, qq_l18, qq_l17, qq_l16, qq_l25, qq_l32, qq_l33, qq_l34, qq_l35, qq_l44, qq_l46, qq_l108, qq_l0, qq_l1, qq_l2, qq_l3, qq_l4, qq_l5, qq_l6, qq_l7, qq_l8, qq_l9, qq_l10, qq_l11, qq_l12, qq_l13, qq_l14, qq_l15, qq_l20, qq_l30, qq_l31, qq_l36, qq_l37, qq_l38, qq_l39, qq_l40, qq_l41, qq_l42, qq_l43, qq_l45, qq_l47, qq_l48, qq_l49, qq_l50, qq_l57, qq_l58, qq_l59, qq_l60, qq_l61, qq_l62, qq_l63, qq_l80, qq_l81, qq_l97, qq_l98, qq_l99, qq_l100, qq_l103, qq_l112, qq_l113, qq_l119, qq_l120, qq_l121, qq_l124, qq_l126, qq_l128, qq_l255, qq_l360, qq_l512, qq_l729, qq_zg, qq_zs, qq_zsJ, qq_zgT, qq_ltT, qq_ltF, qq_leT, qq_leF, qq_eqT, qq_eqF, qq_nltT, qq_ltnF, qq_nltnT, qq_nltnF, qq_nleT, qq_lenF, qq_nlenT, qq_nlenF, qq_eqnF, qq_neqF, qq_neqnF, qq_neqnT, nI_add, qq_subT, qq_subF, qq_addnT, qq_addnF, qq_naddT, qq_naddF, pk_mul, qq_and, qq_or, if_true, if_false, not_true, not_false_iff, qq_upd, qq_updE, qq_updN, reduceIte, eq_self, ne_eq, true_and, and_true, Nat.add_zero, Nat.zero_add, Nat.add_sub_cancel]
  | succ t ih =>
    intro k fuel x h hf hx
    obtain ⟨f, rfl⟩ : ∃ f, fuel = f + 1 := ⟨fuel - 1, by omega⟩
    rw [f_M_restores_L58]
    have hk : k < P := by omega
    have e1 := qq_bit1 S hS.1 k (by omega)
    rw [hS.2 k (by omega)] at e1
    by_cases hm : qq_pl lf len k < len
    · rw [decide_eq_true hm] at e1
      have e2 := qq_tallerIn hH hB hP hS.1 hk
      have e3 := qq_pl_is hm
      have e4 := qq_tIn_fnd (H := H) (i := qq_pl lf len k) hS hV hP
      rw [e3] at e4
      rw [e4] at e2
      have b1 := qq_fnd_lt (H := H) (lf := lf) hm
      have b2 := qq_fnd_lt (H := H) (lf := lf) hi0
      have hn := qq_nle hV hP
      by_cases hc : qq_fnd H lf len (qq_pl lf len k) = qq_fnd H lf len i0
      · have e5 := qq_fnd_inj hV hHV hm hi0 hc
        rw [e5] at e3
        simp (disch := omega) only [e1, e2, ht, qq_b1, qq_b2, qq_b3, qq_b4, qq_b5, qq_b6, qq_b7, qq_b8, qq_b9, qq_b10, qq_b11, qq_b12, qq_b13, qq_b18, qq_b19, qq_s0l, qq_s0r, qq_s1l, qq_s1r, qq_s2l, qq_s2r, qq_s3l, qq_s3r, qq_s6l, qq_s6r, qq_s7l, qq_s7r, qq_bt, qq_bf, qq_l70, qq_l24, qq_l23, qq_l22, qq_l21, qq_l19, qq_l18, qq_l17, qq_l16, qq_l25, qq_l32, qq_l33, qq_l34, qq_l35, qq_l44, qq_l46, qq_l108, qq_l0, qq_l1, qq_l2, qq_l3, qq_l4, qq_l5, qq_l6, qq_l7, qq_l8, qq_l9, qq_l10, qq_l11, qq_l12, qq_l13, qq_l14, qq_l15, qq_l20, qq_l30, qq_l31, qq_l36, qq_l37, qq_l38, qq_l39, qq_l40, qq_l41, qq_l42, qq_l43, qq_l45, qq_l47, qq_l48, qq_l49, qq_l50, qq_l57, qq_l58, qq_l59, qq_l60, qq_l61, qq_l62, qq_l63, qq_l80, qq_l81, qq_l97, qq_l98, qq_l99, qq_l100, qq_l103, qq_l112, qq_l113, qq_l119, qq_l120, qq_l121, qq_l124, qq_l126, qq_l128, qq_l255, qq_l360, qq_l512, qq_l729, qq_zg, qq_zs, qq_zsJ, qq_zgT, qq_ltT, qq_ltF, qq_leT, qq_leF, qq_eqT, qq_eqF, qq_nltT, qq_ltnF, qq_nltnT, qq_nltnF, qq_nleT, qq_lenF, qq_nlenT, qq_nlenF, qq_eqnF, qq_neqF, qq_neqnF, qq_neqnT, nI_add, qq_subT, qq_subF, qq_addnT, qq_addnF, qq_naddT, qq_naddF, pk_mul, qq_and, qq_or, if_true, if_false, not_true, not_false_iff, qq_upd, qq_updE, qq_updN, reduceIte, eq_self, ne_eq, true_and, and_true, Nat.add_zero, Nat.zero_add, Nat.add_sub_cancel]
        exact ih (k + 1) f (nI k) (by omega) (by omega) (fun _ => by rw [e3])
      · simp (disch := omega) only [e1, e2, ht, qq_b1, qq_b2, qq_b3, qq_b4, qq_b5, qq_b6, qq_b7, qq_b8, qq_b9, qq_b10, qq_b11, qq_b12, qq_b13, qq_b18, qq_b19, qq_s0l, qq_s0r, qq_s1l, qq_s1r, qq_s2l, qq_s2r, qq_s3l, qq_s3r, qq_s6l, qq_s6r, qq_s7l, qq_s7r, qq_bt, qq_bf, qq_l70, qq_l24, qq_l23, qq_l22, qq_l21, qq_l19, qq_l18, qq_l17, qq_l16, qq_l25, qq_l32, qq_l33, qq_l34, qq_l35, qq_l44, qq_l46, qq_l108, qq_l0, qq_l1, qq_l2, qq_l3, qq_l4, qq_l5, qq_l6, qq_l7, qq_l8, qq_l9, qq_l10, qq_l11, qq_l12, qq_l13, qq_l14, qq_l15, qq_l20, qq_l30, qq_l31, qq_l36, qq_l37, qq_l38, qq_l39, qq_l40, qq_l41, qq_l42, qq_l43, qq_l45, qq_l47, qq_l48, qq_l49, qq_l50, qq_l57, qq_l58, qq_l59, qq_l60, qq_l61, qq_l62, qq_l63, qq_l80, qq_l81, qq_l97, qq_l98, qq_l99, qq_l100, qq_l103, qq_l112, qq_l113, qq_l119, qq_l120, qq_l121, qq_l124, qq_l126, qq_l128, qq_l255, qq_l360, qq_l512, qq_l729, qq_zg, qq_zs, qq_zsJ, qq_zgT, qq_ltT, qq_ltF, qq_leT, qq_leF, qq_eqT, qq_eqF, qq_nltT, qq_ltnF, qq_nltnT, qq_nltnF, qq_nleT, qq_lenF, qq_nlenT, qq_nlenF, qq_eqnF, qq_neqF, qq_neqnF, qq_neqnT, nI_add, qq_subT, qq_subF, qq_addnT, qq_addnF, qq_naddT, qq_naddF, pk_mul, qq_and, qq_or, if_true, if_false, not_true, not_false_iff, qq_upd, qq_updE, qq_updN, reduceIte, eq_self, ne_eq, true_and, and_true, Nat.add_zero, Nat.zero_add, Nat.add_sub_cancel]
        refine ih (k + 1) f x (by omega) (by omega) (fun hlt => hx ?_)
        have : k ≠ lf i0 := fun e => hc (by
          have : qq_pl lf len k = i0 := by rw [e]; exact qq_pl_eq hV hi0
          rw [this])
        omega
    · rw [decide_eq_false hm] at e1
      simp (disch := omega) only [e1, qq_b1, qq_b2, qq_b3, qq_b4, qq_b5, qq_b6, qq_b7, qq_b8, qq_b9, qq_b10, qq_b11, qq_b12, qq_b13, qq_b18, qq_b19, qq_s0l, qq_s0r, qq_s1l, qq_s1r, qq_s2l, qq_s2r, qq_s3l, qq_s3r, qq_s6l, qq_s6r, qq_s7l, qq_s7r, qq_bt, qq_bf, qq_l70, qq_l24, qq_l23, qq_l22, qq_l21, qq_l19, qq_l18, qq_l17, qq_l16, qq_l25, qq_l32, qq_l33, qq_l34, qq_l35, qq_l44, qq_l46, qq_l108, qq_l0, qq_l1, qq_l2, qq_l3, qq_l4, qq_l5, qq_l6, qq_l7, qq_l8, qq_l9, qq_l10, qq_l11, qq_l12, qq_l13, qq_l14, qq_l15, qq_l20, qq_l30, qq_l31, qq_l36, qq_l37, qq_l38, qq_l39, qq_l40, qq_l41, qq_l42, qq_l43, qq_l45, qq_l47, qq_l48, qq_l49, qq_l50, qq_l57, qq_l58, qq_l59, qq_l60, qq_l61, qq_l62, qq_l63, qq_l80, qq_l81, qq_l97, qq_l98, qq_l99, qq_l100, qq_l103, qq_l112, qq_l113, qq_l119, qq_l120, qq_l121, qq_l124, qq_l126, qq_l128, qq_l255, qq_l360, qq_l512, qq_l729, qq_zg, qq_zs, qq_zsJ, qq_zgT, qq_ltT, qq_ltF, qq_leT, qq_leF, qq_eqT, qq_eqF, qq_nltT, qq_ltnF, qq_nltnT, qq_nltnF, qq_nleT, qq_lenF, qq_nlenT, qq_nlenF, qq_eqnF, qq_neqF, qq_neqnF, qq_neqnT, nI_add, qq_subT, qq_subF, qq_addnT, qq_addnF, qq_naddT, qq_naddF, pk_mul, qq_and, qq_or, if_true, if_false, not_true, not_false_iff, qq_upd, qq_updE, qq_updN, reduceIte, eq_self, ne_eq, true_and, and_true, Nat.add_zero, Nat.zero_add, Nat.add_sub_cancel]
      refine ih (k + 1) f x (by omega) (by omega) (fun hlt => hx ?_)
      have : k ≠ lf i0 := fun e => hm (by rw [e, qq_pl_eq hV hi0]; exact hi0)
      omega
set_option maxRecDepth 100000 in
set_option maxHeartbeats 4000000 in
theorem qq_r4 {line : Nat → Int32} {q : Nat → Nat} {n P : Nat} (hL : qq_Ln line q n) (hV : qq_Vl q n P) (hP : P ≤ 9) (hn : n ≤ 9) :
    ∀ t k fuel S, k + t = n → t < fuel → qq_St S q k → ∃ S1, f_M_restores_L4 (nI n) line fuel (nI S) (nI k) = some (nI S1) ∧ qq_St S1 q n := by
  intro t
  induction t with
  | zero =>
    intro k fuel S h hf hS
    obtain ⟨f, rfl⟩ : ∃ f, fuel = f + 1 := ⟨fuel - 1, by omega⟩
    obtain rfl : k = n := by omega
    refine ⟨S, ?_, hS⟩
    rw [f_M_restores_L4]
    simp (disch := omega) only [qq_b1, qq_b2, qq_b3, qq_b4, qq_b5, qq_b6, qq_b7, qq_b8, qq_b9, qq_b10, qq_b11, qq_b12, qq_b13, qq_b18, qq_b19, qq_s0l, qq_s0r, qq_s1l, qq_s1r, qq_s2l, qq_s2r, qq_s3l, qq_s3r, qq_s6l, qq_s6r, qq_s7l, qq_s7r, qq_bt, qq_bf, qq_l70, qq_l24, qq_l23, qq_l22, qq_l21, qq_l19, qq_l18, qq_l17, qq_l16, qq_l25, qq_l32, qq_l33, qq_l34, qq_l35, qq_l44, qq_l46, qq_l108, qq_l0, qq_l1, qq_l2, qq_l3, qq_l4, qq_l5, qq_l6, qq_l7, qq_l8, qq_l9, qq_l10, qq_l11, qq_l12, qq_l13, qq_l14, qq_l15, qq_l20, qq_l30, qq_l31, qq_l36, qq_l37, qq_l38, qq_l39, qq_l40, qq_l41, qq_l42, qq_l43, qq_l45, qq_l47, qq_l48, qq_l49, qq_l50, qq_l57, qq_l58, qq_l59, qq_l60, qq_l61, qq_l62, qq_l63, qq_l80, qq_l81, qq_l97, qq_l98, qq_l99, qq_l100, qq_l103, qq_l112, qq_l113, qq_l119, qq_l120, qq_l121, qq_l124, qq_l126, qq_l128, qq_l255, qq_l360, qq_l512, qq_l729, qq_zg, qq_zs, qq_zsJ, qq_zgT, qq_ltT, qq_ltF, qq_leT, qq_leF, qq_eqT, qq_eqF, qq_nltT, qq_ltnF, qq_nltnT, qq_nltnF, qq_nleT, qq_lenF, qq_nlenT, qq_nlenF, qq_eqnF, qq_neqF, qq_neqnF, qq_neqnT, nI_add, qq_subT, qq_subF, qq_addnT, qq_addnF, qq_naddT, qq_naddF, pk_mul, qq_and, qq_or, if_true, if_false, not_true, not_false_iff, qq_upd, qq_updE, qq_updN, reduceIte, eq_self, ne_eq, true_and, and_true, Nat.add_zero, Nat.zero_add, Nat.add_sub_cancel]
  | succ t ih =>
    intro k fuel S h hf hS
    obtain ⟨f, rfl⟩ : ∃ f, fuel = f + 1 := ⟨fuel - 1, by omega⟩
    rw [f_M_restores_L4]
    have hk : k < n := by omega
    have h9 : q k < 9 := Nat.lt_of_lt_of_le (hV.1 k hk) hP
    obtain ⟨S1, e, hS1⟩ := ih (k + 1) f _ (by omega) (by omega) (qq_St_succ hS hV hk hP)
    refine ⟨S1, ?_, hS1⟩
    simp (disch := omega) only [hL k hk, qq_b1, qq_b2, qq_b3, qq_b4, qq_b5, qq_b6, qq_b7, qq_b8, qq_b9, qq_b10, qq_b11, qq_b12, qq_b13, qq_b18, qq_b19, qq_s0l, qq_s0r, qq_s1l, qq_s1r, qq_s2l, qq_s2r, qq_s3l, qq_s3r, qq_s6l, qq_s6r, qq_s7l, qq_s7r, qq_bt, qq_bf, qq_l70, qq_l24, qq_l23, qq_l22, qq_l21, qq_l19, qq_l18, qq_l17, qq_l16, qq_l25, qq_l32, qq_l33, qq_l34, qq_l35, qq_l44, qq_l46, qq_l108, qq_l0, qq_l1, qq_l2, qq_l3, qq_l4, qq_l5, qq_l6, qq_l7, qq_l8, qq_l9, qq_l10, qq_l11, qq_l12, qq_l13, qq_l14, qq_l15, qq_l20, qq_l30, qq_l31, qq_l36, qq_l37, qq_l38, qq_l39, qq_l40, qq_l41, qq_l42, qq_l43, qq_l45, qq_l47, qq_l48, qq_l49, qq_l50, qq_l57, qq_l58, qq_l59, qq_l60, qq_l61, qq_l62, qq_l63, qq_l80, qq_l81, qq_l97, qq_l98, qq_l99, qq_l100, qq_l103, qq_l112, qq_l113, qq_l119, qq_l120, qq_l121, qq_l124, qq_l126, qq_l128, qq_l255, qq_l360, qq_l512, qq_l729, qq_zg, qq_zs, qq_zsJ, qq_zgT, qq_ltT, qq_ltF, qq_leT, qq_leF, qq_eqT, qq_eqF, qq_nltT, qq_ltnF, qq_nltnT, qq_nltnF, qq_nleT, qq_lenF, qq_nlenT, qq_nlenF, qq_eqnF, qq_neqF, qq_neqnF, qq_neqnT, nI_add, qq_subT, qq_subF, qq_addnT, qq_addnF, qq_naddT, qq_naddF, pk_mul, qq_and, qq_or, if_true, if_false, not_true, not_false_iff, qq_upd, qq_updE, qq_updN, reduceIte, eq_self, ne_eq, true_and, and_true, Nat.add_zero, Nat.zero_add, Nat.add_sub_cancel]
    rw [(qq_bit2 S hS.1 _ h9).1]
    exact e
def qq_pm (k : Nat) : Int32 := if k = 0 then -nI 1 else nI (k - 1)
theorem qq_pm0 : qq_pm 0 = -nI 1 := rfl
theorem qq_pmS (k : Nat) : qq_pm (k + 1) = nI k := rfl
theorem qq_pm1 (k : Nat) : nI k + -nI 1 = qq_pm k := by
  unfold qq_pm
  by_cases h : k = 0
  · subst h; rw [if_pos rfl, qq_addnF (by omega)]
  · rw [if_neg h, qq_addnT (by omega)]
theorem qq_pm2 (k : Nat) : nI k - nI 1 = qq_pm k := by rw [Int32.sub_eq_add_neg, qq_pm1]
set_option maxRecDepth 100000 in
set_option maxHeartbeats 4000000 in
theorem qq_restL {ch mh : Nat → Int32} {H : Nat → Nat} {P : Nat} (hH : qq_Ln ch H P) (hMH : qq_Ln mh H P) (hHV : qq_HV H P) (hP : P ≤ 9) {numbers told : Nat → Int32} {n : Nat} (hn : n ≤ 9) (hN : ∀ k, k < n → ∃ t, t ≤ k ∧ numbers k = nI t ∧ told k = nI t) :
    ∀ len lf S, len ≤ n → qq_Vl lf len P → qq_St S lf len → ∃ w : Nat → Nat, qq_Vl w len P ∧ (∀ i, i < len → qq_pl lf len (w i) < len) ∧
      (∀ fuel (lw rw1 : Nat → Int32), len < fuel → qq_Ln lw lf len → ∃ (ll : Int32) (lw2 rw2 : Nat → Int32), f_Books_lineRestored_L23 (nI P) ch numbers (nI n) fuel (nI len) lw rw1 (qq_pm len) = some (ll, lw2, rw2) ∧ ∀ i, rw2 i = if i < len then nI (w i) else rw1 i) ∧
      (∀ fuel (row : Nat → Int32), len < fuel → ∃ (row2 : Nat → Int32), f_M_restores_L49 (nI P) mh told fuel row (nI S) (qq_pm len) = some row2 ∧ ∀ i, row2 i = if i < len then nI (w i) else row i) := by
  intro len
  induction len with
  | zero =>
    intro lf S h hV hS
    refine ⟨fun _ => 0, ⟨fun i hi => absurd hi (Nat.not_lt_zero i), fun i j hi => absurd hi (Nat.not_lt_zero i)⟩, fun i hi => absurd hi (Nat.not_lt_zero i), fun fuel lw rw1 hf hL => ?_, fun fuel row hf => ?_⟩
    · obtain ⟨f, rfl⟩ : ∃ f, fuel = f + 1 := ⟨fuel - 1, by omega⟩
      refine ⟨nI 0, lw, rw1, ?_, fun i => by rw [if_neg (Nat.not_lt_zero i)]⟩
      rw [f_Books_lineRestored_L23, qq_pm0]
      simp (disch := omega) only [qq_b1, qq_b2, qq_b3, qq_b4, qq_b5, qq_b6, qq_b7, qq_b8, qq_b9, qq_b10, qq_b11, qq_b12, qq_b13, qq_b18, qq_b19, qq_s0l, qq_s0r, qq_s1l, qq_s1r, qq_s2l, qq_s2r, qq_s3l, qq_s3r, qq_s6l, qq_s6r, qq_s7l, qq_s7r, qq_bt, qq_bf, qq_l70, qq_l24, qq_l23, qq_l22, qq_l21, qq_l19, qq_l18, qq_l17, qq_l16, qq_l25, qq_l32, qq_l33, qq_l34, qq_l35, qq_l44, qq_l46, qq_l108, qq_l0, qq_l1, qq_l2, qq_l3, qq_l4, qq_l5, qq_l6, qq_l7, qq_l8, qq_l9, qq_l10, qq_l11, qq_l12, qq_l13, qq_l14, qq_l15, qq_l20, qq_l30, qq_l31, qq_l36, qq_l37, qq_l38, qq_l39, qq_l40, qq_l41, qq_l42, qq_l43, qq_l45, qq_l47, qq_l48, qq_l49, qq_l50, qq_l57, qq_l58, qq_l59, qq_l60, qq_l61, qq_l62, qq_l63, qq_l80, qq_l81, qq_l97, qq_l98, qq_l99, qq_l100, qq_l103, qq_l112, qq_l113, qq_l119, qq_l120, qq_l121, qq_l124, qq_l126, qq_l128, qq_l255, qq_l360, qq_l512, qq_l729, qq_zg, qq_zs, qq_zsJ, qq_zgT, qq_ltT, qq_ltF, qq_leT, qq_leF, qq_eqT, qq_eqF, qq_nltT, qq_ltnF, qq_nltnT, qq_nltnF, qq_nleT, qq_lenF, qq_nlenT, qq_nlenF, qq_eqnF, qq_neqF, qq_neqnF, qq_neqnT, nI_add, qq_subT, qq_subF, qq_addnT, qq_addnF, qq_naddT, qq_naddF, pk_mul, qq_and, qq_or, if_true, if_false, not_true, not_false_iff, qq_upd, qq_updE, qq_updN, reduceIte, eq_self, ne_eq, true_and, and_true, Nat.add_zero, Nat.zero_add, Nat.add_sub_cancel]
    · obtain ⟨f, rfl⟩ : ∃ f, fuel = f + 1 := ⟨fuel - 1, by omega⟩
      refine ⟨row, ?_, fun i => by rw [if_neg (Nat.not_lt_zero i)]⟩
      rw [f_M_restores_L49, qq_pm0]
      simp (disch := omega) only [qq_b1, qq_b2, qq_b3, qq_b4, qq_b5, qq_b6, qq_b7, qq_b8, qq_b9, qq_b10, qq_b11, qq_b12, qq_b13, qq_b18, qq_b19, qq_s0l, qq_s0r, qq_s1l, qq_s1r, qq_s2l, qq_s2r, qq_s3l, qq_s3r, qq_s6l, qq_s6r, qq_s7l, qq_s7r, qq_bt, qq_bf, qq_l70, qq_l24, qq_l23, qq_l22, qq_l21, qq_l19, qq_l18, qq_l17, qq_l16, qq_l25, qq_l32, qq_l33, qq_l34, qq_l35, qq_l44, qq_l46, qq_l108, qq_l0, qq_l1, qq_l2, qq_l3, qq_l4, qq_l5, qq_l6, qq_l7, qq_l8, qq_l9, qq_l10, qq_l11, qq_l12, qq_l13, qq_l14, qq_l15, qq_l20, qq_l30, qq_l31, qq_l36, qq_l37, qq_l38, qq_l39, qq_l40, qq_l41, qq_l42, qq_l43, qq_l45, qq_l47, qq_l48, qq_l49, qq_l50, qq_l57, qq_l58, qq_l59, qq_l60, qq_l61, qq_l62, qq_l63, qq_l80, qq_l81, qq_l97, qq_l98, qq_l99, qq_l100, qq_l103, qq_l112, qq_l113, qq_l119, qq_l120, qq_l121, qq_l124, qq_l126, qq_l128, qq_l255, qq_l360, qq_l512, qq_l729, qq_zg, qq_zs, qq_zsJ, qq_zgT, qq_ltT, qq_ltF, qq_leT, qq_leF, qq_eqT, qq_eqF, qq_nltT, qq_ltnF, qq_nltnT, qq_nltnF, qq_nleT, qq_lenF, qq_nlenT, qq_nlenF, qq_eqnF, qq_neqF, qq_neqnF, qq_neqnT, nI_add, qq_subT, qq_subF, qq_addnT, qq_addnF, qq_naddT, qq_naddF, pk_mul, qq_and, qq_or, if_true, if_false, not_true, not_false_iff, qq_upd, qq_updE, qq_updN, reduceIte, eq_self, ne_eq, true_and, and_true, Nat.add_zero, Nat.zero_add, Nat.add_sub_cancel]
  | succ len ih =>
    intro lf S h hV hS
    obtain ⟨t, ht, e1, e2⟩ := hN len (by omega)
    obtain ⟨i0, hi0, ef⟩ := qq_fnd_ex (t := t) hV hHV (by omega)
    have hV2 := qq_Vl_rem (k := i0) hV
    rw [Nat.add_sub_cancel] at hV2
    obtain ⟨w, hw1, hw2, hT, hM⟩ := ih (qq_rem lf i0) (qq_rmv S (lf i0)) (by omega) hV2 (qq_St_rem hS hV hi0 hP)
    have hwne : ∀ i, i < len → w i ≠ lf i0 := fun i hi => ((qq_mem_rem hV hi0).mp (hw2 i hi)).2
    have h9 : lf i0 < 9 := Nat.lt_of_lt_of_le (hV.1 i0 hi0) hP
    refine ⟨fun j => if j = len then lf i0 else w j, ⟨fun i hi => ?_, fun i j hi hj e => ?_⟩, fun i hi => ?_, fun fuel lw rw1 hf hL => ?_, fun fuel row hf => ?_⟩
    · simp only []
      split
      · exact hV.1 i0 hi0
      · exact hw1.1 i (by omega)
    · simp only [] at e
      split at e <;> split at e
      · omega
      · exact absurd e.symm (hwne j (by omega))
      · exact absurd e (hwne i (by omega))
      · exact hw1.2 i j (by omega) (by omega) e
    · simp only []
      split
      · rw [qq_pl_eq hV hi0]; exact hi0
      · exact ((qq_mem_rem hV hi0).mp (hw2 i (by omega))).1
    · obtain ⟨f, rfl⟩ : ∃ f, fuel = f + 1 := ⟨fuel - 1, by omega⟩
      obtain ⟨lw2, j1, j2⟩ := qq_removeAt hL (by omega) hi0
      obtain ⟨ll, lw3, rw3, j3, j4⟩ := hT f lw2 (upd rw1 len (nI (lf i0))) (by omega) j2
      refine ⟨ll, lw3, rw3, ?_, fun i => ?_⟩
      · rw [f_Books_lineRestored_L23, qq_pmS]
        have j5 := qq_placeInLeft hH hHV hP hL hV hi0
        rw [ef] at j5
        rw [Nat.add_sub_cancel] at j1
        simp (disch := omega) only [e1, j5, j1, qq_setAt, qq_b1, qq_b2, qq_b3, qq_b4, qq_b5, qq_b6, qq_b7, qq_b8, qq_b9, qq_b10, qq_b11, qq_b12, qq_b13, qq_b18, qq_b19, qq_s0l, qq_s0r, qq_s1l, qq_s1r, qq_s2l, qq_s2r, qq_s3l, qq_s3r, qq_s6l, qq_s6r, qq_s7l, qq_s7r, qq_bt, qq_bf, qq_l70, qq_l24, qq_l23, qq_l22, qq_l21, qq_l19, qq_l18, qq_l17, qq_l16, qq_l25, qq_l32, qq_l33, qq_l34, qq_l35, qq_l44, qq_l46, qq_l108, qq_l0, qq_l1, qq_l2, qq_l3, qq_l4, qq_l5, qq_l6, qq_l7, qq_l8, qq_l9, qq_l10, qq_l11, qq_l12, qq_l13, qq_l14, qq_l15, qq_l20, qq_l30, qq_l31, qq_l36, qq_l37, qq_l38, qq_l39, qq_l40, qq_l41, qq_l42, qq_l43, qq_l45, qq_l47, qq_l48, qq_l49, qq_l50, qq_l57, qq_l58, qq_l59, qq_l60, qq_l61, qq_l62, qq_l63, qq_l80, qq_l81, qq_l97, qq_l98, qq_l99, qq_l100, qq_l103, qq_l112, qq_l113, qq_l119, qq_l120, qq_l121, qq_l124, qq_l126, qq_l128, qq_l255, qq_l360, qq_l512, qq_l729, qq_zg, qq_zs, qq_zsJ, qq_zgT, qq_ltT, qq_ltF, qq_leT, qq_leF, qq_eqT, qq_eqF, qq_nltT, qq_ltnF, qq_nltnT, qq_nltnF, qq_nleT, qq_lenF, qq_nlenT, qq_nlenF, qq_eqnF, qq_neqF, qq_neqnF, qq_neqnT, nI_add, qq_subT, qq_subF, qq_addnT, qq_addnF, qq_naddT, qq_naddF, pk_mul, qq_and, qq_or, if_true, if_false, not_true, not_false_iff, qq_upd, qq_updE, qq_updN, reduceIte, eq_self, ne_eq, true_and, and_true, Nat.add_zero, Nat.zero_add, Nat.add_sub_cancel]
        rw [← qq_pm1] at j3
        try simp (disch := omega) only [qq_b1, qq_b2, qq_b3, qq_b4, qq_b5, qq_b6, qq_b7, qq_b8, qq_b9, qq_b10, qq_b11, qq_b12, qq_b13, qq_b18, qq_b19, qq_s0l, qq_s0r, qq_s1l, qq_s1r, qq_s2l, qq_s2r, qq_s3l, qq_s3r, qq_s6l, qq_s6r, qq_s7l, qq_s7r, qq_bt, qq_bf, qq_l70, qq_l24, qq_l23, qq_l22, qq_l21, qq_l19, qq_l18, qq_l17, qq_l16, qq_l25, qq_l32, qq_l33, qq_l34, qq_l35, qq_l44, qq_l46, qq_l108, qq_l0, qq_l1, qq_l2, qq_l3, qq_l4, qq_l5, qq_l6, qq_l7, qq_l8, qq_l9, qq_l10, qq_l11, qq_l12, qq_l13, qq_l14, qq_l15, qq_l20, qq_l30, qq_l31, qq_l36, qq_l37, qq_l38, qq_l39, qq_l40, qq_l41, qq_l42, qq_l43, qq_l45, qq_l47, qq_l48, qq_l49, qq_l50, qq_l57, qq_l58, qq_l59, qq_l60, qq_l61, qq_l62, qq_l63, qq_l80, qq_l81, qq_l97, qq_l98, qq_l99, qq_l100, qq_l103, qq_l112, qq_l113, qq_l119, qq_l120, qq_l121, qq_l124, qq_l126, qq_l128, qq_l255, qq_l360, qq_l512, qq_l729, qq_zg, qq_zs, qq_zsJ, qq_zgT, qq_ltT, qq_ltF, qq_leT, qq_leF, qq_eqT, qq_eqF, qq_nltT, qq_ltnF, qq_nltnT, qq_nltnF, qq_nleT, qq_lenF, qq_nlenT, qq_nlenF, qq_eqnF, qq_neqF, qq_neqnF, qq_neqnT, nI_add, qq_subT, qq_subF, qq_addnT, qq_addnF, qq_naddT, qq_naddF, pk_mul, qq_and, qq_or, if_true, if_false, not_true, not_false_iff, qq_upd, qq_updE, qq_updN, reduceIte, eq_self, ne_eq, true_and, and_true, Nat.add_zero, Nat.zero_add, Nat.add_sub_cancel] at j3
        exact j3
      · rw [j4 i]
        by_cases h1 : i < len
        · rw [if_pos h1, if_pos (by omega)]
          show _ = nI (if i = len then lf i0 else w i)
          rw [if_neg (by omega)]
        · rw [if_neg h1]
          by_cases h2 : i = len
          · rw [if_pos (by omega), qq_updE h2]
            show _ = nI (if i = len then lf i0 else w i)
            rw [if_pos h2]
          · rw [if_neg (by omega), qq_updN h2]
    · obtain ⟨f, rfl⟩ : ∃ f, fuel = f + 1 := ⟨fuel - 1, by omega⟩
      obtain ⟨row2, j3, j4⟩ := hM f (upd row len (nI (lf i0))) (by omega)
      refine ⟨row2, ?_, fun i => ?_⟩
      · rw [f_M_restores_L49, qq_pmS]
        have j5 := qq_r58 hMH hHV hP hS hV hi0 (told := told) (k0 := len) (by omega) (by rw [e2, ef]) P 0 FU (-nI 1) (by omega) (by rw [qq_FU]; omega) (fun h => absurd h (Nat.not_lt_zero _))
        simp (disch := omega) only [j5, qq_b1, qq_b2, qq_b3, qq_b4, qq_b5, qq_b6, qq_b7, qq_b8, qq_b9, qq_b10, qq_b11, qq_b12, qq_b13, qq_b18, qq_b19, qq_s0l, qq_s0r, qq_s1l, qq_s1r, qq_s2l, qq_s2r, qq_s3l, qq_s3r, qq_s6l, qq_s6r, qq_s7l, qq_s7r, qq_bt, qq_bf, qq_l70, qq_l24, qq_l23, qq_l22, qq_l21, qq_l19, qq_l18, qq_l17, qq_l16, qq_l25, qq_l32, qq_l33, qq_l34, qq_l35, qq_l44, qq_l46, qq_l108, qq_l0, qq_l1, qq_l2, qq_l3, qq_l4, qq_l5, qq_l6, qq_l7, qq_l8, qq_l9, qq_l10, qq_l11, qq_l12, qq_l13, qq_l14, qq_l15, qq_l20, qq_l30, qq_l31, qq_l36, qq_l37, qq_l38, qq_l39, qq_l40, qq_l41, qq_l42, qq_l43, qq_l45, qq_l47, qq_l48, qq_l49, qq_l50, qq_l57, qq_l58, qq_l59, qq_l60, qq_l61, qq_l62, qq_l63, qq_l80, qq_l81, qq_l97, qq_l98, qq_l99, qq_l100, qq_l103, qq_l112, qq_l113, qq_l119, qq_l120, qq_l121, qq_l124, qq_l126, qq_l128, qq_l255, qq_l360, qq_l512, qq_l729, qq_zg, qq_zs, qq_zsJ, qq_zgT, qq_ltT, qq_ltF, qq_leT, qq_leF, qq_eqT, qq_eqF, qq_nltT, qq_ltnF, qq_nltnT, qq_nltnF, qq_nleT, qq_lenF, qq_nlenT, qq_nlenF, qq_eqnF, qq_neqF, qq_neqnF, qq_neqnT, nI_add, qq_subT, qq_subF, qq_addnT, qq_addnF, qq_naddT, qq_naddF, pk_mul, qq_and, qq_or, if_true, if_false, not_true, not_false_iff, qq_upd, qq_updE, qq_updN, reduceIte, eq_self, ne_eq, true_and, and_true, Nat.add_zero, Nat.zero_add, Nat.add_sub_cancel]
        rw [(qq_bit3 S hS.1 _ h9).1]
        rw [← qq_pm1] at j3
        try simp (disch := omega) only [qq_b1, qq_b2, qq_b3, qq_b4, qq_b5, qq_b6, qq_b7, qq_b8, qq_b9, qq_b10, qq_b11, qq_b12, qq_b13, qq_b18, qq_b19, qq_s0l, qq_s0r, qq_s1l, qq_s1r, qq_s2l, qq_s2r, qq_s3l, qq_s3r, qq_s6l, qq_s6r, qq_s7l, qq_s7r, qq_bt, qq_bf, qq_l70, qq_l24, qq_l23, qq_l22, qq_l21, qq_l19, qq_l18, qq_l17, qq_l16, qq_l25, qq_l32, qq_l33, qq_l34, qq_l35, qq_l44, qq_l46, qq_l108, qq_l0, qq_l1, qq_l2, qq_l3, qq_l4, qq_l5, qq_l6, qq_l7, qq_l8, qq_l9, qq_l10, qq_l11, qq_l12, qq_l13, qq_l14, qq_l15, qq_l20, qq_l30, qq_l31, qq_l36, qq_l37, qq_l38, qq_l39, qq_l40, qq_l41, qq_l42, qq_l43, qq_l45, qq_l47, qq_l48, qq_l49, qq_l50, qq_l57, qq_l58, qq_l59, qq_l60, qq_l61, qq_l62, qq_l63, qq_l80, qq_l81, qq_l97, qq_l98, qq_l99, qq_l100, qq_l103, qq_l112, qq_l113, qq_l119, qq_l120, qq_l121, qq_l124, qq_l126, qq_l128, qq_l255, qq_l360, qq_l512, qq_l729, qq_zg, qq_zs, qq_zsJ, qq_zgT, qq_ltT, qq_ltF, qq_leT, qq_leF, qq_eqT, qq_eqF, qq_nltT, qq_ltnF, qq_nltnT, qq_nltnF, qq_nleT, qq_lenF, qq_nlenT, qq_nlenF, qq_eqnF, qq_neqF, qq_neqnF, qq_neqnT, nI_add, qq_subT, qq_subF, qq_addnT, qq_addnF, qq_naddT, qq_naddF, pk_mul, qq_and, qq_or, if_true, if_false, not_true, not_false_iff, qq_upd, qq_updE, qq_updN, reduceIte, eq_self, ne_eq, true_and, and_true, Nat.add_zero, Nat.zero_add, Nat.add_sub_cancel] at j3
        exact j3
      · rw [j4 i]
        by_cases h1 : i < len
        · rw [if_pos h1, if_pos (by omega)]
          show _ = nI (if i = len then lf i0 else w i)
          rw [if_neg (by omega)]
        · rw [if_neg h1]
          by_cases h2 : i = len
          · rw [if_pos (by omega), qq_updE h2]
            show _ = nI (if i = len then lf i0 else w i)
            rw [if_pos h2]
          · rw [if_neg (by omega), qq_updN h2]
