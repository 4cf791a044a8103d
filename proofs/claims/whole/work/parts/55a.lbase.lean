/-! LAYER (c): the law's text: signs, lists, release (by wip/whole/c/c.py) -/
/-- rank of a sign -/
def ly_rk (c : Nat) : Nat := if c = 33 then 6 else if c = 37 then 5 else if c = 38 then 2 else if c = 42 then 5 else if c = 43 then 4 else if c = 45 then 4 else if c = 47 then 5 else if c = 60 then 3 else if c = 61 then 3 else if c = 62 then 3 else if c = 124 then 1 else if c = 126 then 6 else 0
set_option maxRecDepth 100000 in
theorem qq_rankOf : ∀ c, c < 256 → f_LawReader_rankOf (nI c) = nI (ly_rk c) := by decide +kernel
set_option maxRecDepth 100000 in
theorem qq_rk6 : ∀ c, c < 256 → ly_rk c ≤ 6 := by decide +kernel
set_option maxRecDepth 100000 in
theorem qq_rkI : ∀ c, c < 256 → (ly_rk c = 5 → c = 37 ∨ c = 42 ∨ c = 47) ∧ (ly_rk c = 4 → c = 43 ∨ c = 45) ∧ (ly_rk c = 3 → c = 60 ∨ c = 61 ∨ c = 62) ∧ (ly_rk c = 2 → c = 38) ∧ (ly_rk c = 1 → c = 124) := by decide +kernel
theorem qq_rk33 : ly_rk 33 = 6 := rfl
theorem qq_rk37 : ly_rk 37 = 5 := rfl
theorem qq_rk38 : ly_rk 38 = 2 := rfl
theorem qq_rk40 : ly_rk 40 = 0 := rfl
theorem qq_rk42 : ly_rk 42 = 5 := rfl
theorem qq_rk43 : ly_rk 43 = 4 := rfl
theorem qq_rk45 : ly_rk 45 = 4 := rfl
theorem qq_rk47 : ly_rk 47 = 5 := rfl
theorem qq_rk60 : ly_rk 60 = 3 := rfl
theorem qq_rk61 : ly_rk 61 = 3 := rfl
theorem qq_rk62 : ly_rk 62 = 3 := rfl
theorem qq_rk124 : ly_rk 124 = 1 := rfl
theorem qq_rk126 : ly_rk 126 = 6 := rfl
/-- what is on top of those that wait -/
def qq_tp : List Nat → Nat
  | [] => 0
  | c :: _ => ly_rk c
/-- release down to a rank -/
def qq_fl (k : Nat) : List Int32 → List Nat → List Int32 × List Nat
  | out, [] => (out, [])
  | out, c :: W => if ly_rk c < k then (out, c :: W) else qq_fl k (out ++ [-nI c]) W
theorem qq_fl_stop {k : Nat} {out : List Int32} : ∀ {W : List Nat}, qq_tp W < k → qq_fl k out W = (out, W)
  | [], _ => rfl
  | c :: W, h => by rw [qq_fl]; exact if_pos h
theorem qq_fl_go {k c : Nat} {out : List Int32} {W : List Nat} (h : k ≤ ly_rk c) : qq_fl k out (c :: W) = qq_fl k (out ++ [-nI c]) W := by
  rw [qq_fl, if_neg (by omega)]
theorem qq_fl_len (k : Nat) : ∀ (W : List Nat) (out : List Int32), (qq_fl k out W).1.length + (qq_fl k out W).2.length = out.length + W.length
  | [], out => rfl
  | c :: W, out => by
    rw [qq_fl]
    split
    · rfl
    · rw [qq_fl_len k W, List.length_append, List.length_cons, List.length_cons, List.length_nil]; omega
theorem qq_fl_mem (k : Nat) : ∀ (W : List Nat) (out : List Int32) (c : Nat), c ∈ (qq_fl k out W).2 → c ∈ W
  | [], out, c, h => h
  | d :: W, out, c, h => by
    rw [qq_fl] at h
    split at h
    · exact h
    · exact List.mem_cons_of_mem _ (qq_fl_mem k W _ c h)
theorem qq_fl_le (k : Nat) : ∀ (W : List Nat) (out : List Int32), (qq_fl k out W).2.length ≤ W.length
  | [], out => Nat.le_refl _
  | c :: W, out => by
    rw [qq_fl]
    split
    · exact Nat.le_refl _
    · have := qq_fl_le k W (out ++ [-nI c]); rw [List.length_cons]; omega
theorem qq_fl_top {k : Nat} (hk : 1 ≤ k) : ∀ (W : List Nat) (out : List Int32), qq_tp (qq_fl k out W).2 < k
  | [], out => hk
  | c :: W, out => by
    rw [qq_fl]
    split
    · assumption
    · exact qq_fl_top hk W _
theorem qq_fl_fl {j k : Nat} (h : k ≤ j) : ∀ (W : List Nat) (out : List Int32), qq_fl k (qq_fl j out W).1 (qq_fl j out W).2 = qq_fl k out W
  | [], out => rfl
  | c :: W, out => by
    by_cases h1 : ly_rk c < j
    · rw [qq_fl_stop (k := j) (W := c :: W) h1]
    · rw [qq_fl_go (k := j) (by omega), qq_fl_fl h W, qq_fl_go (k := k) (by omega)]
/-- an array begins so -/
def qq_al (f : Nat → Int32) (l : List Int32) : Prop := ∀ k x, l[k]? = some x → f k = x
theorem qq_al_push {f : Nat → Int32} {l : List Int32} {x : Int32} {n : Nat} (h : qq_al f l) (e : n = l.length) : qq_al (upd f n x) (l ++ [x]) := by
  subst e
  intro k y hk
  rcases Nat.lt_trichotomy k l.length with h1 | h1 | h1
  · rw [qq_updN (by omega)]
    rw [List.getElem?_append_left h1] at hk
    exact h k y hk
  · subst h1
    rw [qq_updE rfl]
    rw [List.getElem?_concat_length] at hk
    exact Option.some.inj hk
  · rw [List.getElem?_eq_none (by rw [List.length_append, List.length_cons, List.length_nil]; omega)] at hk
    exact absurd hk (by simp)
theorem qq_al_pop {f : Nat → Int32} {l : List Int32} {x : Int32} (h : qq_al f (l ++ [x])) : qq_al f l ∧ f l.length = x := by
  refine ⟨fun k y hk => h k y ?_, h _ _ ?_⟩
  · have h1 : k < l.length := by
      rcases Nat.lt_or_ge k l.length with h1 | h1
      · exact h1
      · rw [List.getElem?_eq_none h1] at hk; exact absurd hk (by simp)
    rw [List.getElem?_append_left h1]; exact hk
  · exact List.getElem?_concat_length
/-- the reader's arrays -/
def qq_AR (out : List Int32) (W : List Nat) (len ws : Int32) (st wt : Nat → Int32) : Prop := len = nI out.length ∧ ws = nI W.length ∧ qq_al st out ∧ qq_al wt (W.reverse.map nI) ∧ ∀ c, c ∈ W → c < 256
theorem qq_revc (c : Nat) (W : List Nat) : (c :: W).reverse.map nI = W.reverse.map nI ++ [nI c] := by
  rw [List.reverse_cons, List.map_append]; rfl
theorem qq_revl (W : List Nat) : (W.reverse.map nI).length = W.length := by rw [List.length_map, List.length_reverse]
theorem qq_len1 (out : List Int32) (x : Int32) : (out ++ [x]).length = out.length + 1 := by
  rw [List.length_append, List.length_cons, List.length_nil]
theorem qq_addStep {out : List Int32} {W : List Nat} {len ws : Int32} {st wt : Nat → Int32} (h : qq_AR out W len ws st wt) (hl : out.length ≤ 120) (x : Int32) :
    f_LawReader_addStep len st x = some (nI (out.length + 1), upd st out.length x) ∧ qq_AR (out ++ [x]) W (nI (out.length + 1)) ws (upd st out.length x) wt := by
  obtain ⟨rfl, h2, h3, h4, h5⟩ := h
  refine ⟨?_, by rw [qq_len1], h2, qq_al_push h3 rfl, h4, h5⟩
  unfold f_LawReader_addStep
  simp (disch := omega) only [qq_b1, qq_b2, qq_b3, qq_b4, qq_b5, qq_b6, qq_b7, qq_b8, qq_b9, qq_b10, qq_b11, qq_b12, qq_b13, qq_b18, qq_b19, qq_s0l, qq_s0r, qq_s1l, qq_s1r, qq_s2l, qq_s2r, qq_s3l, qq_s3r, qq_s6l, qq_s6r, qq_s7l, qq_s7r, qq_bt, qq_bf, qq_l70, qq_l24, qq_l23, qq_l22, qq_l21, qq_l19, qq_l18, qq_l17, qq_l16, qq_l25, qq_l32, qq_l33, qq_l34, qq_l35, qq_l44, qq_l46, qq_l108, qq_l0, qq_l1, qq_l2, qq_l3, qq_l4, qq_l5, qq_l6, qq_l7, qq_l8, qq_l9, qq_l10, qq_l11, qq_l12, qq_l13, qq_l14, qq_l15, qq_l20, qq_l30, qq_l31, qq_l36, qq_l37, qq_l38, qq_l39, qq_l40, qq_l41, qq_l42, qq_l43, qq_l45, qq_l47, qq_l48, qq_l49, qq_l50, qq_l57, qq_l58, qq_l59, qq_l60, qq_l61, qq_l62, qq_l63, qq_l80, qq_l81, qq_l97, qq_l98, qq_l99, qq_l100, qq_l103, qq_l112, qq_l113, qq_l119, qq_l120, qq_l121, qq_l124, qq_l126, qq_l128, qq_l255, qq_l360, qq_l512, qq_l729, qq_zg, qq_zs, qq_zsJ, qq_zgT, qq_ltT, qq_ltF, qq_leT, qq_leF, qq_eqT, qq_eqF, qq_nltT, qq_ltnF, qq_nltnT, qq_nltnF, qq_nleT, qq_lenF, qq_nlenT, qq_nlenF, qq_eqnF, qq_neqF, qq_neqnF, qq_neqnT, nI_add, qq_subT, qq_subF, qq_addnT, qq_addnF, qq_naddT, qq_naddF, pk_mul, qq_and, qq_or, if_true, if_false, not_true, not_false_iff, qq_upd, qq_updE, qq_updN, reduceIte, eq_self, ne_eq, true_and, and_true, Nat.add_zero, Nat.zero_add, Nat.add_sub_cancel]
theorem qq_putOff {out : List Int32} {W : List Nat} {len ws : Int32} {st wt : Nat → Int32} (h : qq_AR out W len ws st wt) (hl : W.length < 120) {c : Nat} (hc : c < 256) :
    f_LawReader_putOff ws wt (nI c) = some (nI (W.length + 1), upd wt W.length (nI c)) ∧ qq_AR out (c :: W) len (nI (W.length + 1)) st (upd wt W.length (nI c)) := by
  obtain ⟨h1, rfl, h3, h4, h5⟩ := h
  refine ⟨?_, h1, rfl, h3, ?_, ?_⟩
  · unfold f_LawReader_putOff
    simp (disch := omega) only [qq_b1, qq_b2, qq_b3, qq_b4, qq_b5, qq_b6, qq_b7, qq_b8, qq_b9, qq_b10, qq_b11, qq_b12, qq_b13, qq_b18, qq_b19, qq_s0l, qq_s0r, qq_s1l, qq_s1r, qq_s2l, qq_s2r, qq_s3l, qq_s3r, qq_s6l, qq_s6r, qq_s7l, qq_s7r, qq_bt, qq_bf, qq_l70, qq_l24, qq_l23, qq_l22, qq_l21, qq_l19, qq_l18, qq_l17, qq_l16, qq_l25, qq_l32, qq_l33, qq_l34, qq_l35, qq_l44, qq_l46, qq_l108, qq_l0, qq_l1, qq_l2, qq_l3, qq_l4, qq_l5, qq_l6, qq_l7, qq_l8, qq_l9, qq_l10, qq_l11, qq_l12, qq_l13, qq_l14, qq_l15, qq_l20, qq_l30, qq_l31, qq_l36, qq_l37, qq_l38, qq_l39, qq_l40, qq_l41, qq_l42, qq_l43, qq_l45, qq_l47, qq_l48, qq_l49, qq_l50, qq_l57, qq_l58, qq_l59, qq_l60, qq_l61, qq_l62, qq_l63, qq_l80, qq_l81, qq_l97, qq_l98, qq_l99, qq_l100, qq_l103, qq_l112, qq_l113, qq_l119, qq_l120, qq_l121, qq_l124, qq_l126, qq_l128, qq_l255, qq_l360, qq_l512, qq_l729, qq_zg, qq_zs, qq_zsJ, qq_zgT, qq_ltT, qq_ltF, qq_leT, qq_leF, qq_eqT, qq_eqF, qq_nltT, qq_ltnF, qq_nltnT, qq_nltnF, qq_nleT, qq_lenF, qq_nlenT, qq_nlenF, qq_eqnF, qq_neqF, qq_neqnF, qq_neqnT, nI_add, qq_subT, qq_subF, qq_addnT, qq_addnF, qq_naddT, qq_naddF, pk_mul, qq_and, qq_or, if_true, if_false, not_true, not_false_iff, qq_upd, qq_updE, qq_updN, reduceIte, eq_self, ne_eq, true_and, and_true, Nat.add_zero, Nat.zero_add, Nat.add_sub_cancel]
  · rw [qq_revc]; exact qq_al_push h4 (qq_revl W).symm
  · intro d hd
    rcases List.mem_cons.mp hd with e | e
    · omega
    · exact h5 d e
theorem qq_AR_top {out : List Int32} {c : Nat} {W : List Nat} {len ws : Int32} {st wt : Nat → Int32} (h : qq_AR out (c :: W) len ws st wt) : c < 256 ∧ ws = nI (W.length + 1) ∧ wt W.length = nI c ∧ qq_AR out W len (nI W.length) st wt := by
  obtain ⟨h1, h2, h3, h4, h5⟩ := h
  rw [qq_revc] at h4
  have h6 := qq_al_pop h4
  rw [qq_revl] at h6
  exact ⟨h5 c List.mem_cons_self, h2, h6.2, h1, rfl, h3, h6.1, fun d hd => h5 d (List.mem_cons_of_mem _ hd)⟩
set_option maxRecDepth 100000 in
set_option maxHeartbeats 4000000 in
theorem qq_relL {k : Nat} (hk : k ≤ 6) : ∀ (W : List Nat) (out : List Int32) (len ws : Int32) (st wt : Nat → Int32) (cnt fuel : Nat), qq_AR out W len ws st wt → out.length + W.length ≤ 120 → W.length < fuel → cnt + W.length ≤ 200 →
    ∃ st2, f_LawReader_releaseDownTo_L2 wt (nI k) fuel len ws st (nI cnt) = some (nI (qq_fl k out W).1.length, nI (qq_fl k out W).2.length, st2, nI (cnt + (W.length - (qq_fl k out W).2.length))) ∧ qq_AR (qq_fl k out W).1 (qq_fl k out W).2 (nI (qq_fl k out W).1.length) (nI (qq_fl k out W).2.length) st2 wt := by
  intro W
  induction W with
  | nil =>
    intro out len ws st wt cnt fuel hA hl hf hc
    obtain ⟨f, rfl⟩ : ∃ f, fuel = f + 1 := ⟨fuel - 1, by omega⟩
    have hA0 := hA
    obtain ⟨h1, h2, _⟩ := hA
    refine ⟨st, ?_, ?_⟩
    · rw [f_LawReader_releaseDownTo_L2, h2, h1]
      rw [if_pos (by show nI 0 ≤ nI 0; exact nI_le (by omega) (by omega))]
      rfl
    · rw [h1, h2] at hA0; exact hA0
  | cons c W ih =>
    intro out len ws st wt cnt fuel hA hl hf hc
    obtain ⟨f, rfl⟩ : ∃ f, fuel = f + 1 := ⟨fuel - 1, by omega⟩
    have hA0 := hA
    obtain ⟨g1, g2, g3, g4⟩ := qq_AR_top hA
    rw [List.length_cons] at hl hf hc
    have e1 := qq_rankOf c g1
    have e2 := qq_rk6 c g1
    by_cases h : ly_rk c < k
    · refine ⟨st, ?_, ?_⟩
      · rw [f_LawReader_releaseDownTo_L2, g2, qq_fl, if_pos h]
        simp (disch := omega) only [g3, e1, List.length_cons, hA0.1, Nat.sub_self, qq_b1, qq_b2, qq_b3, qq_b4, qq_b5, qq_b6, qq_b7, qq_b8, qq_b9, qq_b10, qq_b11, qq_b12, qq_b13, qq_b18, qq_b19, qq_s0l, qq_s0r, qq_s1l, qq_s1r, qq_s2l, qq_s2r, qq_s3l, qq_s3r, qq_s6l, qq_s6r, qq_s7l, qq_s7r, qq_bt, qq_bf, qq_l70, qq_l24, qq_l23, qq_l22, qq_l21, qq_l19, qq_l18, qq_l17, qq_l16, qq_l25, qq_l32, qq_l33, qq_l34, qq_l35, qq_l44, qq_l46, qq_l108, qq_l0, qq_l1, qq_l2, qq_l3, qq_l4, qq_l5, qq_l6, qq_l7, qq_l8, qq_l9, qq_l10, qq_l11, qq_l12, qq_l13, qq_l14, qq_l15, qq_l20, qq_l30, qq_l31, qq_l36, qq_l37, qq_l38, qq_l39, qq_l40, qq_l41, qq_l42, qq_l43, qq_l45, qq_l47, qq_l48, qq_l49, qq_l50, qq_l57, qq_l58, qq_l59, qq_l60, qq_l61, qq_l62, qq_l63, qq_l80, qq_l81, qq_l97, qq_l98, qq_l99, qq_l100, qq_l103, qq_l112, qq_l113, qq_l119, qq_l120, qq_l121, qq_l124, qq_l126, qq_l128, qq_l255, qq_l360, qq_l512, qq_l729, qq_zg, qq_zs, qq_zsJ, qq_zgT, qq_ltT, qq_ltF, qq_leT, qq_leF, qq_eqT, qq_eqF, qq_nltT, qq_ltnF, qq_nltnT, qq_nltnF, qq_nleT, qq_lenF, qq_nlenT, qq_nlenF, qq_eqnF, qq_neqF, qq_neqnF, qq_neqnT, nI_add, qq_subT, qq_subF, qq_addnT, qq_addnF, qq_naddT, qq_naddF, pk_mul, qq_and, qq_or, if_true, if_false, not_true, not_false_iff, qq_upd, qq_updE, qq_updN, reduceIte, eq_self, ne_eq, true_and, and_true, Nat.add_zero, Nat.zero_add, Nat.add_sub_cancel]
      · rw [qq_fl, if_pos h]
        have h1 := hA0.1
        have h2 := hA0.2.1
        rw [h1, h2] at hA0
        exact hA0
    · obtain ⟨a1, a2⟩ := qq_addStep g4 (by omega) (-nI c)
      obtain ⟨st2, b1, b2⟩ := ih (out ++ [-nI c]) _ _ _ _ (cnt + 1) f a2 (by rw [qq_len1]; omega) (by omega) (by omega)
      refine ⟨st2, ?_, ?_⟩
      · rw [f_LawReader_releaseDownTo_L2, g2, qq_fl_go (by omega)]
        have e3 := qq_fl_le k W (out ++ [-nI c])
        simp (disch := omega) only [g3, e1, a1, qq_b1, qq_b2, qq_b3, qq_b4, qq_b5, qq_b6, qq_b7, qq_b8, qq_b9, qq_b10, qq_b11, qq_b12, qq_b13, qq_b18, qq_b19, qq_s0l, qq_s0r, qq_s1l, qq_s1r, qq_s2l, qq_s2r, qq_s3l, qq_s3r, qq_s6l, qq_s6r, qq_s7l, qq_s7r, qq_bt, qq_bf, qq_l70, qq_l24, qq_l23, qq_l22, qq_l21, qq_l19, qq_l18, qq_l17, qq_l16, qq_l25, qq_l32, qq_l33, qq_l34, qq_l35, qq_l44, qq_l46, qq_l108, qq_l0, qq_l1, qq_l2, qq_l3, qq_l4, qq_l5, qq_l6, qq_l7, qq_l8, qq_l9, qq_l10, qq_l11, qq_l12, qq_l13, qq_l14, qq_l15, qq_l20, qq_l30, qq_l31, qq_l36, qq_l37, qq_l38, qq_l39, qq_l40, qq_l41, qq_l42, qq_l43, qq_l45, qq_l47, qq_l48, qq_l49, qq_l50, qq_l57, qq_l58, qq_l59, qq_l60, qq_l61, qq_l62, qq_l63, qq_l80, qq_l81, qq_l97, qq_l98, qq_l99, qq_l100, qq_l103, qq_l112, qq_l113, qq_l119, qq_l120, qq_l121, qq_l124, qq_l126, qq_l128, qq_l255, qq_l360, qq_l512, qq_l729, qq_zg, qq_zs, qq_zsJ, qq_zgT, qq_ltT, qq_ltF, qq_leT, qq_leF, qq_eqT, qq_eqF, qq_nltT, qq_ltnF, qq_nltnT, qq_nltnF, qq_nleT, qq_lenF, qq_nlenT, qq_nlenF, qq_eqnF, qq_neqF, qq_neqnF, qq_neqnT, nI_add, qq_subT, qq_subF, qq_addnT, qq_addnF, qq_naddT, qq_naddF, pk_mul, qq_and, qq_or, if_true, if_false, not_true, not_false_iff, qq_upd, qq_updE, qq_updN, reduceIte, eq_self, ne_eq, true_and, and_true, Nat.add_zero, Nat.zero_add, Nat.add_sub_cancel]
        rw [b1, List.length_cons]
        rw [show cnt + 1 + (W.length - (qq_fl k (out ++ [-nI c]) W).2.length) = cnt + (W.length + 1 - (qq_fl k (out ++ [-nI c]) W).2.length) by omega]
      · rw [qq_fl_go (by omega)]; exact b2
set_option maxRecDepth 100000 in
set_option maxHeartbeats 4000000 in
theorem qq_rel {k : Nat} (hk : k ≤ 6) {out out2 : List Int32} {W W2 : List Nat} {len ws : Int32} {st wt : Nat → Int32} (h : qq_AR out W len ws st wt) (hl : out.length + W.length ≤ 120) (e : qq_fl k out W = (out2, W2)) :
    ∃ st2, f_LawReader_releaseDownTo len ws st wt (nI k) = some (nI (W.length - W2.length), nI out2.length, nI W2.length, st2) ∧ qq_AR out2 W2 (nI out2.length) (nI W2.length) st2 wt := by
  obtain ⟨st2, h1, h2⟩ := qq_relL hk W out len ws st wt 0 FU h hl (by rw [qq_FU]; omega) (by omega)
  rw [e] at h1 h2
  refine ⟨st2, ?_, h2⟩
  unfold f_LawReader_releaseDownTo
  simp (disch := omega) only [h1, qq_b1, qq_b2, qq_b3, qq_b4, qq_b5, qq_b6, qq_b7, qq_b8, qq_b9, qq_b10, qq_b11, qq_b12, qq_b13, qq_b18, qq_b19, qq_s0l, qq_s0r, qq_s1l, qq_s1r, qq_s2l, qq_s2r, qq_s3l, qq_s3r, qq_s6l, qq_s6r, qq_s7l, qq_s7r, qq_bt, qq_bf, qq_l70, qq_l24, qq_l23, qq_l22, qq_l21, qq_l19, qq_l18, qq_l17, qq_l16, qq_l25, qq_l32, qq_l33, qq_l34, qq_l35, qq_l44, qq_l46, qq_l108, qq_l0, qq_l1, qq_l2, qq_l3, qq_l4, qq_l5, qq_l6, qq_l7, qq_l8, qq_l9, qq_l10, qq_l11, qq_l12, qq_l13, qq_l14, qq_l15, qq_l20, qq_l30, qq_l31, qq_l36, qq_l37, qq_l38, qq_l39, qq_l40, qq_l41, qq_l42, qq_l43, qq_l45, qq_l47, qq_l48, qq_l49, qq_l50, qq_l57, qq_l58, qq_l59, qq_l60, qq_l61, qq_l62, qq_l63, qq_l80, qq_l81, qq_l97, qq_l98, qq_l99, qq_l100, qq_l103, qq_l112, qq_l113, qq_l119, qq_l120, qq_l121, qq_l124, qq_l126, qq_l128, qq_l255, qq_l360, qq_l512, qq_l729, qq_zg, qq_zs, qq_zsJ, qq_zgT, qq_ltT, qq_ltF, qq_leT, qq_leF, qq_eqT, qq_eqF, qq_nltT, qq_ltnF, qq_nltnT, qq_nltnF, qq_nleT, qq_lenF, qq_nlenT, qq_nlenF, qq_eqnF, qq_neqF, qq_neqnF, qq_neqnT, nI_add, qq_subT, qq_subF, qq_addnT, qq_addnF, qq_naddT, qq_naddF, pk_mul, qq_and, qq_or, if_true, if_false, not_true, not_false_iff, qq_upd, qq_updE, qq_updN, reduceIte, eq_self, ne_eq, true_and, and_true, Nat.add_zero, Nat.zero_add, Nat.add_sub_cancel]
