/-! LAYER (c): right, first half (by wip/whole/c/c.py) -/
theorem qq_bit5 : ∀ S, S < 512 → nI S ||| nI 0 = nI S := by decide +kernel
theorem qq_bit6 : ∀ S, S < 512 → ∀ p, p < 9 → S.testBit p = true → nI S ^^^ (nI 1 <<< (nI p &&& nI 31)) = nI (qq_rmv S p) ∧ qq_rmv S p < S ∧ qq_pc (qq_rmv S p) + 1 = qq_pc S := by decide +kernel
theorem qq_bit7 : ∀ S, S < 512 → ∀ p, p < 9 → (nI S &&& (nI 1 <<< (nI p &&& nI 31)) = nI 0 ↔ S.testBit p = false) ∧ ((nI S >>> (nI p &&& nI 31)) &&& nI 1 = nI 1 ↔ S.testBit p = true) := by decide +kernel
theorem qq_nand (a b : Nat) : nI a &&& nI b = nI (a &&& b) := by
  first
    | exact (Int32.ofNat_and a b).symm
    | (apply Int32.toBitVec_inj.mp; simp [nI])
    | (apply Int32.toBitVec_inj.mp; show BitVec.ofNat 32 a &&& BitVec.ofNat 32 b = BitVec.ofNat 32 (a &&& b); exact BitVec.ofNat_and.symm)
theorem qq_and0 {a b : Nat} : a &&& b = 0 ↔ ∀ i, a.testBit i = true → b.testBit i = false := by
  constructor
  · intro h i hi
    have h2 := congrArg (fun x => x.testBit i) h
    simp only [Nat.testBit_and, Nat.zero_testBit, hi, Bool.true_and] at h2
    exact h2
  · intro h
    refine Nat.eq_of_testBit_eq fun i => ?_
    rw [Nat.testBit_and, Nat.zero_testBit]
    cases hi : a.testBit i with
    | false => rfl
    | true => rw [h i hi]; rfl
theorem qq_lt9 {S i : Nat} (hS : S < 512) (h : S.testBit i = true) : i < 9 := by
  rcases Nat.lt_or_ge i 9 with h1 | h1
  · exact h1
  · have h2 : (2 : Nat) ^ 9 ≤ 2 ^ i := Nat.pow_le_pow_right (by omega) h1
    rw [Nat.testBit_lt_two_pow (Nat.lt_of_lt_of_le (show S < 2 ^ 9 from hS) h2)] at h
    cases h
/-- the set of those that f picks -/
def qq_ms (f : Nat → Bool) (g : Nat → Nat) : Nat → Nat
  | 0 => 0
  | j + 1 => if f j then qq_ms f g j ||| 2 ^ g j else qq_ms f g j
theorem qq_ms512 {f : Nat → Bool} {g : Nat → Nat} : ∀ {n : Nat}, (∀ j, j < n → g j < 9) → qq_ms f g n < 512
  | 0, _ => by unfold qq_ms; omega
  | n + 1, h => by
    have ih := qq_ms512 (f := f) (g := g) (n := n) (fun j hj => h j (by omega))
    unfold qq_ms
    split
    · exact (qq_bit2 _ ih _ (h n (by omega))).2
    · exact ih
theorem qq_ms_bit {f : Nat → Bool} {g : Nat → Nat} {i : Nat} : ∀ {n : Nat}, ((qq_ms f g n).testBit i = true ↔ ∃ j, j < n ∧ f j = true ∧ g j = i)
  | 0 => by
    unfold qq_ms
    rw [Nat.zero_testBit]
    exact ⟨fun h => absurd h Bool.false_ne_true, fun ⟨j, hj, _⟩ => absurd hj (Nat.not_lt_zero j)⟩
  | n + 1 => by
    have ih := qq_ms_bit (f := f) (g := g) (i := i) (n := n)
    rw [qq_ms]
    by_cases hf : f n = true
    · rw [if_pos hf, qq_or_bit, Bool.or_eq_true, ih, decide_eq_true_eq]
      constructor
      · rintro (⟨j, hj, h1, h2⟩ | h)
        · exact ⟨j, by omega, h1, h2⟩
        · exact ⟨n, by omega, hf, h.symm⟩
      · rintro ⟨j, hj, h1, h2⟩
        rcases Nat.eq_or_lt_of_le (Nat.lt_succ_iff.mp hj) with e | e
        · subst e; exact Or.inr h2.symm
        · exact Or.inl ⟨j, e, h1, h2⟩
    · rw [if_neg hf, ih]
      constructor
      · rintro ⟨j, hj, h1, h2⟩
        exact ⟨j, by omega, h1, h2⟩
      · rintro ⟨j, hj, h1, h2⟩
        rcases Nat.eq_or_lt_of_le (Nat.lt_succ_iff.mp hj) with e | e
        · subst e; exact absurd h1 hf
        · exact ⟨j, e, h1, h2⟩
/-- j stands in the way of k -/
def qq_bl (c : Nat → Nat → Nat → Bool) (H q : Nat → Nat) (k j : Nat) : Bool := decide (qq_num c q j < qq_num c q k) && decide (H (q k) < H (q j))
/-- the set of places and the set of people say the same -/
def qq_RS (q : Nat → Nat) (n S T : Nat) : Prop := S < 512 ∧ T < 512 ∧ (∀ i, S.testBit i = true → i < n) ∧ ∀ p, T.testBit p = true ↔ ∃ k, k < n ∧ S.testBit k = true ∧ q k = p
theorem qq_RS_in {q : Nat → Nat} {n S T P k : Nat} (h : qq_RS q n S T) (hV : qq_Vl q n P) (hk : k < n) : T.testBit (q k) = S.testBit k := by
  cases hs : S.testBit k with
  | true => exact (h.2.2.2 (q k)).mpr ⟨k, hk, hs, rfl⟩
  | false =>
    cases ht : T.testBit (q k) with
    | false => rfl
    | true =>
      obtain ⟨j, hj, h1, h2⟩ := (h.2.2.2 (q k)).mp ht
      have := hV.2 j k hj hk h2
      subst this
      rw [h1] at hs; cases hs
theorem qq_RS_and {q : Nat → Nat} {n S T P : Nat} (h : qq_RS q n S T) (hV : qq_Vl q n P) (f : Nat → Bool) : (qq_ms f q n &&& T = 0) ↔ (qq_ms f (fun j => j) n &&& S = 0) := by
  rw [qq_and0, qq_and0]
  constructor
  · intro h1 i hi
    obtain ⟨j, hj, hf, e⟩ := qq_ms_bit.mp hi
    have e : j = i := e
    subst e
    have h2 := h1 (q j) (qq_ms_bit.mpr ⟨j, hj, hf, rfl⟩)
    rw [qq_RS_in h hV hj] at h2
    exact h2
  · intro h1 p hp
    obtain ⟨j, hj, hf, e⟩ := qq_ms_bit.mp hp
    subst e
    rw [qq_RS_in h hV hj]
    exact h1 j (qq_ms_bit.mpr ⟨j, hj, hf, rfl⟩)
theorem qq_RS_rmv {q : Nat → Nat} {n S T P k : Nat} (h : qq_RS q n S T) (hV : qq_Vl q n P) (hP : P ≤ 9) (hk : k < n) : qq_RS q n (qq_rmv S k) (qq_rmv T (q k)) := by
  have hn := qq_nle hV hP
  have h9 : q k < 9 := Nat.lt_of_lt_of_le (hV.1 k hk) hP
  have hS := (qq_bit3 S h.1 k (by omega)).2
  have hT := (qq_bit3 T h.2.1 (q k) h9).2
  refine ⟨hS, hT, fun i hi => ?_, fun p => ?_⟩
  · have hi9 := qq_lt9 hS hi
    rw [qq_rmv_bit (by omega) hi9, Bool.and_eq_true] at hi
    exact h.2.2.1 i hi.1
  · constructor
    · intro hp
      have hp9 := qq_lt9 hT hp
      rw [qq_rmv_bit h9 hp9, Bool.and_eq_true, decide_eq_true_eq] at hp
      obtain ⟨j, hj, h1, h2⟩ := (h.2.2.2 p).mp hp.1
      refine ⟨j, hj, ?_, h2⟩
      rw [qq_rmv_bit (by omega) (by omega), h1, decide_eq_true (show j ≠ k from fun e => hp.2 (by rw [← h2, e]))]
      rfl
    · rintro ⟨j, hj, h1, h2⟩
      rw [qq_rmv_bit (by omega) (by omega), Bool.and_eq_true, decide_eq_true_eq] at h1
      subst h2
      have hq9 : q j < 9 := Nat.lt_of_lt_of_le (hV.1 j hj) hP
      rw [qq_rmv_bit h9 hq9, qq_RS_in h hV hj, h1.1, decide_eq_true (show q j ≠ q k from fun e => h1.2 (hV.2 j k hj hk e))]
      rfl
theorem qq_RS_all {q : Nat → Nat} {n P : Nat} (hV : qq_Vl q n P) (hP : P ≤ 9) : qq_RS q n (qq_ms (fun _ => true) (fun j => j) n) (qq_ms (fun _ => true) q n) := by
  have hn := qq_nle hV hP
  refine ⟨qq_ms512 (fun j hj => by show j < 9; omega), qq_ms512 (qq_V9 hV hP), fun i hi => ?_, fun p => ?_⟩
  · obtain ⟨j, hj, _, e⟩ := qq_ms_bit.mp hi
    have e : j = i := e
    omega
  · rw [qq_ms_bit]
    constructor
    · rintro ⟨j, hj, _, e⟩
      exact ⟨j, hj, qq_ms_bit.mpr ⟨j, hj, rfl, rfl⟩, e⟩
    · rintro ⟨j, hj, _, e⟩
      exact ⟨j, hj, rfl, e⟩
theorem qq_all : ∀ n, n ≤ 9 → nI (qq_ms (fun _ => true) (fun j => j) n) = (nI 1 <<< (nI n &&& nI 31)) - nI 1 ∧ nI 1 <<< (nI n &&& nI 31) = nI (2 ^ n) ∧ qq_ms (fun _ => true) (fun j => j) n = 2 ^ n - 1 := by
  have h : ∀ n, n < 10 → nI (qq_ms (fun _ => true) (fun j => j) n) = (nI 1 <<< (nI n &&& nI 31)) - nI 1 ∧ nI 1 <<< (nI n &&& nI 31) = nI (2 ^ n) ∧ qq_ms (fun _ => true) (fun j => j) n = 2 ^ n - 1 := by decide +kernel
  exact fun n hn => h n (by omega)
/-! the class -/
set_option maxRecDepth 100000 in
set_option maxHeartbeats 4000000 in
theorem qq_wr12 {tl : Int32} {ts : Nat → Int32} {lv : Nat → Nat → Nat → Nat → Nat → Bool} (hT : qq_LT tl ts lv) {hts : Nat → Int32} {H : Nat → Nat} {P : Nat} (hH : qq_Ln hts H P) (hB : ∀ p, p < P → H p < 1000) (hP : P ≤ 9) {who : Nat → Int32} {q : Nat → Nat} {n : Nat} (hL : qq_Ln who q n) (hV : ∀ i, i < n → q i < P) (hn : n ≤ 9) :
    ∀ t k fuel (top : Int32) (worked known numbers : Nat → Int32), k + t = n → t < fuel → qq_Kn known lv H P → (∀ i, i < k → numbers i = nI (qq_num (qq_cs lv H) q i)) → ∃ (top1 : Int32) (worked1 known1 numbers1 : Nat → Int32), f_Thoughts_weighRights_L12 (nI P) hts tl ts (nI n) who (nI n) fuel top worked known numbers (nI k) = some (top1, worked1, known1, numbers1) ∧ qq_Kn known1 lv H P ∧ ∀ i, i < n → numbers1 i = nI (qq_num (qq_cs lv H) q i) := by
  intro t
  induction t with
  | zero =>
    intro k fuel top worked known numbers h hf hK hN
    obtain ⟨f, rfl⟩ : ∃ f, fuel = f + 1 := ⟨fuel - 1, by omega⟩
    obtain rfl : k = n := by omega
    refine ⟨top, worked, known, numbers, ?_, hK, hN⟩
    rw [f_Thoughts_weighRights_L12]; simp (disch := omega) only [qq_b1, qq_b2, qq_b3, qq_b4, qq_b5, qq_b6, qq_b7, qq_b8, qq_b9, qq_b10, qq_b11, qq_b12, qq_b13, qq_b18, qq_b19, qq_s0l, qq_s0r, qq_s1l, qq_s1r, qq_s2l, qq_s2r, qq_s3l, qq_s3r, qq_s6l, qq_s6r, qq_s7l, qq_s7r, qq_bt, qq_bf, qq_l70, qq_l24, qq_l23, qq_l22, qq_l21, qq_l19, qq_l18, qq_l17, qq_l16, qq_l25, qq_l32, qq_l33, qq_l34, qq_l35, qq_l44, qq_l46, qq_l108, qq_l0, qq_l1, qq_l2, qq_l3, qq_l4, qq_l5, qq_l6, qq_l7, qq_l8, qq_l9, qq_l10, qq_l11, qq_l12, qq_l13, qq_l14, qq_l15, qq_l20, qq_l30, qq_l31, qq_l36, qq_l37, qq_l38, qq_l39, qq_l40, qq_l41, qq_l42, qq_l43, qq_l45, qq_l47, qq_l48, qq_l49, qq_l50, qq_l57, qq_l58, qq_l59, qq_l60, qq_l61, qq_l62, qq_l63, qq_l80, qq_l81, qq_l97, qq_l98, qq_l99, qq_l100, qq_l103, qq_l112, qq_l113, qq_l119, qq_l120, qq_l121, qq_l124, qq_l126, qq_l128, qq_l255, qq_l360, qq_l512, qq_l729, qq_zg, qq_zs, qq_zsJ, qq_zgT, qq_ltT, qq_ltF, qq_leT, qq_leF, qq_eqT, qq_eqF, qq_nltT, qq_ltnF, qq_nltnT, qq_nltnF, qq_nleT, qq_lenF, qq_nlenT, qq_nlenF, qq_eqnF, qq_neqF, qq_neqnF, qq_neqnT, nI_add, qq_subT, qq_subF, qq_addnT, qq_addnF, qq_naddT, qq_naddF, pk_mul, qq_and, qq_or, if_true, if_false, not_true, not_false_iff, qq_upd, qq_updE, qq_updN, reduceIte, eq_self, ne_eq, true_and, and_true, Nat.add_zero, Nat.zero_add, Nat.add_sub_cancel]
  | succ t ih =>
    intro k fuel top worked known numbers h hf hK hN
    obtain ⟨f, rfl⟩ : ∃ f, fuel = f + 1 := ⟨fuel - 1, by omega⟩
    obtain ⟨top1, worked1, known1, e1, hK1⟩ := qq_numberAt hT hH hB hP hL hV hn (k := k) (by omega) top worked hK
    obtain ⟨top2, worked2, known2, numbers2, e2, hK2, hN2⟩ := ih (k + 1) f top1 worked1 known1 (upd numbers k (nI (qq_num (qq_cs lv H) q k))) (by omega) (by omega) hK1 (fun i hi => by
      unfold upd
      by_cases e : i = k
      · rw [if_pos e, e]
      · rw [if_neg e, hN i (by omega)])
    refine ⟨top2, worked2, known2, numbers2, ?_, hK2, hN2⟩
    rw [f_Thoughts_weighRights_L12]; simp (disch := omega) only [e1, qq_b1, qq_b2, qq_b3, qq_b4, qq_b5, qq_b6, qq_b7, qq_b8, qq_b9, qq_b10, qq_b11, qq_b12, qq_b13, qq_b18, qq_b19, qq_s0l, qq_s0r, qq_s1l, qq_s1r, qq_s2l, qq_s2r, qq_s3l, qq_s3r, qq_s6l, qq_s6r, qq_s7l, qq_s7r, qq_bt, qq_bf, qq_l70, qq_l24, qq_l23, qq_l22, qq_l21, qq_l19, qq_l18, qq_l17, qq_l16, qq_l25, qq_l32, qq_l33, qq_l34, qq_l35, qq_l44, qq_l46, qq_l108, qq_l0, qq_l1, qq_l2, qq_l3, qq_l4, qq_l5, qq_l6, qq_l7, qq_l8, qq_l9, qq_l10, qq_l11, qq_l12, qq_l13, qq_l14, qq_l15, qq_l20, qq_l30, qq_l31, qq_l36, qq_l37, qq_l38, qq_l39, qq_l40, qq_l41, qq_l42, qq_l43, qq_l45, qq_l47, qq_l48, qq_l49, qq_l50, qq_l57, qq_l58, qq_l59, qq_l60, qq_l61, qq_l62, qq_l63, qq_l80, qq_l81, qq_l97, qq_l98, qq_l99, qq_l100, qq_l103, qq_l112, qq_l113, qq_l119, qq_l120, qq_l121, qq_l124, qq_l126, qq_l128, qq_l255, qq_l360, qq_l512, qq_l729, qq_zg, qq_zs, qq_zsJ, qq_zgT, qq_ltT, qq_ltF, qq_leT, qq_leF, qq_eqT, qq_eqF, qq_nltT, qq_ltnF, qq_nltnT, qq_nltnF, qq_nleT, qq_lenF, qq_nlenT, qq_nlenF, qq_eqnF, qq_neqF, qq_neqnF, qq_neqnT, nI_add, qq_subT, qq_subF, qq_addnT, qq_addnF, qq_naddT, qq_naddF, pk_mul, qq_and, qq_or, if_true, if_false, not_true, not_false_iff, qq_upd, qq_updE, qq_updN, reduceIte, eq_self, ne_eq, true_and, and_true, Nat.add_zero, Nat.zero_add, Nat.add_sub_cancel]; exact e2
set_option maxRecDepth 100000 in
set_option maxHeartbeats 4000000 in
theorem qq_wr55 {hts : Nat → Int32} {H : Nat → Nat} {P : Nat} (hH : qq_Ln hts H P) (hB : ∀ p, p < P → H p < 1000) (hP : P ≤ 9) {who : Nat → Int32} {q : Nat → Nat} {n k : Nat} (hL : qq_Ln who q n) (hV : ∀ i, i < n → q i < P) (hn : n ≤ 9) (hk : k < n) {c : Nat → Nat → Nat → Bool} {numbers : Nat → Int32} (hN : ∀ i, i < n → numbers i = nI (qq_num c q i)) :
    ∀ t j fuel (ahead : Nat → Int32), j + t = n → t < fuel → ahead k = nI (qq_ms (qq_bl c H q k) (fun j => j) j) → ∃ ahead1, f_Thoughts_weighRights_L55 (nI P) hts numbers (nI n) who (nI n) (nI k) fuel ahead (nI j) = some ahead1 ∧ ahead1 k = nI (qq_ms (qq_bl c H q k) (fun j => j) n) ∧ ∀ i, i ≠ k → ahead1 i = ahead i := by
  intro t
  induction t with
  | zero =>
    intro j fuel ahead h hf hA
    obtain ⟨f, rfl⟩ : ∃ f, fuel = f + 1 := ⟨fuel - 1, by omega⟩
    obtain rfl : j = n := by omega
    refine ⟨ahead, ?_, hA, fun _ _ => rfl⟩
    rw [f_Thoughts_weighRights_L55]; simp (disch := omega) only [qq_b1, qq_b2, qq_b3, qq_b4, qq_b5, qq_b6, qq_b7, qq_b8, qq_b9, qq_b10, qq_b11, qq_b12, qq_b13, qq_b18, qq_b19, qq_s0l, qq_s0r, qq_s1l, qq_s1r, qq_s2l, qq_s2r, qq_s3l, qq_s3r, qq_s6l, qq_s6r, qq_s7l, qq_s7r, qq_bt, qq_bf, qq_l70, qq_l24, qq_l23, qq_l22, qq_l21, qq_l19, qq_l18, qq_l17, qq_l16, qq_l25, qq_l32, qq_l33, qq_l34, qq_l35, qq_l44, qq_l46, qq_l108, qq_l0, qq_l1, qq_l2, qq_l3, qq_l4, qq_l5, qq_l6, qq_l7, qq_l8, qq_l9, qq_l10, qq_l11, qq_l12, qq_l13, qq_l14, qq_l15, qq_l20, qq_l30, qq_l31, qq_l36, qq_l37, qq_l38, qq_l39, qq_l40, qq_l41, qq_l42, qq_l43, qq_l45, qq_l47, qq_l48, qq_l49, qq_l50, qq_l57, qq_l58, qq_l59, qq_l60, qq_l61, qq_l62, qq_l63, qq_l80, qq_l81, qq_l97, qq_l98, qq_l99, qq_l100, qq_l103, qq_l112, qq_l113, qq_l119, qq_l120, qq_l121, qq_l124, qq_l126, qq_l128, qq_l255, qq_l360, qq_l512, qq_l729, qq_zg, qq_zs, qq_zsJ, qq_zgT, qq_ltT, qq_ltF, qq_leT, qq_leF, qq_eqT, qq_eqF, qq_nltT, qq_ltnF, qq_nltnT, qq_nltnF, qq_nleT, qq_lenF, qq_nlenT, qq_nlenF, qq_eqnF, qq_neqF, qq_neqnF, qq_neqnT, nI_add, qq_subT, qq_subF, qq_addnT, qq_addnF, qq_naddT, qq_naddF, pk_mul, qq_and, qq_or, if_true, if_false, not_true, not_false_iff, qq_upd, qq_updE, qq_updN, reduceIte, eq_self, ne_eq, true_and, and_true, Nat.add_zero, Nat.zero_add, Nat.add_sub_cancel]
  | succ t ih =>
    intro j fuel ahead h hf hA
    obtain ⟨f, rfl⟩ : ∃ f, fuel = f + 1 := ⟨fuel - 1, by omega⟩
    have hj : j < n := by omega
    have b1 := qq_num_le c q j
    have b2 := qq_num_le c q k
    have v1 := hV j hj
    have v2 := hV k hk
    rw [f_Thoughts_weighRights_L55]
    by_cases h1 : qq_num c q j < qq_num c q k
    · by_cases h2 : H (q k) < H (q j)
      · have hb : qq_bl c H q k j = true := by unfold qq_bl; rw [decide_eq_true h1, decide_eq_true h2]; rfl
        have hms := qq_ms512 (f := qq_bl c H q k) (g := fun j => j) (n := j) (fun i hi => by show i < 9; omega)
        obtain ⟨a1, e1, g1, g2⟩ := ih (j + 1) f (upd ahead k (nI (qq_ms (qq_bl c H q k) (fun j => j) (j + 1)))) (by omega) (by omega) (by unfold upd; rw [if_pos rfl])
        refine ⟨a1, ?_, g1, fun i hi => by rw [g2 i hi]; unfold upd; rw [if_neg hi]⟩
        rw [qq_ms, if_pos hb, ← (qq_bit2 _ hms j (by omega)).1] at e1
        simp (disch := omega) only [hN j hj, hN k hk, qq_at hL, qq_isTaller hH hB, decide_eq_true h2, hA, qq_b1, qq_b2, qq_b3, qq_b4, qq_b5, qq_b6, qq_b7, qq_b8, qq_b9, qq_b10, qq_b11, qq_b12, qq_b13, qq_b18, qq_b19, qq_s0l, qq_s0r, qq_s1l, qq_s1r, qq_s2l, qq_s2r, qq_s3l, qq_s3r, qq_s6l, qq_s6r, qq_s7l, qq_s7r, qq_bt, qq_bf, qq_l70, qq_l24, qq_l23, qq_l22, qq_l21, qq_l19, qq_l18, qq_l17, qq_l16, qq_l25, qq_l32, qq_l33, qq_l34, qq_l35, qq_l44, qq_l46, qq_l108, qq_l0, qq_l1, qq_l2, qq_l3, qq_l4, qq_l5, qq_l6, qq_l7, qq_l8, qq_l9, qq_l10, qq_l11, qq_l12, qq_l13, qq_l14, qq_l15, qq_l20, qq_l30, qq_l31, qq_l36, qq_l37, qq_l38, qq_l39, qq_l40, qq_l41, qq_l42, qq_l43, qq_l45, qq_l47, qq_l48, qq_l49, qq_l50, qq_l57, qq_l58, qq_l59, qq_l60, qq_l61, qq_l62, qq_l63, qq_l80, qq_l81, qq_l97, qq_l98, qq_l99, qq_l100, qq_l103, qq_l112, qq_l113, qq_l119, qq_l120, qq_l121, qq_l124, qq_l126, qq_l128, qq_l255, qq_l360, qq_l512, qq_l729, qq_zg, qq_zs, qq_zsJ, qq_zgT, qq_ltT, qq_ltF, qq_leT, qq_leF, qq_eqT, qq_eqF, qq_nltT, qq_ltnF, qq_nltnT, qq_nltnF, qq_nleT, qq_lenF, qq_nlenT, qq_nlenF, qq_eqnF, qq_neqF, qq_neqnF, qq_neqnT, nI_add, qq_subT, qq_subF, qq_addnT, qq_addnF, qq_naddT, qq_naddF, pk_mul, qq_and, qq_or, if_true, if_false, not_true, not_false_iff, qq_upd, qq_updE, qq_updN, reduceIte, eq_self, ne_eq, true_and, and_true, Nat.add_zero, Nat.zero_add, Nat.add_sub_cancel]
        exact e1
      · have hb : ¬ qq_bl c H q k j = true := by unfold qq_bl; rw [decide_eq_true h1, decide_eq_false h2]; decide
        obtain ⟨a1, e1, g1, g2⟩ := ih (j + 1) f ahead (by omega) (by omega) (by rw [qq_ms, if_neg hb]; exact hA)
        refine ⟨a1, ?_, g1, g2⟩
        simp (disch := omega) only [hN j hj, hN k hk, qq_at hL, qq_isTaller hH hB, decide_eq_false h2, qq_b1, qq_b2, qq_b3, qq_b4, qq_b5, qq_b6, qq_b7, qq_b8, qq_b9, qq_b10, qq_b11, qq_b12, qq_b13, qq_b18, qq_b19, qq_s0l, qq_s0r, qq_s1l, qq_s1r, qq_s2l, qq_s2r, qq_s3l, qq_s3r, qq_s6l, qq_s6r, qq_s7l, qq_s7r, qq_bt, qq_bf, qq_l70, qq_l24, qq_l23, qq_l22, qq_l21, qq_l19, qq_l18, qq_l17, qq_l16, qq_l25, qq_l32, qq_l33, qq_l34, qq_l35, qq_l44, qq_l46, qq_l108, qq_l0, qq_l1, qq_l2, qq_l3, qq_l4, qq_l5, qq_l6, qq_l7, qq_l8, qq_l9, qq_l10, qq_l11, qq_l12, qq_l13, qq_l14, qq_l15, qq_l20, qq_l30, qq_l31, qq_l36, qq_l37, qq_l38, qq_l39, qq_l40, qq_l41, qq_l42, qq_l43, qq_l45, qq_l47, qq_l48, qq_l49, qq_l50, qq_l57, qq_l58, qq_l59, qq_l60, qq_l61, qq_l62, qq_l63, qq_l80, qq_l81, qq_l97, qq_l98, qq_l99, qq_l100, qq_l103, qq_l112, qq_l113, qq_l119, qq_l120, qq_l121, qq_l124, qq_l126, qq_l128, qq_l255, qq_l360, qq_l512, qq_l729, qq_zg, qq_zs, qq_zsJ, qq_zgT, qq_ltT, qq_ltF, qq_leT, qq_leF, qq_eqT, qq_eqF, qq_nltT, qq_ltnF, qq_nltnT, qq_nltnF, qq_nleT, qq_lenF, qq_nlenT, qq_nlenF, qq_eqnF, qq_neqF, qq_neqnF, qq_neqnT, nI_add, qq_subT, qq_subF, qq_addnT, qq_addnF, qq_naddT, qq_naddF, pk_mul, qq_and, qq_or, if_true, if_false, not_true, not_false_iff, qq_upd, qq_updE, qq_updN, reduceIte, eq_self, ne_eq, true_and, and_true, Nat.add_zero, Nat.zero_add, Nat.add_sub_cancel]
        exact e1
    · have hb : ¬ qq_bl c H q k j = true := by unfold qq_bl; rw [decide_eq_false h1, Bool.false_and]; decide
      obtain ⟨a1, e1, g1, g2⟩ := ih (j + 1) f ahead (by omega) (by omega) (by rw [qq_ms, if_neg hb]; exact hA)
      refine ⟨a1, ?_, g1, g2⟩
      simp (disch := omega) only [hN j hj, hN k hk, qq_b1, qq_b2, qq_b3, qq_b4, qq_b5, qq_b6, qq_b7, qq_b8, qq_b9, qq_b10, qq_b11, qq_b12, qq_b13, qq_b18, qq_b19, qq_s0l, qq_s0r, qq_s1l, qq_s1r, qq_s2l, qq_s2r, qq_s3l, qq_s3r, qq_s6l, qq_s6r, qq_s7l, qq_s7r, qq_bt, qq_bf, qq_l70, qq_l24, qq_l23, qq_l22, qq_l21, qq_l19, qq_l18, qq_l17, qq_l16, qq_l25, qq_l32, qq_l33, qq_l34, qq_l35, qq_l44, qq_l46, qq_l108, qq_l0, qq_l1, qq_l2, qq_l3, qq_l4, qq_l5, qq_l6, qq_l7, qq_l8, qq_l9, qq_l10, qq_l11, qq_l12, qq_l13, qq_l14, qq_l15, qq_l20, qq_l30, qq_l31, qq_l36, qq_l37, qq_l38, qq_l39, qq_l40, qq_l41, qq_l42, qq_l43, qq_l45, qq_l47, qq_l48, qq_l49, qq_l50, qq_l57, qq_l58, qq_l59, qq_l60, qq_l61, qq_l62, qq_l63, qq_l80, qq_l81, qq_l97, qq_l98, qq_l99, qq_l100, qq_l103, qq_l112, qq_l113, qq_l119, qq_l120, qq_l121, qq_l124, qq_l126, qq_l128, qq_l255, qq_l360, qq_l512, qq_l729, qq_zg, qq_zs, qq_zsJ, qq_zgT, qq_ltT, qq_ltF, qq_leT, qq_leF, qq_eqT, qq_eqF, qq_nltT, qq_ltnF, qq_nltnT, qq_nltnF, qq_nleT, qq_lenF, qq_nlenT, qq_nlenF, qq_eqnF, qq_neqF, qq_neqnF, qq_neqnT, nI_add, qq_subT, qq_subF, qq_addnT, qq_addnF, qq_naddT, qq_naddF, pk_mul, qq_and, qq_or, if_true, if_false, not_true, not_false_iff, qq_upd, qq_updE, qq_updN, reduceIte, eq_self, ne_eq, true_and, and_true, Nat.add_zero, Nat.zero_add, Nat.add_sub_cancel]
      exact e1
set_option maxRecDepth 100000 in
set_option maxHeartbeats 4000000 in
theorem qq_wr40 {hts : Nat → Int32} {H : Nat → Nat} {P : Nat} (hH : qq_Ln hts H P) (hB : ∀ p, p < P → H p < 1000) (hP : P ≤ 9) {who : Nat → Int32} {q : Nat → Nat} {n : Nat} (hL : qq_Ln who q n) (hV : ∀ i, i < n → q i < P) (hn : n ≤ 9) {c : Nat → Nat → Nat → Bool} {numbers : Nat → Int32} (hN : ∀ i, i < n → numbers i = nI (qq_num c q i)) :
    ∀ t k fuel (ahead : Nat → Int32), k + t = n → t < fuel → (∀ i, i < k → ahead i = nI (qq_ms (qq_bl c H q i) (fun j => j) n)) → ∃ ahead1, f_Thoughts_weighRights_L40 (nI P) hts numbers (nI n) who (nI n) fuel ahead (nI k) = some ahead1 ∧ ∀ i, i < n → ahead1 i = nI (qq_ms (qq_bl c H q i) (fun j => j) n) := by
  intro t
  induction t with
  | zero =>
    intro k fuel ahead h hf hA
    obtain ⟨f, rfl⟩ : ∃ f, fuel = f + 1 := ⟨fuel - 1, by omega⟩
    obtain rfl : k = n := by omega
    refine ⟨ahead, ?_, hA⟩
    rw [f_Thoughts_weighRights_L40]; simp (disch := omega) only [qq_b1, qq_b2, qq_b3, qq_b4, qq_b5, qq_b6, qq_b7, qq_b8, qq_b9, qq_b10, qq_b11, qq_b12, qq_b13, qq_b18, qq_b19, qq_s0l, qq_s0r, qq_s1l, qq_s1r, qq_s2l, qq_s2r, qq_s3l, qq_s3r, qq_s6l, qq_s6r, qq_s7l, qq_s7r, qq_bt, qq_bf, qq_l70, qq_l24, qq_l23, qq_l22, qq_l21, qq_l19, qq_l18, qq_l17, qq_l16, qq_l25, qq_l32, qq_l33, qq_l34, qq_l35, qq_l44, qq_l46, qq_l108, qq_l0, qq_l1, qq_l2, qq_l3, qq_l4, qq_l5, qq_l6, qq_l7, qq_l8, qq_l9, qq_l10, qq_l11, qq_l12, qq_l13, qq_l14, qq_l15, qq_l20, qq_l30, qq_l31, qq_l36, qq_l37, qq_l38, qq_l39, qq_l40, qq_l41, qq_l42, qq_l43, qq_l45, qq_l47, qq_l48, qq_l49, qq_l50, qq_l57, qq_l58, qq_l59, qq_l60, qq_l61, qq_l62, qq_l63, qq_l80, qq_l81, qq_l97, qq_l98, qq_l99, qq_l100, qq_l103, qq_l112, qq_l113, qq_l119, qq_l120, qq_l121, qq_l124, qq_l126, qq_l128, qq_l255, qq_l360, qq_l512, qq_l729, qq_zg, qq_zs, qq_zsJ, qq_zgT, qq_ltT, qq_ltF, qq_leT, qq_leF, qq_eqT, qq_eqF, qq_nltT, qq_ltnF, qq_nltnT, qq_nltnF, qq_nleT, qq_lenF, qq_nlenT, qq_nlenF, qq_eqnF, qq_neqF, qq_neqnF, qq_neqnT, nI_add, qq_subT, qq_subF, qq_addnT, qq_addnF, qq_naddT, qq_naddF, pk_mul, qq_and, qq_or, if_true, if_false, not_true, not_false_iff, qq_upd, qq_updE, qq_updN, reduceIte, eq_self, ne_eq, true_and, and_true, Nat.add_zero, Nat.zero_add, Nat.add_sub_cancel]
  | succ t ih =>
    intro k fuel ahead h hf hA
    obtain ⟨f, rfl⟩ : ∃ f, fuel = f + 1 := ⟨fuel - 1, by omega⟩
    obtain ⟨a1, e1, g1, g2⟩ := qq_wr55 hH hB hP hL hV hn (k := k) (by omega) hN n 0 FU (upd ahead k (nI 0)) (by omega) (by rw [qq_FU]; omega) (by unfold upd; rw [if_pos rfl]; rfl)
    obtain ⟨a2, e2, g3⟩ := ih (k + 1) f a1 (by omega) (by omega) (fun i hi => by
      by_cases e : i = k
      · rw [e]; exact g1
      · rw [g2 i e]; unfold upd; rw [if_neg e]; exact hA i (by omega))
    refine ⟨a2, ?_, g3⟩
    rw [f_Thoughts_weighRights_L40]; simp (disch := omega) only [e1, qq_b1, qq_b2, qq_b3, qq_b4, qq_b5, qq_b6, qq_b7, qq_b8, qq_b9, qq_b10, qq_b11, qq_b12, qq_b13, qq_b18, qq_b19, qq_s0l, qq_s0r, qq_s1l, qq_s1r, qq_s2l, qq_s2r, qq_s3l, qq_s3r, qq_s6l, qq_s6r, qq_s7l, qq_s7r, qq_bt, qq_bf, qq_l70, qq_l24, qq_l23, qq_l22, qq_l21, qq_l19, qq_l18, qq_l17, qq_l16, qq_l25, qq_l32, qq_l33, qq_l34, qq_l35, qq_l44, qq_l46, qq_l108, qq_l0, qq_l1, qq_l2, qq_l3, qq_l4, qq_l5, qq_l6, qq_l7, qq_l8, qq_l9, qq_l10, qq_l11, qq_l12, qq_l13, qq_l14, qq_l15, qq_l20, qq_l30, qq_l31, qq_l36, qq_l37, qq_l38, qq_l39, qq_l40, qq_l41, qq_l42, qq_l43, qq_l45, qq_l47, qq_l48, qq_l49, qq_l50, qq_l57, qq_l58, qq_l59, qq_l60, qq_l61, qq_l62, qq_l63, qq_l80, qq_l81, qq_l97, qq_l98, qq_l99, qq_l100, qq_l103, qq_l112, qq_l113, qq_l119, qq_l120, qq_l121, qq_l124, qq_l126, qq_l128, qq_l255, qq_l360, qq_l512, qq_l729, qq_zg, qq_zs, qq_zsJ, qq_zgT, qq_ltT, qq_ltF, qq_leT, qq_leF, qq_eqT, qq_eqF, qq_nltT, qq_ltnF, qq_nltnT, qq_nltnF, qq_nleT, qq_lenF, qq_nlenT, qq_nlenF, qq_eqnF, qq_neqF, qq_neqnF, qq_neqnT, nI_add, qq_subT, qq_subF, qq_addnT, qq_addnF, qq_naddT, qq_naddF, pk_mul, qq_and, qq_or, if_true, if_false, not_true, not_false_iff, qq_upd, qq_updE, qq_updN, reduceIte, eq_self, ne_eq, true_and, and_true, Nat.add_zero, Nat.zero_add, Nat.add_sub_cancel]; exact e2
set_option maxRecDepth 100000 in
set_option maxHeartbeats 4000000 in
theorem qq_weighRights {tl : Int32} {ts : Nat → Int32} {lv : Nat → Nat → Nat → Nat → Nat → Bool} (hT : qq_LT tl ts lv) {hts : Nat → Int32} {H : Nat → Nat} {P : Nat} (hH : qq_Ln hts H P) (hB : ∀ p, p < P → H p < 1000) (hP : P ≤ 9) {who : Nat → Int32} {q : Nat → Nat} {n : Nat} (hL : qq_Ln who q n) (hV : ∀ i, i < n → q i < P) (hn : n ≤ 9) (top : Int32) {worked known : Nat → Int32} (hK : qq_Kn known lv H P) (numbers ahead : Nat → Int32) :
    ∃ (top1 : Int32) (worked1 known1 numbers1 ahead1 : Nat → Int32), f_Thoughts_weighRights (nI P) hts tl top ts worked known numbers ahead (nI n) who = some (top1, worked1, known1, numbers1, ahead1) ∧ qq_Kn known1 lv H P ∧ ∀ i, i < n → ahead1 i = nI (qq_ms (qq_bl (qq_cs lv H) H q i) (fun j => j) n) := by
  obtain ⟨top1, worked1, known1, numbers1, e1, hK1, hN1⟩ := qq_wr12 hT hH hB hP hL hV hn n 0 FU top worked known numbers (by omega) (by rw [qq_FU]; omega) hK (fun i hi => absurd hi (Nat.not_lt_zero i))
  obtain ⟨a1, e2, g1⟩ := qq_wr40 hH hB hP hL hV hn hN1 n 0 FU ahead (by omega) (by rw [qq_FU]; omega) (fun i hi => absurd hi (Nat.not_lt_zero i))
  refine ⟨top1, worked1, known1, numbers1, a1, ?_, hK1, g1⟩
  unfold f_Thoughts_weighRights f_Line_size
  simp (disch := omega) only [e1, e2, qq_b1, qq_b2, qq_b3, qq_b4, qq_b5, qq_b6, qq_b7, qq_b8, qq_b9, qq_b10, qq_b11, qq_b12, qq_b13, qq_b18, qq_b19, qq_s0l, qq_s0r, qq_s1l, qq_s1r, qq_s2l, qq_s2r, qq_s3l, qq_s3r, qq_s6l, qq_s6r, qq_s7l, qq_s7r, qq_bt, qq_bf, qq_l70, qq_l24, qq_l23, qq_l22, qq_l21, qq_l19, qq_l18, qq_l17, qq_l16, qq_l25, qq_l32, qq_l33, qq_l34, qq_l35, qq_l44, qq_l46, qq_l108, qq_l0, qq_l1, qq_l2, qq_l3, qq_l4, qq_l5, qq_l6, qq_l7, qq_l8, qq_l9, qq_l10, qq_l11, qq_l12, qq_l13, qq_l14, qq_l15, qq_l20, qq_l30, qq_l31, qq_l36, qq_l37, qq_l38, qq_l39, qq_l40, qq_l41, qq_l42, qq_l43, qq_l45, qq_l47, qq_l48, qq_l49, qq_l50, qq_l57, qq_l58, qq_l59, qq_l60, qq_l61, qq_l62, qq_l63, qq_l80, qq_l81, qq_l97, qq_l98, qq_l99, qq_l100, qq_l103, qq_l112, qq_l113, qq_l119, qq_l120, qq_l121, qq_l124, qq_l126, qq_l128, qq_l255, qq_l360, qq_l512, qq_l729, qq_zg, qq_zs, qq_zsJ, qq_zgT, qq_ltT, qq_ltF, qq_leT, qq_leF, qq_eqT, qq_eqF, qq_nltT, qq_ltnF, qq_nltnT, qq_nltnF, qq_nleT, qq_lenF, qq_nlenT, qq_nlenF, qq_eqnF, qq_neqF, qq_neqnF, qq_neqnT, nI_add, qq_subT, qq_subF, qq_addnT, qq_addnF, qq_naddT, qq_naddF, pk_mul, qq_and, qq_or, if_true, if_false, not_true, not_false_iff, qq_upd, qq_updE, qq_updN, reduceIte, eq_self, ne_eq, true_and, and_true, Nat.add_zero, Nat.zero_add, Nat.add_sub_cancel]
/-! the reference -/
set_option maxRecDepth 100000 in
set_option maxHeartbeats 4000000 in
theorem qq_ab30 {tm : Int32} {text : Nat → Int32} {lv : Nat → Nat → Nat → Nat → Nat → Bool} (hT : qq_LM tm text lv) {hts : Nat → Int32} {H : Nat → Nat} {P : Nat} (hH : qq_Ln hts H P) (hB : ∀ p, p < P → H p < 1000) (hP : P ≤ 9) {line row : Nat → Int32} {q : Nat → Nat} {n k : Nat} (hL : qq_Ln line q n) (hR : qq_Ln row q n) (hV : ∀ i, i < n → q i < P) (hn : n ≤ 9) (hk : k < n) (tb : Int32) (tape : Nat → Int32) :
    ∀ t j fuel (base at_ ends fault opened : Int32) (names blocks : Nat → Int32), j + t = n → t < fuel → blocks (q k) = nI (qq_ms (qq_bl (qq_cs lv H) H q k) q j) → ∃ (b1 a1 e1 f1 o1 : Int32) (names1 blocks1 : Nat → Int32), f_M_asksBlocks_L30 tm (nI n) (-nI 1) tb hts tape text line row (nI k) (nI (q k)) fuel base at_ ends fault opened names blocks (nI j) = some (b1, a1, e1, f1, o1, names1, blocks1) ∧ blocks1 (q k) = nI (qq_ms (qq_bl (qq_cs lv H) H q k) q n) ∧ ∀ i, i ≠ q k → blocks1 i = blocks i := by
  intro t
  induction t with
  | zero =>
    intro j fuel base at_ ends fault opened names blocks h hf hA
    obtain ⟨f, rfl⟩ : ∃ f, fuel = f + 1 := ⟨fuel - 1, by omega⟩
    obtain rfl : j = n := by omega
    refine ⟨base, at_, ends, fault, opened, names, blocks, ?_, hA, fun _ _ => rfl⟩
    rw [f_M_asksBlocks_L30]; simp (disch := omega) only [qq_b1, qq_b2, qq_b3, qq_b4, qq_b5, qq_b6, qq_b7, qq_b8, qq_b9, qq_b10, qq_b11, qq_b12, qq_b13, qq_b18, qq_b19, qq_s0l, qq_s0r, qq_s1l, qq_s1r, qq_s2l, qq_s2r, qq_s3l, qq_s3r, qq_s6l, qq_s6r, qq_s7l, qq_s7r, qq_bt, qq_bf, qq_l70, qq_l24, qq_l23, qq_l22, qq_l21, qq_l19, qq_l18, qq_l17, qq_l16, qq_l25, qq_l32, qq_l33, qq_l34, qq_l35, qq_l44, qq_l46, qq_l108, qq_l0, qq_l1, qq_l2, qq_l3, qq_l4, qq_l5, qq_l6, qq_l7, qq_l8, qq_l9, qq_l10, qq_l11, qq_l12, qq_l13, qq_l14, qq_l15, qq_l20, qq_l30, qq_l31, qq_l36, qq_l37, qq_l38, qq_l39, qq_l40, qq_l41, qq_l42, qq_l43, qq_l45, qq_l47, qq_l48, qq_l49, qq_l50, qq_l57, qq_l58, qq_l59, qq_l60, qq_l61, qq_l62, qq_l63, qq_l80, qq_l81, qq_l97, qq_l98, qq_l99, qq_l100, qq_l103, qq_l112, qq_l113, qq_l119, qq_l120, qq_l121, qq_l124, qq_l126, qq_l128, qq_l255, qq_l360, qq_l512, qq_l729, qq_zg, qq_zs, qq_zsJ, qq_zgT, qq_ltT, qq_ltF, qq_leT, qq_leF, qq_eqT, qq_eqF, qq_nltT, qq_ltnF, qq_nltnT, qq_nltnF, qq_nleT, qq_lenF, qq_nlenT, qq_nlenF, qq_eqnF, qq_neqF, qq_neqnF, qq_neqnT, nI_add, qq_subT, qq_subF, qq_addnT, qq_addnF, qq_naddT, qq_naddF, pk_mul, qq_and, qq_or, if_true, if_false, not_true, not_false_iff, qq_upd, qq_updE, qq_updN, reduceIte, eq_self, ne_eq, true_and, and_true, Nat.add_zero, Nat.zero_add, Nat.add_sub_cancel]
  | succ t ih =>
    intro j fuel base at_ ends fault opened names blocks h hf hA
    obtain ⟨f, rfl⟩ : ∃ f, fuel = f + 1 := ⟨fuel - 1, by omega⟩
    have hj : j < n := by omega
    have b1 := qq_num_le (qq_cs lv H) q j
    have b2 := qq_num_le (qq_cs lv H) q k
    have v1 := hV j hj
    have v2 := hV k hk
    have c1 := hB (q j) v1
    have c2 := hB (q k) v2
    have hms := qq_ms512 (f := qq_bl (qq_cs lv H) H q k) (g := q) (n := j) (fun i hi => Nat.lt_of_lt_of_le (hV i (by omega)) hP)
    rw [f_M_asksBlocks_L30]
    have hsame : ∀ x, upd blocks (q k) (nI (qq_ms (qq_bl (qq_cs lv H) H q k) q j) ||| nI 0) x = blocks x := fun x => by
      unfold upd
      by_cases e : x = q k
      · rw [if_pos e, e, qq_bit5 _ hms, hA]
      · rw [if_neg e]
    by_cases h2 : H (q k) < H (q j)
    · obtain ⟨ba1, a1, en1, f1, o1, names1, e1⟩ := qq_mnumberAt hT (H := H) (tl := -nI 1) (tb := tb) (fun p hp => qq_mheightOf hH ⟨hp, hP⟩) hB hP hR hV hn hj base at_ ends fault opened tape names
      obtain ⟨ba2, a2, en2, f2, o2, names2, e2⟩ := qq_mnumberAt hT (H := H) (tl := -nI 1) (tb := tb) (fun p hp => qq_mheightOf hH ⟨hp, hP⟩) hB hP hR hV hn hk ba1 a1 en1 f1 o1 tape names1
      by_cases h1 : qq_num (qq_cs lv H) q j < qq_num (qq_cs lv H) q k
      · have hb : qq_bl (qq_cs lv H) H q k j = true := by unfold qq_bl; rw [decide_eq_true h1, decide_eq_true h2]; rfl
        obtain ⟨b3, a3, en3, f3, o3, names3, bl3, e3, g1, g2⟩ := ih (j + 1) f ba2 a2 en2 f2 o2 names2 (upd blocks (q k) (nI (qq_ms (qq_bl (qq_cs lv H) H q k) q (j + 1)))) (by omega) (by omega) (by unfold upd; rw [if_pos rfl])
        refine ⟨b3, a3, en3, f3, o3, names3, bl3, ?_, g1, fun i hi => by rw [g2 i hi]; unfold upd; rw [if_neg hi]⟩
        rw [qq_ms, if_pos hb, ← (qq_bit2 _ hms (q j) (by omega)).1] at e3
        simp (disch := omega) only [hL j hj, hH (q j) v1, hH (q k) v2, hA, e1, e2, qq_b1, qq_b2, qq_b3, qq_b4, qq_b5, qq_b6, qq_b7, qq_b8, qq_b9, qq_b10, qq_b11, qq_b12, qq_b13, qq_b18, qq_b19, qq_s0l, qq_s0r, qq_s1l, qq_s1r, qq_s2l, qq_s2r, qq_s3l, qq_s3r, qq_s6l, qq_s6r, qq_s7l, qq_s7r, qq_bt, qq_bf, qq_l70, qq_l24, qq_l23, qq_l22, qq_l21, qq_l19, qq_l18, qq_l17, qq_l16, qq_l25, qq_l32, qq_l33, qq_l34, qq_l35, qq_l44, qq_l46, qq_l108, qq_l0, qq_l1, qq_l2, qq_l3, qq_l4, qq_l5, qq_l6, qq_l7, qq_l8, qq_l9, qq_l10, qq_l11, qq_l12, qq_l13, qq_l14, qq_l15, qq_l20, qq_l30, qq_l31, qq_l36, qq_l37, qq_l38, qq_l39, qq_l40, qq_l41, qq_l42, qq_l43, qq_l45, qq_l47, qq_l48, qq_l49, qq_l50, qq_l57, qq_l58, qq_l59, qq_l60, qq_l61, qq_l62, qq_l63, qq_l80, qq_l81, qq_l97, qq_l98, qq_l99, qq_l100, qq_l103, qq_l112, qq_l113, qq_l119, qq_l120, qq_l121, qq_l124, qq_l126, qq_l128, qq_l255, qq_l360, qq_l512, qq_l729, qq_zg, qq_zs, qq_zsJ, qq_zgT, qq_ltT, qq_ltF, qq_leT, qq_leF, qq_eqT, qq_eqF, qq_nltT, qq_ltnF, qq_nltnT, qq_nltnF, qq_nleT, qq_lenF, qq_nlenT, qq_nlenF, qq_eqnF, qq_neqF, qq_neqnF, qq_neqnT, nI_add, qq_subT, qq_subF, qq_addnT, qq_addnF, qq_naddT, qq_naddF, pk_mul, qq_and, qq_or, if_true, if_false, not_true, not_false_iff, qq_upd, qq_updE, qq_updN, reduceIte, eq_self, ne_eq, true_and, and_true, Nat.add_zero, Nat.zero_add, Nat.add_sub_cancel]
        exact e3
      · have hb : ¬ qq_bl (qq_cs lv H) H q k j = true := by unfold qq_bl; rw [decide_eq_false h1, Bool.false_and]; decide
        obtain ⟨b3, a3, en3, f3, o3, names3, bl3, e3, g1, g2⟩ := ih (j + 1) f ba2 a2 en2 f2 o2 names2 (upd blocks (q k) (nI (qq_ms (qq_bl (qq_cs lv H) H q k) q j) ||| nI 0)) (by omega) (by omega) (by rw [hsame, qq_ms, if_neg hb]; exact hA)
        refine ⟨b3, a3, en3, f3, o3, names3, bl3, ?_, g1, fun i hi => by rw [g2 i hi, hsame]⟩
        simp (disch := omega) only [hL j hj, hH (q j) v1, hH (q k) v2, hA, e1, e2, qq_b1, qq_b2, qq_b3, qq_b4, qq_b5, qq_b6, qq_b7, qq_b8, qq_b9, qq_b10, qq_b11, qq_b12, qq_b13, qq_b18, qq_b19, qq_s0l, qq_s0r, qq_s1l, qq_s1r, qq_s2l, qq_s2r, qq_s3l, qq_s3r, qq_s6l, qq_s6r, qq_s7l, qq_s7r, qq_bt, qq_bf, qq_l70, qq_l24, qq_l23, qq_l22, qq_l21, qq_l19, qq_l18, qq_l17, qq_l16, qq_l25, qq_l32, qq_l33, qq_l34, qq_l35, qq_l44, qq_l46, qq_l108, qq_l0, qq_l1, qq_l2, qq_l3, qq_l4, qq_l5, qq_l6, qq_l7, qq_l8, qq_l9, qq_l10, qq_l11, qq_l12, qq_l13, qq_l14, qq_l15, qq_l20, qq_l30, qq_l31, qq_l36, qq_l37, qq_l38, qq_l39, qq_l40, qq_l41, qq_l42, qq_l43, qq_l45, qq_l47, qq_l48, qq_l49, qq_l50, qq_l57, qq_l58, qq_l59, qq_l60, qq_l61, qq_l62, qq_l63, qq_l80, qq_l81, qq_l97, qq_l98, qq_l99, qq_l100, qq_l103, qq_l112, qq_l113, qq_l119, qq_l120, qq_l121, qq_l124, qq_l126, qq_l128, qq_l255, qq_l360, qq_l512, qq_l729, qq_zg, qq_zs, qq_zsJ, qq_zgT, qq_ltT, qq_ltF, qq_leT, qq_leF, qq_eqT, qq_eqF, qq_nltT, qq_ltnF, qq_nltnT, qq_nltnF, qq_nleT, qq_lenF, qq_nlenT, qq_nlenF, qq_eqnF, qq_neqF, qq_neqnF, qq_neqnT, nI_add, qq_subT, qq_subF, qq_addnT, qq_addnF, qq_naddT, qq_naddF, pk_mul, qq_and, qq_or, if_true, if_false, not_true, not_false_iff, qq_upd, qq_updE, qq_updN, reduceIte, eq_self, ne_eq, true_and, and_true, Nat.add_zero, Nat.zero_add, Nat.add_sub_cancel]
        exact e3
    · have hb : ¬ qq_bl (qq_cs lv H) H q k j = true := by unfold qq_bl; rw [decide_eq_false h2, Bool.and_false]; decide
      obtain ⟨b3, a3, en3, f3, o3, names3, bl3, e3, g1, g2⟩ := ih (j + 1) f base at_ ends fault opened names (upd blocks (q k) (nI (qq_ms (qq_bl (qq_cs lv H) H q k) q j) ||| nI 0)) (by omega) (by omega) (by rw [hsame, qq_ms, if_neg hb]; exact hA)
      refine ⟨b3, a3, en3, f3, o3, names3, bl3, ?_, g1, fun i hi => by rw [g2 i hi, hsame]⟩
      simp (disch := omega) only [hL j hj, hH (q j) v1, hH (q k) v2, hA, qq_b1, qq_b2, qq_b3, qq_b4, qq_b5, qq_b6, qq_b7, qq_b8, qq_b9, qq_b10, qq_b11, qq_b12, qq_b13, qq_b18, qq_b19, qq_s0l, qq_s0r, qq_s1l, qq_s1r, qq_s2l, qq_s2r, qq_s3l, qq_s3r, qq_s6l, qq_s6r, qq_s7l, qq_s7r, qq_bt, qq_bf, qq_l70, qq_l24, qq_l23, qq_l22, qq_l21, qq_l19, qq_l18, qq_l17, qq_l16, qq_l25, qq_l32, qq_l33, qq_l34, qq_l35, qq_l44, qq_l46, qq_l108, qq_l0, qq_l1, qq_l2, qq_l3, qq_l4, qq_l5, qq_l6, qq_l7, qq_l8, qq_l9, qq_l10, qq_l11, qq_l12, qq_l13, qq_l14, qq_l15, qq_l20, qq_l30, qq_l31, qq_l36, qq_l37, qq_l38, qq_l39, qq_l40, qq_l41, qq_l42, qq_l43, qq_l45, qq_l47, qq_l48, qq_l49, qq_l50, qq_l57, qq_l58, qq_l59, qq_l60, qq_l61, qq_l62, qq_l63, qq_l80, qq_l81, qq_l97, qq_l98, qq_l99, qq_l100, qq_l103, qq_l112, qq_l113, qq_l119, qq_l120, qq_l121, qq_l124, qq_l126, qq_l128, qq_l255, qq_l360, qq_l512, qq_l729, qq_zg, qq_zs, qq_zsJ, qq_zgT, qq_ltT, qq_ltF, qq_leT, qq_leF, qq_eqT, qq_eqF, qq_nltT, qq_ltnF, qq_nltnT, qq_nltnF, qq_nleT, qq_lenF, qq_nlenT, qq_nlenF, qq_eqnF, qq_neqF, qq_neqnF, qq_neqnT, nI_add, qq_subT, qq_subF, qq_addnT, qq_addnF, qq_naddT, qq_naddF, pk_mul, qq_and, qq_or, if_true, if_false, not_true, not_false_iff, qq_upd, qq_updE, qq_updN, reduceIte, eq_self, ne_eq, true_and, and_true, Nat.add_zero, Nat.zero_add, Nat.add_sub_cancel]
      exact e3
set_option maxRecDepth 100000 in
set_option maxHeartbeats 4000000 in
theorem qq_ab6 {tm : Int32} {text : Nat → Int32} {lv : Nat → Nat → Nat → Nat → Nat → Bool} (hT : qq_LM tm text lv) {hts : Nat → Int32} {H : Nat → Nat} {P : Nat} (hH : qq_Ln hts H P) (hB : ∀ p, p < P → H p < 1000) (hP : P ≤ 9) {line row : Nat → Int32} {q : Nat → Nat} {n : Nat} (hL : qq_Ln line q n) (hR : qq_Ln row q n) (hV : qq_Vl q n P) (hn : n ≤ 9) (tb : Int32) (tape : Nat → Int32) :
    ∀ t k fuel (base at_ ends fault opened : Int32) (names blocks : Nat → Int32), k + t = n → t < fuel → (∀ i, i < k → blocks (q i) = nI (qq_ms (qq_bl (qq_cs lv H) H q i) q n)) → ∃ (b1 a1 e1 f1 o1 : Int32) (names1 blocks1 : Nat → Int32), f_M_asksBlocks_L6 tm (nI n) (-nI 1) tb hts tape text line row fuel base at_ ends fault opened names blocks (nI k) = some (b1, a1, e1, f1, o1, names1, blocks1) ∧ ∀ i, i < n → blocks1 (q i) = nI (qq_ms (qq_bl (qq_cs lv H) H q i) q n) := by
  intro t
  induction t with
  | zero =>
    intro k fuel base at_ ends fault opened names blocks h hf hA
    obtain ⟨f, rfl⟩ : ∃ f, fuel = f + 1 := ⟨fuel - 1, by omega⟩
    obtain rfl : k = n := by omega
    refine ⟨base, at_, ends, fault, opened, names, blocks, ?_, hA⟩
    rw [f_M_asksBlocks_L6]; simp (disch := omega) only [qq_b1, qq_b2, qq_b3, qq_b4, qq_b5, qq_b6, qq_b7, qq_b8, qq_b9, qq_b10, qq_b11, qq_b12, qq_b13, qq_b18, qq_b19, qq_s0l, qq_s0r, qq_s1l, qq_s1r, qq_s2l, qq_s2r, qq_s3l, qq_s3r, qq_s6l, qq_s6r, qq_s7l, qq_s7r, qq_bt, qq_bf, qq_l70, qq_l24, qq_l23, qq_l22, qq_l21, qq_l19, qq_l18, qq_l17, qq_l16, qq_l25, qq_l32, qq_l33, qq_l34, qq_l35, qq_l44, qq_l46, qq_l108, qq_l0, qq_l1, qq_l2, qq_l3, qq_l4, qq_l5, qq_l6, qq_l7, qq_l8, qq_l9, qq_l10, qq_l11, qq_l12, qq_l13, qq_l14, qq_l15, qq_l20, qq_l30, qq_l31, qq_l36, qq_l37, qq_l38, qq_l39, qq_l40, qq_l41, qq_l42, qq_l43, qq_l45, qq_l47, qq_l48, qq_l49, qq_l50, qq_l57, qq_l58, qq_l59, qq_l60, qq_l61, qq_l62, qq_l63, qq_l80, qq_l81, qq_l97, qq_l98, qq_l99, qq_l100, qq_l103, qq_l112, qq_l113, qq_l119, qq_l120, qq_l121, qq_l124, qq_l126, qq_l128, qq_l255, qq_l360, qq_l512, qq_l729, qq_zg, qq_zs, qq_zsJ, qq_zgT, qq_ltT, qq_ltF, qq_leT, qq_leF, qq_eqT, qq_eqF, qq_nltT, qq_ltnF, qq_nltnT, qq_nltnF, qq_nleT, qq_lenF, qq_nlenT, qq_nlenF, qq_eqnF, qq_neqF, qq_neqnF, qq_neqnT, nI_add, qq_subT, qq_subF, qq_addnT, qq_addnF, qq_naddT, qq_naddF, pk_mul, qq_and, qq_or, if_true, if_false, not_true, not_false_iff, qq_upd, qq_updE, qq_updN, reduceIte, eq_self, ne_eq, true_and, and_true, Nat.add_zero, Nat.zero_add, Nat.add_sub_cancel]
  | succ t ih =>
    intro k fuel base at_ ends fault opened names blocks h hf hA
    obtain ⟨f, rfl⟩ : ∃ f, fuel = f + 1 := ⟨fuel - 1, by omega⟩
    have hk : k < n := by omega
    have v2 := hV.1 k hk
    obtain ⟨b1, a1, en1, f1, o1, names1, bl1, e1, g1, g2⟩ := qq_ab30 hT hH hB hP hL hR hV.1 hn hk tb tape n 0 FU base at_ ends fault opened names (upd blocks (q k) (nI 0)) (by omega) (by rw [qq_FU]; omega) (by unfold upd; rw [if_pos rfl]; rfl)
    obtain ⟨b3, a3, en3, f3, o3, names3, bl3, e3, g3⟩ := ih (k + 1) f b1 a1 en1 f1 o1 names1 bl1 (by omega) (by omega) (fun i hi => by
      by_cases e : i = k
      · rw [e]; exact g1
      · rw [g2 (q i) (fun e2 => e (hV.2 i k (by omega) hk e2))]
        unfold upd
        rw [if_neg (fun e2 => e (hV.2 i k (by omega) hk e2))]
        exact hA i (by omega))
    refine ⟨b3, a3, en3, f3, o3, names3, bl3, ?_, g3⟩
    rw [f_M_asksBlocks_L6]; simp (disch := omega) only [hL k hk, e1, qq_b1, qq_b2, qq_b3, qq_b4, qq_b5, qq_b6, qq_b7, qq_b8, qq_b9, qq_b10, qq_b11, qq_b12, qq_b13, qq_b18, qq_b19, qq_s0l, qq_s0r, qq_s1l, qq_s1r, qq_s2l, qq_s2r, qq_s3l, qq_s3r, qq_s6l, qq_s6r, qq_s7l, qq_s7r, qq_bt, qq_bf, qq_l70, qq_l24, qq_l23, qq_l22, qq_l21, qq_l19, qq_l18, qq_l17, qq_l16, qq_l25, qq_l32, qq_l33, qq_l34, qq_l35, qq_l44, qq_l46, qq_l108, qq_l0, qq_l1, qq_l2, qq_l3, qq_l4, qq_l5, qq_l6, qq_l7, qq_l8, qq_l9, qq_l10, qq_l11, qq_l12, qq_l13, qq_l14, qq_l15, qq_l20, qq_l30, qq_l31, qq_l36, qq_l37, qq_l38, qq_l39, qq_l40, qq_l41, qq_l42, qq_l43, qq_l45, qq_l47, qq_l48, qq_l49, qq_l50, qq_l57, qq_l58, qq_l59, qq_l60, qq_l61, qq_l62, qq_l63, qq_l80, qq_l81, qq_l97, qq_l98, qq_l99, qq_l100, qq_l103, qq_l112, qq_l113, qq_l119, qq_l120, qq_l121, qq_l124, qq_l126, qq_l128, qq_l255, qq_l360, qq_l512, qq_l729, qq_zg, qq_zs, qq_zsJ, qq_zgT, qq_ltT, qq_ltF, qq_leT, qq_leF, qq_eqT, qq_eqF, qq_nltT, qq_ltnF, qq_nltnT, qq_nltnF, qq_nleT, qq_lenF, qq_nlenT, qq_nlenF, qq_eqnF, qq_neqF, qq_neqnF, qq_neqnT, nI_add, qq_subT, qq_subF, qq_addnT, qq_addnF, qq_naddT, qq_naddF, pk_mul, qq_and, qq_or, if_true, if_false, not_true, not_false_iff, qq_upd, qq_updE, qq_updN, reduceIte, eq_self, ne_eq, true_and, and_true, Nat.add_zero, Nat.zero_add, Nat.add_sub_cancel]; exact e3
set_option maxRecDepth 100000 in
set_option maxHeartbeats 4000000 in
theorem qq_asksBlocks {tm : Int32} {text : Nat → Int32} {lv : Nat → Nat → Nat → Nat → Nat → Bool} (hT : qq_LM tm text lv) {hts : Nat → Int32} {H : Nat → Nat} {P : Nat} (hH : qq_Ln hts H P) (hB : ∀ p, p < P → H p < 1000) (hP : P ≤ 9) {line : Nat → Int32} {q : Nat → Nat} {n : Nat} (hL : qq_Ln line q n) (hV : qq_Vl q n P) (hn : n ≤ 9) (base at_ ends fault opened rm tl tb : Int32) (tape names row blocks : Nat → Int32) :
    ∃ (b1 a1 e1 f1 o1 : Int32) (names1 row1 blocks1 : Nat → Int32), f_M_asksBlocks tm base at_ ends fault opened (nI n) rm tl tb hts tape text names line row blocks = some (b1, a1, e1, f1, o1, nI n, -nI 1, names1, row1, blocks1) ∧ ∀ i, i < n → blocks1 (q i) = nI (qq_ms (qq_bl (qq_cs lv H) H q i) q n) := by
  obtain ⟨w, e1, hw⟩ := qq_laysOut (row := row) (a := rm) (b := tl) hL hn
  obtain ⟨b3, a3, en3, f3, o3, names3, bl3, e3, g3⟩ := qq_ab6 hT hH hB hP hL hw hV hn tb tape n 0 FU base at_ ends fault opened names blocks (by omega) (by rw [qq_FU]; omega) (fun i hi => absurd hi (Nat.not_lt_zero i))
  refine ⟨b3, a3, en3, f3, o3, names3, w, bl3, ?_, g3⟩
  unfold f_M_asksBlocks
  simp (disch := omega) only [e1, e3, qq_b1, qq_b2, qq_b3, qq_b4, qq_b5, qq_b6, qq_b7, qq_b8, qq_b9, qq_b10, qq_b11, qq_b12, qq_b13, qq_b18, qq_b19, qq_s0l, qq_s0r, qq_s1l, qq_s1r, qq_s2l, qq_s2r, qq_s3l, qq_s3r, qq_s6l, qq_s6r, qq_s7l, qq_s7r, qq_bt, qq_bf, qq_l70, qq_l24, qq_l23, qq_l22, qq_l21, qq_l19, qq_l18, qq_l17, qq_l16, qq_l25, qq_l32, qq_l33, qq_l34, qq_l35, qq_l44, qq_l46, qq_l108, qq_l0, qq_l1, qq_l2, qq_l3, qq_l4, qq_l5, qq_l6, qq_l7, qq_l8, qq_l9, qq_l10, qq_l11, qq_l12, qq_l13, qq_l14, qq_l15, qq_l20, qq_l30, qq_l31, qq_l36, qq_l37, qq_l38, qq_l39, qq_l40, qq_l41, qq_l42, qq_l43, qq_l45, qq_l47, qq_l48, qq_l49, qq_l50, qq_l57, qq_l58, qq_l59, qq_l60, qq_l61, qq_l62, qq_l63, qq_l80, qq_l81, qq_l97, qq_l98, qq_l99, qq_l100, qq_l103, qq_l112, qq_l113, qq_l119, qq_l120, qq_l121, qq_l124, qq_l126, qq_l128, qq_l255, qq_l360, qq_l512, qq_l729, qq_zg, qq_zs, qq_zsJ, qq_zgT, qq_ltT, qq_ltF, qq_leT, qq_leF, qq_eqT, qq_eqF, qq_nltT, qq_ltnF, qq_nltnT, qq_nltnF, qq_nleT, qq_lenF, qq_nlenT, qq_nlenF, qq_eqnF, qq_neqF, qq_neqnF, qq_neqnT, nI_add, qq_subT, qq_subF, qq_addnT, qq_addnF, qq_naddT, qq_naddF, pk_mul, qq_and, qq_or, if_true, if_false, not_true, not_false_iff, qq_upd, qq_updE, qq_updN, reduceIte, eq_self, ne_eq, true_and, and_true, Nat.add_zero, Nat.zero_add, Nat.add_sub_cancel]
