/-! LAYER (c), pure words: the base (by wip/whole/c/c.py) -/
theorem qq_l70 : (70 : Int32) = nI 70 := rfl
theorem qq_l24 : (24 : Int32) = nI 24 := rfl
theorem qq_l23 : (23 : Int32) = nI 23 := rfl
theorem qq_l22 : (22 : Int32) = nI 22 := rfl
theorem qq_l21 : (21 : Int32) = nI 21 := rfl
theorem qq_l19 : (19 : Int32) = nI 19 := rfl
theorem qq_l18 : (18 : Int32) = nI 18 := rfl
theorem qq_l17 : (17 : Int32) = nI 17 := rfl
theorem qq_l16 : (16 : Int32) = nI 16 := rfl
theorem qq_l25 : (25 : Int32) = nI 25 := rfl
theorem qq_l32 : (32 : Int32) = nI 32 := rfl
theorem qq_l33 : (33 : Int32) = nI 33 := rfl
theorem qq_l34 : (34 : Int32) = nI 34 := rfl
theorem qq_l35 : (35 : Int32) = nI 35 := rfl
theorem qq_l44 : (44 : Int32) = nI 44 := rfl
theorem qq_l46 : (46 : Int32) = nI 46 := rfl
theorem qq_l108 : (108 : Int32) = nI 108 := rfl
theorem qq_l0 : (0 : Int32) = nI 0 := rfl
theorem qq_l1 : (1 : Int32) = nI 1 := rfl
theorem qq_l2 : (2 : Int32) = nI 2 := rfl
theorem qq_l3 : (3 : Int32) = nI 3 := rfl
theorem qq_l4 : (4 : Int32) = nI 4 := rfl
theorem qq_l5 : (5 : Int32) = nI 5 := rfl
theorem qq_l6 : (6 : Int32) = nI 6 := rfl
theorem qq_l7 : (7 : Int32) = nI 7 := rfl
theorem qq_l8 : (8 : Int32) = nI 8 := rfl
theorem qq_l9 : (9 : Int32) = nI 9 := rfl
theorem qq_l10 : (10 : Int32) = nI 10 := rfl
theorem qq_l11 : (11 : Int32) = nI 11 := rfl
theorem qq_l12 : (12 : Int32) = nI 12 := rfl
theorem qq_l13 : (13 : Int32) = nI 13 := rfl
theorem qq_l14 : (14 : Int32) = nI 14 := rfl
theorem qq_l15 : (15 : Int32) = nI 15 := rfl
theorem qq_l20 : (20 : Int32) = nI 20 := rfl
theorem qq_l30 : (30 : Int32) = nI 30 := rfl
theorem qq_l31 : (31 : Int32) = nI 31 := rfl
theorem qq_l36 : (36 : Int32) = nI 36 := rfl
theorem qq_l37 : (37 : Int32) = nI 37 := rfl
theorem qq_l38 : (38 : Int32) = nI 38 := rfl
theorem qq_l39 : (39 : Int32) = nI 39 := rfl
theorem qq_l40 : (40 : Int32) = nI 40 := rfl
theorem qq_l41 : (41 : Int32) = nI 41 := rfl
theorem qq_l42 : (42 : Int32) = nI 42 := rfl
theorem qq_l43 : (43 : Int32) = nI 43 := rfl
theorem qq_l45 : (45 : Int32) = nI 45 := rfl
theorem qq_l47 : (47 : Int32) = nI 47 := rfl
theorem qq_l48 : (48 : Int32) = nI 48 := rfl
theorem qq_l49 : (49 : Int32) = nI 49 := rfl
theorem qq_l50 : (50 : Int32) = nI 50 := rfl
theorem qq_l57 : (57 : Int32) = nI 57 := rfl
theorem qq_l58 : (58 : Int32) = nI 58 := rfl
theorem qq_l59 : (59 : Int32) = nI 59 := rfl
theorem qq_l60 : (60 : Int32) = nI 60 := rfl
theorem qq_l61 : (61 : Int32) = nI 61 := rfl
theorem qq_l62 : (62 : Int32) = nI 62 := rfl
theorem qq_l63 : (63 : Int32) = nI 63 := rfl
theorem qq_l80 : (80 : Int32) = nI 80 := rfl
theorem qq_l81 : (81 : Int32) = nI 81 := rfl
theorem qq_l97 : (97 : Int32) = nI 97 := rfl
theorem qq_l98 : (98 : Int32) = nI 98 := rfl
theorem qq_l99 : (99 : Int32) = nI 99 := rfl
theorem qq_l100 : (100 : Int32) = nI 100 := rfl
theorem qq_l103 : (103 : Int32) = nI 103 := rfl
theorem qq_l112 : (112 : Int32) = nI 112 := rfl
theorem qq_l113 : (113 : Int32) = nI 113 := rfl
theorem qq_l119 : (119 : Int32) = nI 119 := rfl
theorem qq_l120 : (120 : Int32) = nI 120 := rfl
theorem qq_l121 : (121 : Int32) = nI 121 := rfl
theorem qq_l124 : (124 : Int32) = nI 124 := rfl
theorem qq_l126 : (126 : Int32) = nI 126 := rfl
theorem qq_l128 : (128 : Int32) = nI 128 := rfl
theorem qq_l255 : (255 : Int32) = nI 255 := rfl
theorem qq_l360 : (360 : Int32) = nI 360 := rfl
theorem qq_l512 : (512 : Int32) = nI 512 := rfl
theorem qq_l729 : (729 : Int32) = nI 729 := rfl
theorem qq_b1 {T1 ρ : Type} {x1 : T1} {k : T1 → Option ρ} : zb1 (some x1) k = k x1 := rfl
theorem qq_b2 {T1 T2 ρ : Type} {x1 : T1} {x2 : T2} {k : T1 → T2 → Option ρ} : zb2 (some (x1, x2)) k = k x1 x2 := rfl
theorem qq_b3 {T1 T2 T3 ρ : Type} {x1 : T1} {x2 : T2} {x3 : T3} {k : T1 → T2 → T3 → Option ρ} : zb3 (some (x1, x2, x3)) k = k x1 x2 x3 := rfl
theorem qq_b4 {T1 T2 T3 T4 ρ : Type} {x1 : T1} {x2 : T2} {x3 : T3} {x4 : T4} {k : T1 → T2 → T3 → T4 → Option ρ} : zb4 (some (x1, x2, x3, x4)) k = k x1 x2 x3 x4 := rfl
theorem qq_b5 {T1 T2 T3 T4 T5 ρ : Type} {x1 : T1} {x2 : T2} {x3 : T3} {x4 : T4} {x5 : T5} {k : T1 → T2 → T3 → T4 → T5 → Option ρ} : zb5 (some (x1, x2, x3, x4, x5)) k = k x1 x2 x3 x4 x5 := rfl
theorem qq_b6 {T1 T2 T3 T4 T5 T6 ρ : Type} {x1 : T1} {x2 : T2} {x3 : T3} {x4 : T4} {x5 : T5} {x6 : T6} {k : T1 → T2 → T3 → T4 → T5 → T6 → Option ρ} : zb6 (some (x1, x2, x3, x4, x5, x6)) k = k x1 x2 x3 x4 x5 x6 := rfl
theorem qq_b7 {T1 T2 T3 T4 T5 T6 T7 ρ : Type} {x1 : T1} {x2 : T2} {x3 : T3} {x4 : T4} {x5 : T5} {x6 : T6} {x7 : T7} {k : T1 → T2 → T3 → T4 → T5 → T6 → T7 → Option ρ} : zb7 (some (x1, x2, x3, x4, x5, x6, x7)) k = k x1 x2 x3 x4 x5 x6 x7 := rfl
theorem qq_b8 {T1 T2 T3 T4 T5 T6 T7 T8 ρ : Type} {x1 : T1} {x2 : T2} {x3 : T3} {x4 : T4} {x5 : T5} {x6 : T6} {x7 : T7} {x8 : T8} {k : T1 → T2 → T3 → T4 → T5 → T6 → T7 → T8 → Option ρ} : zb8 (some (x1, x2, x3, x4, x5, x6, x7, x8)) k = k x1 x2 x3 x4 x5 x6 x7 x8 := rfl
theorem qq_b9 {T1 T2 T3 T4 T5 T6 T7 T8 T9 ρ : Type} {x1 : T1} {x2 : T2} {x3 : T3} {x4 : T4} {x5 : T5} {x6 : T6} {x7 : T7} {x8 : T8} {x9 : T9} {k : T1 → T2 → T3 → T4 → T5 → T6 → T7 → T8 → T9 → Option ρ} : zb9 (some (x1, x2, x3, x4, x5, x6, x7, x8, x9)) k = k x1 x2 x3 x4 x5 x6 x7 x8 x9 := rfl
theorem qq_b10 {T1 T2 T3 T4 T5 T6 T7 T8 T9 T10 ρ : Type} {x1 : T1} {x2 : T2} {x3 : T3} {x4 : T4} {x5 : T5} {x6 : T6} {x7 : T7} {x8 : T8} {x9 : T9} {x10 : T10} {k : T1 → T2 → T3 → T4 → T5 → T6 → T7 → T8 → T9 → T10 → Option ρ} : zb10 (some (x1, x2, x3, x4, x5, x6, x7, x8, x9, x10)) k = k x1 x2 x3 x4 x5 x6 x7 x8 x9 x10 := rfl
theorem qq_b11 {T1 T2 T3 T4 T5 T6 T7 T8 T9 T10 T11 ρ : Type} {x1 : T1} {x2 : T2} {x3 : T3} {x4 : T4} {x5 : T5} {x6 : T6} {x7 : T7} {x8 : T8} {x9 : T9} {x10 : T10} {x11 : T11} {k : T1 → T2 → T3 → T4 → T5 → T6 → T7 → T8 → T9 → T10 → T11 → Option ρ} : zb11 (some (x1, x2, x3, x4, x5, x6, x7, x8, x9, x10, x11)) k = k x1 x2 x3 x4 x5 x6 x7 x8 x9 x10 x11 := rfl
theorem qq_b12 {T1 T2 T3 T4 T5 T6 T7 T8 T9 T10 T11 T12 ρ : Type} {x1 : T1} {x2 : T2} {x3 : T3} {x4 : T4} {x5 : T5} {x6 : T6} {x7 : T7} {x8 : T8} {x9 : T9} {x10 : T10} {x11 : T11} {x12 : T12} {k : T1 → T2 → T3 → T4 → T5 → T6 → T7 → T8 → T9 → T10 → T11 → T12 → Option ρ} : zb12 (some (x1, x2, x3, x4, x5, x6, x7, x8, x9, x10, x11, x12)) k = k x1 x2 x3 x4 x5 x6 x7 x8 x9 x10 x11 x12 := rfl
theorem qq_b13 {T1 T2 T3 T4 T5 T6 T7 T8 T9 T10 T11 T12 T13 ρ : Type} {x1 : T1} {x2 : T2} {x3 : T3} {x4 : T4} {x5 : T5} {x6 : T6} {x7 : T7} {x8 : T8} {x9 : T9} {x10 : T10} {x11 : T11} {x12 : T12} {x13 : T13} {k : T1 → T2 → T3 → T4 → T5 → T6 → T7 → T8 → T9 → T10 → T11 → T12 → T13 → Option ρ} : zb13 (some (x1, x2, x3, x4, x5, x6, x7, x8, x9, x10, x11, x12, x13)) k = k x1 x2 x3 x4 x5 x6 x7 x8 x9 x10 x11 x12 x13 := rfl
theorem qq_b18 {T1 T2 T3 T4 T5 T6 T7 T8 T9 T10 T11 T12 T13 T14 T15 T16 T17 T18 ρ : Type} {x1 : T1} {x2 : T2} {x3 : T3} {x4 : T4} {x5 : T5} {x6 : T6} {x7 : T7} {x8 : T8} {x9 : T9} {x10 : T10} {x11 : T11} {x12 : T12} {x13 : T13} {x14 : T14} {x15 : T15} {x16 : T16} {x17 : T17} {x18 : T18} {k : T1 → T2 → T3 → T4 → T5 → T6 → T7 → T8 → T9 → T10 → T11 → T12 → T13 → T14 → T15 → T16 → T17 → T18 → Option ρ} : zb18 (some (x1, x2, x3, x4, x5, x6, x7, x8, x9, x10, x11, x12, x13, x14, x15, x16, x17, x18)) k = k x1 x2 x3 x4 x5 x6 x7 x8 x9 x10 x11 x12 x13 x14 x15 x16 x17 x18 := rfl
theorem qq_b19 {T1 T2 T3 T4 T5 T6 T7 T8 T9 T10 T11 T12 T13 T14 T15 T16 T17 T18 T19 ρ : Type} {x1 : T1} {x2 : T2} {x3 : T3} {x4 : T4} {x5 : T5} {x6 : T6} {x7 : T7} {x8 : T8} {x9 : T9} {x10 : T10} {x11 : T11} {x12 : T12} {x13 : T13} {x14 : T14} {x15 : T15} {x16 : T16} {x17 : T17} {x18 : T18} {x19 : T19} {k : T1 → T2 → T3 → T4 → T5 → T6 → T7 → T8 → T9 → T10 → T11 → T12 → T13 → T14 → T15 → T16 → T17 → T18 → T19 → Option ρ} : zb19 (some (x1, x2, x3, x4, x5, x6, x7, x8, x9, x10, x11, x12, x13, x14, x15, x16, x17, x18, x19)) k = k x1 x2 x3 x4 x5 x6 x7 x8 x9 x10 x11 x12 x13 x14 x15 x16 x17 x18 x19 := rfl
theorem qq_s0l {R ρ : Type} {k : Option ρ} {k2 : R → Option ρ} {u : Unit} : zbs0 (some (.inl u)) k k2 = k := rfl
theorem qq_s0r {R ρ : Type} {k : Option ρ} {k2 : R → Option ρ} {r : R} : zbs0 (some (.inr r)) k k2 = k2 r := rfl
theorem qq_s1l {T1 R ρ : Type} {x1 : T1} {k : T1 → Option ρ} {k2 : R → Option ρ} : zbs1 (some (.inl x1)) k k2 = k x1 := rfl
theorem qq_s1r {T1 R ρ : Type} {r : R} {k : T1 → Option ρ} {k2 : R → Option ρ} : zbs1 (some (.inr r)) k k2 = k2 r := rfl
theorem qq_s2l {T1 T2 R ρ : Type} {x1 : T1} {x2 : T2} {k : T1 → T2 → Option ρ} {k2 : R → Option ρ} : zbs2 (some (.inl (x1, x2))) k k2 = k x1 x2 := rfl
theorem qq_s2r {T1 T2 R ρ : Type} {r : R} {k : T1 → T2 → Option ρ} {k2 : R → Option ρ} : zbs2 (some (.inr r)) k k2 = k2 r := rfl
theorem qq_s3l {T1 T2 T3 R ρ : Type} {x1 : T1} {x2 : T2} {x3 : T3} {k : T1 → T2 → T3 → Option ρ} {k2 : R → Option ρ} : zbs3 (some (.inl (x1, x2, x3))) k k2 = k x1 x2 x3 := rfl
theorem qq_s3r {T1 T2 T3 R ρ : Type} {r : R} {k : T1 → T2 → T3 → Option ρ} {k2 : R → Option ρ} : zbs3 (some (.inr r)) k k2 = k2 r := rfl
theorem qq_s6l {T1 T2 T3 T4 T5 T6 R ρ : Type} {x1 : T1} {x2 : T2} {x3 : T3} {x4 : T4} {x5 : T5} {x6 : T6} {k : T1 → T2 → T3 → T4 → T5 → T6 → Option ρ} {k2 : R → Option ρ} : zbs6 (some (.inl (x1, x2, x3, x4, x5, x6))) k k2 = k x1 x2 x3 x4 x5 x6 := rfl
theorem qq_s6r {T1 T2 T3 T4 T5 T6 R ρ : Type} {r : R} {k : T1 → T2 → T3 → T4 → T5 → T6 → Option ρ} {k2 : R → Option ρ} : zbs6 (some (.inr r)) k k2 = k2 r := rfl
theorem qq_s7l {T1 T2 T3 T4 T5 T6 T7 R ρ : Type} {x1 : T1} {x2 : T2} {x3 : T3} {x4 : T4} {x5 : T5} {x6 : T6} {x7 : T7} {k : T1 → T2 → T3 → T4 → T5 → T6 → T7 → Option ρ} {k2 : R → Option ρ} : zbs7 (some (.inl (x1, x2, x3, x4, x5, x6, x7))) k k2 = k x1 x2 x3 x4 x5 x6 x7 := rfl
theorem qq_s7r {T1 T2 T3 T4 T5 T6 T7 R ρ : Type} {r : R} {k : T1 → T2 → T3 → T4 → T5 → T6 → T7 → Option ρ} {k2 : R → Option ρ} : zbs7 (some (.inr r)) k k2 = k2 r := rfl
abbrev qq_M : Nat := 2147483648
theorem qq_toI {n : Nat} (h : n < 2147483648) : (nI n).toInt = (n : Int) := nI_toInt (by omega)
theorem qq_toN {n : Nat} (h : n ≤ 2147483648) : (-nI n).toInt = -(n : Int) := by
  rw [Int32.toInt_neg]
  rcases Nat.lt_or_ge n 2147483648 with h1 | h1
  · rw [qq_toI h1]
    exact Int.bmod_eq_of_le (by omega) (by omega)
  · have e : n = 2147483648 := by omega
    subst e
    decide +kernel
theorem qq_inj {x y : Int32} : (x = y) = (x.toInt = y.toInt) := propext ⟨fun h => h ▸ rfl, fun h => Int32.toInt_inj.mp h⟩
theorem qq_ltT {a b : Nat} (h : a < b ∧ b < 2147483648) : (nI a < nI b) = True := eq_true (nI_lt h.1 (by omega))
theorem qq_ltF {a b : Nat} (h : b ≤ a ∧ a < 2147483648) : (nI a < nI b) = False := eq_false (nI_nlt h.1 (by omega))
theorem qq_leT {a b : Nat} (h : a ≤ b ∧ b < 2147483648) : (nI a ≤ nI b) = True := eq_true (nI_le h.1 (by omega))
theorem qq_leF {a b : Nat} (h : b < a ∧ a < 2147483648) : (nI a ≤ nI b) = False := eq_false (nI_ge h.1 (by omega))
theorem qq_eqT {a b : Nat} (h : a = b) : (nI a = nI b) = True := eq_true (congrArg nI h)
theorem qq_eqF {a b : Nat} (h : a ≠ b ∧ a < 2147483648 ∧ b < 2147483648) : (nI a = nI b) = False := eq_false fun e => h.1 ((nI_eq (by omega) (by omega)).mp e)
theorem qq_nltT {a b : Nat} (h : 0 < a ∧ a ≤ 2147483648 ∧ b < 2147483648) : (-nI a < nI b) = True := by
  rw [Int32.lt_iff_toInt_lt, qq_toN h.2.1, qq_toI h.2.2]; exact eq_true (by omega)
theorem qq_ltnF {a b : Nat} (h : b ≤ 2147483648 ∧ a < 2147483648) : (nI a < -nI b) = False := by
  rw [Int32.lt_iff_toInt_lt, qq_toN h.1, qq_toI h.2]; exact eq_false (by omega)
theorem qq_nltnT {a b : Nat} (h : b < a ∧ a ≤ 2147483648) : (-nI a < -nI b) = True := by
  rw [Int32.lt_iff_toInt_lt, qq_toN h.2, qq_toN (by omega)]; exact eq_true (by omega)
theorem qq_nltnF {a b : Nat} (h : a ≤ b ∧ b ≤ 2147483648) : (-nI a < -nI b) = False := by
  rw [Int32.lt_iff_toInt_lt, qq_toN h.2, qq_toN (by omega)]; exact eq_false (by omega)
theorem qq_nleT {a b : Nat} (h : a ≤ 2147483648 ∧ b < 2147483648) : (-nI a ≤ nI b) = True := by
  rw [Int32.le_iff_toInt_le, qq_toN h.1, qq_toI h.2]; exact eq_true (by omega)
theorem qq_lenF {a b : Nat} (h : 0 < b ∧ b ≤ 2147483648 ∧ a < 2147483648) : (nI a ≤ -nI b) = False := by
  rw [Int32.le_iff_toInt_le, qq_toN h.2.1, qq_toI h.2.2]; exact eq_false (by omega)
theorem qq_nlenT {a b : Nat} (h : b ≤ a ∧ a ≤ 2147483648) : (-nI a ≤ -nI b) = True := by
  rw [Int32.le_iff_toInt_le, qq_toN h.2, qq_toN (by omega)]; exact eq_true (by omega)
theorem qq_nlenF {a b : Nat} (h : a < b ∧ b ≤ 2147483648) : (-nI a ≤ -nI b) = False := by
  rw [Int32.le_iff_toInt_le, qq_toN h.2, qq_toN (by omega)]; exact eq_false (by omega)
theorem qq_eqnF {a b : Nat} (h : 0 < b ∧ b ≤ 2147483648 ∧ a < 2147483648) : (nI a = -nI b) = False := by
  rw [qq_inj, qq_toN h.2.1, qq_toI h.2.2]; exact eq_false (by omega)
theorem qq_neqF {a b : Nat} (h : 0 < a ∧ a ≤ 2147483648 ∧ b < 2147483648) : (-nI a = nI b) = False := by
  rw [qq_inj, qq_toN h.2.1, qq_toI h.2.2]; exact eq_false (by omega)
theorem qq_neqnF {a b : Nat} (h : a ≠ b ∧ a ≤ 2147483648 ∧ b ≤ 2147483648) : (-nI a = -nI b) = False := by
  rw [qq_inj, qq_toN h.2.1, qq_toN h.2.2]; exact eq_false (by omega)
theorem qq_neqnT {a b : Nat} (h : a = b) : (-nI a = -nI b) = True := eq_true (by rw [h])
theorem qq_subT {a b : Nat} (h : b ≤ a) : nI a - nI b = nI (a - b) := pk_sub h
theorem qq_neg_sub (x y : Int32) : -(x - y) = y - x := by rw [Int32.neg_sub]
theorem qq_subF {a b : Nat} (h : a < b) : nI a - nI b = -nI (b - a) := by
  rw [← qq_subT (Nat.le_of_lt h), Int32.neg_sub]
theorem qq_addnT {a b : Nat} (h : b ≤ a) : nI a + -nI b = nI (a - b) := by
  rw [← qq_subT h, Int32.sub_eq_add_neg]
theorem qq_addnF {a b : Nat} (h : a < b) : nI a + -nI b = -nI (b - a) := by
  rw [← qq_subF h, Int32.sub_eq_add_neg]
theorem qq_naddT {a b : Nat} (h : a ≤ b) : -nI a + nI b = nI (b - a) := by rw [Int32.add_comm, qq_addnT h]
theorem qq_naddF {a b : Nat} (h : b < a) : -nI a + nI b = -nI (a - b) := by rw [Int32.add_comm, qq_addnF h]
theorem qq_and {p q : Prop} (hp : p) : (p ∧ q) = q := propext ⟨fun h => h.2, fun h => ⟨hp, h⟩⟩
theorem qq_or {p q : Prop} (hp : p) : (p ∨ q) = True := eq_true (Or.inl hp)
theorem qq_zg {α β : Type} {f : Nat → β} {n j : Nat} {k : β → Option α} (h : j < n ∧ n < 2147483648) : zg f n (nI j) k = k (f j) := by
  unfold zg
  rw [if_pos (nI_in h.1 (by omega)), nI_clamp (by omega)]
theorem qq_zs {α : Type} {f : Nat → Int32} {n j : Nat} {x : Int32} {k : (Nat → Int32) → Option α} (h : j < n ∧ n < 2147483648) : zs f n (nI j) x k = k (upd f j x) := by
  unfold zs
  rw [if_pos (nI_in h.1 (by omega)), nI_clamp (by omega)]
theorem qq_zsJ {α : Type} {f : Nat → Int64} {n j : Nat} {x : Int64} {k : (Nat → Int64) → Option α} (h : j < n ∧ n < 2147483648) : zsJ f n (nI j) x k = k (vp_updL f j x) := by
  unfold zsJ
  rw [if_pos (nI_in h.1 (by omega)), nI_clamp (by omega)]
theorem qq_zgd {α : Type} {c : Prop} [Decidable c] {k : Option α} (h : c) : zgd c k = k := if_pos h
theorem qq_zgT {α : Type} {k : Option α} {i : Decidable True} : @zgd α True i k = k := if_pos trivial
theorem qq_upd {f : Nat → Int32} {k j : Nat} {x : Int32} : upd f k x j = if j = k then x else f j := rfl
theorem qq_updE {f : Nat → Int32} {k j : Nat} {x : Int32} (h : j = k) : upd f k x j = x := if_pos h
theorem qq_updN {f : Nat → Int32} {k j : Nat} {x : Int32} (h : j ≠ k) : upd f k x j = f j := if_neg h
theorem qq_FU : FU = 5000 := rfl
/-- an int: nI of a number, or below 0 -/
theorem qq_ix (x : Int32) : (∃ j : Nat, j < 2147483648 ∧ x = nI j) ∨ (∃ j : Nat, 0 < j ∧ j ≤ 2147483648 ∧ x = -nI j) := by
  by_cases h : x < 0
  · right
    have h1 : x.toInt < 0 := by
      have := Int32.lt_iff_toInt_lt.mp h
      simpa using this
    have h2 : -2147483648 ≤ x.toInt := Int32.le_toInt x
    refine ⟨x.toInt.natAbs, by omega, by omega, ?_⟩
    rw [qq_inj, qq_toN (by omega)]
    omega
  · left
    obtain ⟨j, hj, e⟩ := nI_of h
    exact ⟨j, by omega, e⟩
/-- answers of a test -/
def qq_t (b : Bool) : Int32 := if b then nI 1 else nI 0
theorem qq_bt : qq_t true = nI 1 := rfl
theorem qq_bf : qq_t false = nI 0 := rfl
/-- how many below n are so -/
def qq_cnt (p : Nat → Bool) : Nat → Nat
  | 0 => 0
  | n + 1 => qq_cnt p n + (if p n then 1 else 0)
/-- a sum -/
def qq_sum (f : Nat → Nat) : Nat → Nat
  | 0 => 0
  | n + 1 => qq_sum f n + f n
/-- the first from i on, of d at most, that is so; else i + d -/
def qq_fst (c : Nat → Bool) : Nat → Nat → Nat
  | 0, i => i
  | d + 1, i => if c i then i else qq_fst c d (i + 1)
theorem qq_cnt_le (p : Nat → Bool) : ∀ n, qq_cnt p n ≤ n
  | 0 => Nat.le_refl 0
  | n + 1 => by
    have := qq_cnt_le p n
    unfold qq_cnt
    split <;> omega
theorem qq_cnt_congr {p q : Nat → Bool} : ∀ {n : Nat}, (∀ i, i < n → p i = q i) → qq_cnt p n = qq_cnt q n
  | 0, _ => rfl
  | n + 1, h => by
    unfold qq_cnt
    rw [qq_cnt_congr (fun i hi => h i (by omega)), h n (by omega)]
theorem qq_sum_congr {p q : Nat → Nat} : ∀ {n : Nat}, (∀ i, i < n → p i = q i) → qq_sum p n = qq_sum q n
  | 0, _ => rfl
  | n + 1, h => by
    unfold qq_sum
    rw [qq_sum_congr (fun i hi => h i (by omega)), h n (by omega)]
theorem qq_sum_le {f : Nat → Nat} {m : Nat} : ∀ {n : Nat}, (∀ i, i < n → f i ≤ m) → qq_sum f n ≤ n * m
  | 0, _ => Nat.zero_le _
  | n + 1, h => by
    have h1 := qq_sum_le (f := f) (m := m) (n := n) (fun i hi => h i (by omega))
    have h2 := h n (by omega)
    unfold qq_sum
    rw [Nat.succ_mul]
    omega
theorem qq_fst_ge (c : Nat → Bool) : ∀ d i, i ≤ qq_fst c d i
  | 0, i => Nat.le_refl i
  | d + 1, i => by
    have := qq_fst_ge c d (i + 1)
    unfold qq_fst
    split <;> omega
theorem qq_fst_le (c : Nat → Bool) : ∀ d i, qq_fst c d i ≤ i + d
  | 0, i => Nat.le_refl i
  | d + 1, i => by
    have := qq_fst_le c d (i + 1)
    unfold qq_fst
    split <;> omega
theorem qq_fst_is (c : Nat → Bool) : ∀ d i, qq_fst c d i < i + d → c (qq_fst c d i) = true
  | 0, i, h => absurd h (Nat.lt_irrefl _)
  | d + 1, i, h => by
    unfold qq_fst at h ⊢
    by_cases hc : c i = true
    · rw [if_pos hc]; exact hc
    · rw [if_neg hc] at h ⊢
      exact qq_fst_is c d (i + 1) (by omega)
theorem qq_fst_not (c : Nat → Bool) : ∀ d i j, i ≤ j → j < qq_fst c d i → c j = false
  | 0, i, j, h1, h2 => absurd h2 (Nat.not_lt.mpr h1)
  | d + 1, i, j, h1, h2 => by
    unfold qq_fst at h2
    by_cases hc : c i = true
    · rw [if_pos hc] at h2; omega
    · rw [if_neg hc] at h2
      rcases Nat.eq_or_lt_of_le h1 with e | e
      · subst e; simpa using hc
      · exact qq_fst_not c d (i + 1) j e h2
theorem qq_fst_eq (c : Nat → Bool) {d i j : Nat} (h1 : i ≤ j) (h2 : j < i + d) (h3 : c j = true) (h4 : ∀ t, i ≤ t → t < j → c t = false) : qq_fst c d i = j := by
  have a := qq_fst_ge c d i
  have b := qq_fst_le c d i
  rcases Nat.lt_trichotomy (qq_fst c d i) j with h | h | h
  · have := qq_fst_is c d i (by omega)
    rw [h4 _ a h] at this
    cases this
  · exact h
  · have := qq_fst_not c d i j h1 h
    rw [h3] at this
    cases this
theorem qq_fst_none (c : Nat → Bool) {d i : Nat} (h : ∀ t, i ≤ t → t < i + d → c t = false) : qq_fst c d i = i + d := by
  have a := qq_fst_ge c d i
  have b := qq_fst_le c d i
  rcases Nat.lt_or_ge (qq_fst c d i) (i + d) with h1 | h1
  · have := qq_fst_is c d i h1
    rw [h _ a h1] at this
    cases this
  · omega
theorem qq_fst_congr {c e : Nat → Bool} : ∀ {d i : Nat}, (∀ t, i ≤ t → t < i + d → c t = e t) → qq_fst c d i = qq_fst e d i
  | 0, _, _ => rfl
  | d + 1, i, h => by
    unfold qq_fst
    rw [h i (by omega) (by omega), qq_fst_congr (fun t h1 h2 => h t (by omega) (by omega))]
/-- a row holds these numbers -/
def qq_Ln (who : Nat → Int32) (q : Nat → Nat) (n : Nat) : Prop := ∀ i, i < n → who i = nI (q i)
/-- people in a row: below P, nobody twice -/
def qq_Vl (q : Nat → Nat) (n P : Nat) : Prop := (∀ i, i < n → q i < P) ∧ ∀ i j, i < n → j < n → q i = q j → i = j
theorem qq_lg0 (x y : Int64) : (lg_cmp x y < 0) = (x.toInt < y.toInt) := by
  unfold lg_cmp
  simp only [gt_iff_lt, Int64.lt_iff_toInt_lt, ← Int64.toInt_inj]
  split
  · have : ¬ x.toInt < y.toInt := by omega
    simp only [this, eq_iff_iff, iff_false]; decide
  · split
    · have : ¬ x.toInt < y.toInt := by omega
      simp only [this, eq_iff_iff, iff_false]; decide
    · have : x.toInt < y.toInt := by omega
      simp only [this, eq_iff_iff, iff_true]; decide
theorem qq_lg1 (x y : Int64) : ((0 : Int32) < lg_cmp x y) = (y.toInt < x.toInt) := by
  unfold lg_cmp
  simp only [gt_iff_lt, Int64.lt_iff_toInt_lt, ← Int64.toInt_inj]
  split
  · have : y.toInt < x.toInt := by omega
    simp only [this, eq_iff_iff, iff_true]; decide
  · split
    · have : ¬ y.toInt < x.toInt := by omega
      simp only [this, eq_iff_iff, iff_false]; decide
    · have : ¬ y.toInt < x.toInt := by omega
      simp only [this, eq_iff_iff, iff_false]; decide
theorem qq_lg2 (x y : Int64) : (lg_cmp x y = 0) = (x.toInt = y.toInt) := by
  unfold lg_cmp
  simp only [gt_iff_lt, Int64.lt_iff_toInt_lt, ← Int64.toInt_inj]
  split
  · have : ¬ x.toInt = y.toInt := by omega
    simp only [this, eq_iff_iff, iff_false]; decide
  · split
    · have : x.toInt = y.toInt := by omega
      simp only [this, eq_iff_iff, iff_true]
    · have : ¬ x.toInt = y.toInt := by omega
      simp only [this, eq_iff_iff, iff_false]; decide
theorem qq_within (x a b : Int64) : f_M_within x a b = qq_t (decide (a.toInt ≤ x.toInt ∧ x.toInt ≤ b.toInt)) := by
  unfold f_M_within
  simp only [qq_lg0, qq_lg1]
  by_cases h1 : x.toInt < a.toInt
  · rw [if_pos h1, decide_eq_false (by omega)]; rfl
  · rw [if_neg h1]
    by_cases h2 : b.toInt < x.toInt
    · rw [if_pos h2, decide_eq_false (by omega)]; rfl
    · rw [if_neg h2, decide_eq_true (by omega)]; rfl
theorem qq_tT {b : Bool} (h : b = true) : qq_t b = nI 1 := by subst h; rfl
theorem qq_tF {b : Bool} (h : b = false) : qq_t b = nI 0 := by subst h; rfl
/-- ranges of an int, told in longs -/
theorem qq_wiT {a b : Int64} {j : Nat} (hj : j < 2147483648) (h : a.toInt ≤ j ∧ (j : Int) ≤ b.toInt) : f_M_within (Int32.toInt64 (nI j)) a b = nI 1 := by
  rw [qq_within, Int32.toInt_toInt64, qq_toI hj]; exact qq_tT (decide_eq_true h)
theorem qq_wiF {a b : Int64} {j : Nat} (hj : j < 2147483648) (h : (j : Int) < a.toInt ∨ b.toInt < (j : Int)) : f_M_within (Int32.toInt64 (nI j)) a b = nI 0 := by
  rw [qq_within, Int32.toInt_toInt64, qq_toI hj]; exact qq_tF (decide_eq_false (by omega))
theorem qq_wnF {a b : Int64} {j : Nat} (hj : j ≤ 2147483648) (h : -(j : Int) < a.toInt) : f_M_within (Int32.toInt64 (-nI j)) a b = nI 0 := by
  rw [qq_within, Int32.toInt_toInt64, qq_toN hj]; exact qq_tF (decide_eq_false (by omega))
theorem qq_fcmp {j k : Nat} (hj : j < 2147483648) (hk : k < 2147483648) : (lg_cmp (Int32.toInt64 (nI j)) (Int32.toInt64 (nI k)) = nI 0) = (j = k) := by
  rw [← qq_l0, qq_lg2, Int32.toInt_toInt64, Int32.toInt_toInt64, qq_toI hj, qq_toI hk]
  exact propext ⟨fun h => by omega, fun h => by omega⟩
