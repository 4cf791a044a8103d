/-! LAYER (c): the law's grammar: the reference's levels and the class's reader (by wip/whole/c/c.py) -/
abbrev qq_PF : Type := Int32 → Int32 → Int32 → Int32 → Int32 → (Nat → Int32) → (Nat → Int32) → (Nat → Int32) → Option (Int32 × Int32 × Int32 × Int32)
def qq_BA (b : Nat → Nat) (n : Nat) (base : Int32) (tape text : Nat → Int32) : Prop := ∀ i, i ≤ n → f_M_byteAt base (nI i) (nI n) tape text = some (nI (b i))
def qq_RO (b : Nat → Nat) (n : Nat) (F : qq_PF) (o a : Nat) (v : (Nat → Int32) → Int32) (a2 : Nat) : Prop := ∀ base tape text names, qq_BA b n base tape text → F base (nI a) (nI n) (-nI 1) (nI o) tape text names = some (v names, nI a2, -nI 1, nI o)
def qq_RB (b : Nat → Nat) (n : Nat) (F : qq_PF) (o a e : Nat) : Prop := ∀ base tape text names, qq_BA b n base tape text → ∃ r a2 o2, a2 ≤ n ∧ F base (nI a) (nI n) (-nI 1) (nI o) tape text names = some (r, nI a2, nI e, o2)
/-- what may come next -/
def qq_NX (k c : Nat) (out : List Int32) (W : List Nat) : Prop := ly_rk c < k ∨ ly_rk c = 6 ∨ (ly_rk c = 3 ∧ qq_tp (qq_fl 4 out W).2 = 3)
def qq_LV (tp : Nat → Int32) (b : Nat → Nat) (n k : Nat) (F : qq_PF) (o : Nat) : Prop := ∀ a, a ≤ n →
  (∃ a2 code v, a < a2 ∧ a2 ≤ n ∧ code.length + a ≤ a2 ∧ qq_EV code v ∧ qq_RO b n F o a v a2 ∧ ∀ out W ia, out.length + W.length ≤ a → qq_tp W < k → ∃ out1 W1, qq_to tp n a out W o (nI 1) ia a2 out1 W1 o (nI 0) ia ∧ qq_fl k out1 W1 = (out ++ code, W) ∧ qq_NX k (b a2) out1 W1 ∧ out1.length + W1.length ≤ a2)
  ∨ (∃ e, e ≤ n ∧ qq_RB b n F o a e ∧ ∀ out W ia, out.length + W.length ≤ a → qq_tp W < k → qq_bd tp n a out W o (nI 1) ia e)
def qq_L6 (tp : Nat → Int32) (b : Nat → Nat) (n : Nat) (F : qq_PF) (o : Nat) : Prop := ∀ a, a ≤ n →
  (∃ a2 code v, a < a2 ∧ a2 ≤ n ∧ code.length + a ≤ a2 ∧ qq_EV code v ∧ qq_RO b n F o a v a2 ∧ ∀ out W ia out2 W2, out.length + W.length ≤ a → qq_fl 6 (out ++ code) W = (out2, W2) → W.length - W2.length ≤ o → qq_to tp n a out W o (nI 1) ia a2 out2 W2 (o - (W.length - W2.length)) (nI 0) ia)
  ∨ (∃ e, e ≤ n ∧ qq_RB b n F o a e ∧ ∀ out W ia, out.length + W.length ≤ a → qq_bd tp n a out W o (nI 1) ia e)
theorem qq_to_refl {tp : Nat → Int32} {n a o : Nat} {out : List Int32} {W : List Nat} {w ia : Int32} : qq_to tp n a out W o w ia a out W o w ia := fun len ws st wt hA => ⟨len, ws, st, wt, 0, hA, by omega, fun f => rfl⟩
/-- an operand, as a level -/
theorem qq_LV6 {tp : Nat → Int32} {b : Nat → Nat} {n : Nat} (hX : qq_TX tp b n) {F : qq_PF} {o : Nat} (h : qq_L6 tp b n F o) : qq_LV tp b n 6 F o := by
  intro a ha
  rcases h a ha with ⟨a2, code, v, h1, h2, h3, h4, h5, h6⟩ | ⟨e, h1, h2, h3⟩
  · refine Or.inl ⟨a2, code, v, h1, h2, h3, h4, h5, fun out W ia hl ht => ⟨out ++ code, W, ?_, qq_fl_stop ht, ?_, ?_⟩⟩
    · have h7 := h6 out W ia (out ++ code) W hl (qq_fl_stop ht) (by omega)
      rw [Nat.sub_self, Nat.sub_zero] at h7
      exact h7
    · unfold qq_NX
      have := qq_rk6 (b a2) (hX.2.2.1 a2)
      omega
    · rw [List.length_append]; omega
  · exact Or.inr ⟨e, h1, h2, fun out W ia hl ht => h3 out W ia hl⟩
abbrev qq_LP : Type := Int32 → (Nat → Int32) → (Nat → Int32) → (Nat → Int32) → Nat → Int32 → Int32 → Int32 → Int32 → Option (Int32 × Int32 × Int32 × Int32)
theorem qq_ba {b : Nat → Nat} {tp : Nat → Int32} {n a : Nat} (hX : qq_TX tp b n) (ha : a ≤ n) (h : b a ≠ 0) : a < n := by
  rcases Nat.lt_or_ge a n with h1 | h1
  · exact h1
  · exact absurd (hX.2.2.2 a h1) h
set_option maxRecDepth 100000 in
set_option maxHeartbeats 4000000 in
theorem qq_lpL {tp : Nat → Int32} {b : Nat → Nat} {n : Nat} (hX : qq_TX tp b n) {k : Nat} (hk : k = 1 ∨ k = 2 ∨ k = 4 ∨ k = 5) {F1 : qq_PF} {o : Nat} (hF : qq_LV tp b n (k + 1) F1 o) {Lp : qq_LP}
    (h1 : ∀ base tape text names f a v, qq_BA b n base tape text → a ≤ n → ly_rk (b a) ≠ k → Lp base tape text names (f + 1) (nI a) (-nI 1) (nI o) v = some (nI a, -nI 1, nI o, v))
    (h2 : ∀ base tape text names f a v, qq_BA b n base tape text → a < n → ly_rk (b a) = k → Lp base tape text names (f + 1) (nI a) (-nI 1) (nI o) v = zb4 (F1 base (nI (a + 1)) (nI n) (-nI 1) (nI o) tape text names) fun r a' f' o' => Lp base tape text names f a' f' o' (qq_jn (b a) v r))
    (h3 : ∀ base tape text names f a e o' v, qq_BA b n base tape text → a ≤ n → e ≤ n → Lp base tape text names (f + 1) (nI a) (nI e) o' v = some (nI a, nI e, o', v)) :
    ∀ t a, n ≤ a + t → a ≤ n → ∀ (a0 : Nat) (code : List Int32) (v : (Nat → Int32) → Int32), code.length + a0 ≤ a → qq_EV code v →
    (∃ a2 code2 v2, a ≤ a2 ∧ a2 ≤ n ∧ code2.length + a0 ≤ a2 ∧ qq_EV code2 v2 ∧ (∀ base tape text names fuel, qq_BA b n base tape text → t < fuel → Lp base tape text names fuel (nI a) (-nI 1) (nI o) (v names) = some (nI a2, -nI 1, nI o, v2 names)) ∧
      ∀ out W ia out1 W1, qq_tp W < k → qq_fl k out1 W1 = (out ++ code, W) → qq_NX (k + 1) (b a) out1 W1 → out1.length + W1.length ≤ a → ∃ out2 W2, qq_to tp n a out1 W1 o (nI 0) ia a2 out2 W2 o (nI 0) ia ∧ qq_fl k out2 W2 = (out ++ code2, W) ∧ qq_NX k (b a2) out2 W2 ∧ out2.length + W2.length ≤ a2)
    ∨ (∃ e, e ≤ n ∧ (∀ base tape text names fuel, qq_BA b n base tape text → t < fuel → ∃ r a2 o2, a2 ≤ n ∧ Lp base tape text names fuel (nI a) (-nI 1) (nI o) (v names) = some (nI a2, nI e, o2, r)) ∧
      ∀ out W ia out1 W1, qq_tp W < k → qq_fl k out1 W1 = (out ++ code, W) → qq_NX (k + 1) (b a) out1 W1 → out1.length + W1.length ≤ a → qq_bd tp n a out1 W1 o (nI 0) ia e) := by
  intro t
  induction t with
  | zero =>
    intro a hn ha a0 code v hc hE
    have e0 := hX.2.2.2 a (by omega)
    refine Or.inl ⟨a, code, v, Nat.le_refl a, ha, hc, hE, fun base tape text names fuel hB hf => ?_, fun out W ia out1 W1 hW hfl hN hl => ⟨out1, W1, qq_to_refl, hfl, Or.inl ?_, hl⟩⟩
    · obtain ⟨f, rfl⟩ : ∃ f, fuel = f + 1 := ⟨fuel - 1, by omega⟩
      exact h1 _ _ _ _ _ _ _ hB ha (by rw [e0]; show ¬ 0 = k; omega)
    · rw [e0]; show 0 < k; omega
  | succ t ih =>
    intro a hn ha a0 code v hc hE
    by_cases hr : ly_rk (b a) = k
    · have hlt : a < n := qq_ba hX ha (by intro e; rw [e] at hr; have : 0 = k := hr; omega)
      have hb := hX.2.2.1 a
      have hI := qq_rkI (b a) hb
      have hJ : qq_isJ (b a) := by unfold qq_isJ; omega
      have hst : b a = 37 ∨ b a = 38 ∨ b a = 42 ∨ b a = 43 ∨ b a = 45 ∨ b a = 47 ∨ b a = 124 := by omega
      rcases hF (a + 1) hlt with ⟨a2, c2, v2, g1, g2, g3, g4, g5, g6⟩ | ⟨e, g1, g2, g3⟩
      · have key : ∀ out W ia out1 W1, qq_tp W < k → qq_fl k out1 W1 = (out ++ code, W) → out1.length + W1.length ≤ a → ∃ out2 W2, qq_to tp n a out1 W1 o (nI 0) ia a2 out2 W2 o (nI 0) ia ∧ qq_fl k out2 W2 = (out ++ (code ++ c2 ++ [-nI (b a)]), W) ∧ qq_NX (k + 1) (b a2) out2 W2 ∧ out2.length + W2.length ≤ a2 := by
          intro out W ia out1 W1 hW hfl hl
          have hlen := qq_fl_len k W1 out1
          rw [hfl] at hlen
          simp only [] at hlen
          have s1 := qq_stJoin hX (o := o) (ia := ia) (out2 := out ++ code) (W2 := W) hlt hst hl (by rw [hr]; exact hfl)
          obtain ⟨out2, W2, s2, s3, s4, s5⟩ := g6 (out ++ code) (b a :: W) ia (by rw [List.length_cons]; omega) (by show ly_rk (b a) < k + 1; omega)
          refine ⟨out2, W2, qq_to_to s1 s2, ?_, s4, s5⟩
          rw [← qq_fl_fl (show k ≤ k + 1 by omega) W2 out2, s3]
          show qq_fl k (out ++ code ++ c2) (b a :: W) = _
          rw [qq_fl_go (by omega), qq_fl_stop hW]; simp only [List.append_assoc]
        rcases ih a2 (by omega) g2 a0 (code ++ c2 ++ [-nI (b a)]) (fun nm => qq_jn (b a) (v nm) (v2 nm)) (by rw [qq_len1, List.length_append]; omega) (qq_EV_bin hE g4 hJ) with ⟨a3, c3, v3, i1, i2, i3, i4, i5, i6⟩ | ⟨e, i1, i2, i3⟩
        · refine Or.inl ⟨a3, c3, v3, by omega, i2, i3, i4, fun base tape text names fuel hB hf => ?_, fun out W ia out1 W1 hW hfl hN hl => ?_⟩
          · obtain ⟨f, rfl⟩ : ∃ f, fuel = f + 1 := ⟨fuel - 1, by omega⟩
            rw [h2 _ _ _ _ _ _ _ hB hlt hr, g5 _ _ _ _ hB, qq_b4]
            exact i5 _ _ _ _ _ hB (by omega)
          · obtain ⟨out2, W2, s1, s2, s3, s4⟩ := key out W ia out1 W1 hW hfl hl
            obtain ⟨out3, W3, r1, r2, r3, r4⟩ := i6 out W ia out2 W2 hW s2 s3 s4
            exact ⟨out3, W3, qq_to_to s1 r1, r2, r3, r4⟩
        · refine Or.inr ⟨e, i1, fun base tape text names fuel hB hf => ?_, fun out W ia out1 W1 hW hfl hN hl => ?_⟩
          · obtain ⟨f, rfl⟩ : ∃ f, fuel = f + 1 := ⟨fuel - 1, by omega⟩
            rw [h2 _ _ _ _ _ _ _ hB hlt hr, g5 _ _ _ _ hB, qq_b4]
            exact i2 _ _ _ _ _ hB (by omega)
          · obtain ⟨out2, W2, s1, s2, s3, s4⟩ := key out W ia out1 W1 hW hfl hl
            exact qq_to_bd s1 (i3 out W ia out2 W2 hW s2 s3 s4) g2
      · refine Or.inr ⟨e, g1, fun base tape text names fuel hB hf => ?_, fun out W ia out1 W1 hW hfl hN hl => ?_⟩
        · obtain ⟨f, rfl⟩ : ∃ f, fuel = f + 1 + 1 := ⟨fuel - 2, by omega⟩
          obtain ⟨r, a2, o2, q1, q2⟩ := g2 base tape text names hB
          refine ⟨qq_jn (b a) (v names) r, a2, o2, q1, ?_⟩
          rw [h2 _ _ _ _ _ _ _ hB hlt hr, q2, qq_b4]
          exact h3 _ _ _ _ _ _ _ _ _ hB q1 g1
        · have hlen := qq_fl_len k W1 out1
          rw [hfl] at hlen
          simp only [] at hlen
          have s1 := qq_stJoin hX (o := o) (ia := ia) (out2 := out ++ code) (W2 := W) hlt hst hl (by rw [hr]; exact hfl)
          exact qq_to_bd s1 (g3 (out ++ code) (b a :: W) ia (by rw [List.length_cons]; omega) (by show ly_rk (b a) < k + 1; omega)) hlt
    · refine Or.inl ⟨a, code, v, Nat.le_refl a, ha, hc, hE, fun base tape text names fuel hB hf => ?_, fun out W ia out1 W1 hW hfl hN hl => ⟨out1, W1, qq_to_refl, hfl, ?_, hl⟩⟩
      · obtain ⟨f, rfl⟩ : ∃ f, fuel = f + 1 := ⟨fuel - 1, by omega⟩
        exact h1 _ _ _ _ _ _ _ hB ha hr
      · unfold qq_NX at hN ⊢
        omega
set_option maxRecDepth 100000 in
set_option maxHeartbeats 4000000 in
theorem qq_loop {tp : Nat → Int32} {b : Nat → Nat} {n : Nat} (hX : qq_TX tp b n) {k : Nat} (hk : k = 1 ∨ k = 2 ∨ k = 4 ∨ k = 5) {F1 Fk : qq_PF} {o : Nat} (hF : qq_LV tp b n (k + 1) F1 o) {Lp : qq_LP}
    (h0 : ∀ base tape text names a f o', Fk base a (nI n) f o' tape text names = zb4 (F1 base a (nI n) f o' tape text names) fun r a f o => zb4 (Lp base tape text names FU a f o r) fun a f o v => some (v, a, f, o))
    (h1 : ∀ base tape text names f a v, qq_BA b n base tape text → a ≤ n → ly_rk (b a) ≠ k → Lp base tape text names (f + 1) (nI a) (-nI 1) (nI o) v = some (nI a, -nI 1, nI o, v))
    (h2 : ∀ base tape text names f a v, qq_BA b n base tape text → a < n → ly_rk (b a) = k → Lp base tape text names (f + 1) (nI a) (-nI 1) (nI o) v = zb4 (F1 base (nI (a + 1)) (nI n) (-nI 1) (nI o) tape text names) fun r a' f' o' => Lp base tape text names f a' f' o' (qq_jn (b a) v r))
    (h3 : ∀ base tape text names f a e o' v, qq_BA b n base tape text → a ≤ n → e ≤ n → Lp base tape text names (f + 1) (nI a) (nI e) o' v = some (nI a, nI e, o', v)) :
    qq_LV tp b n k Fk o := by
  intro a ha
  have hn := hX.1
  have hFU : ∃ f, FU = f + 1 := ⟨4999, rfl⟩
  rcases hF a ha with ⟨a2, c2, v2, g1, g2, g3, g4, g5, g6⟩ | ⟨e, g1, g2, g3⟩
  · have key : ∀ out W ia, out.length + W.length ≤ a → qq_tp W < k → ∃ out1 W1, qq_to tp n a out W o (nI 1) ia a2 out1 W1 o (nI 0) ia ∧ qq_fl k out1 W1 = (out ++ c2, W) ∧ qq_NX (k + 1) (b a2) out1 W1 ∧ out1.length + W1.length ≤ a2 := by
      intro out W ia hl hW
      obtain ⟨out1, W1, s1, s2, s3, s4⟩ := g6 out W ia hl (by omega)
      refine ⟨out1, W1, s1, ?_, s3, s4⟩
      rw [← qq_fl_fl (show k ≤ k + 1 by omega) W1 out1, s2]
      exact qq_fl_stop hW
    rcases qq_lpL hX hk hF h1 h2 h3 n a2 (by omega) g2 a c2 v2 g3 g4 with ⟨a3, c3, v3, i1, i2, i3, i4, i5, i6⟩ | ⟨e, i1, i2, i3⟩
    · refine Or.inl ⟨a3, c3, v3, by omega, i2, i3, i4, fun base tape text names hB => ?_, fun out W ia hl hW => ?_⟩
      · rw [h0, g5 _ _ _ _ hB, qq_b4, i5 _ _ _ _ _ hB (by rw [qq_FU]; omega), qq_b4]
      · obtain ⟨out1, W1, s1, s2, s3, s4⟩ := key out W ia hl hW
        obtain ⟨out3, W3, r1, r2, r3, r4⟩ := i6 out W ia out1 W1 hW s2 s3 s4
        exact ⟨out3, W3, qq_to_to s1 r1, r2, r3, r4⟩
    · refine Or.inr ⟨e, i1, fun base tape text names hB => ?_, fun out W ia hl hW => ?_⟩
      · obtain ⟨r, a3, o3, q1, q2⟩ := i2 base tape text names FU hB (by rw [qq_FU]; omega)
        refine ⟨r, a3, o3, q1, ?_⟩
        rw [h0, g5 _ _ _ _ hB, qq_b4, q2, qq_b4]
      · obtain ⟨out1, W1, s1, s2, s3, s4⟩ := key out W ia hl hW
        exact qq_to_bd s1 (i3 out W ia out1 W1 hW s2 s3 s4) g2
  · refine Or.inr ⟨e, g1, fun base tape text names hB => ?_, fun out W ia hl hW => g3 out W ia hl (by omega)⟩
    obtain ⟨r, a2, o2, q1, q2⟩ := g2 base tape text names hB
    obtain ⟨f, hf⟩ := hFU
    refine ⟨r, a2, o2, q1, ?_⟩
    rw [h0, q2, qq_b4, hf, h3 _ _ _ _ _ _ _ _ _ hB q1 g1, qq_b4]
