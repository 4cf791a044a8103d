/-! calls: a callee's cells stand at the places isC of the caller's world; behind the call they are what its contract says -/
def zrp : va_W → List Nat → va_W → va_W
  | ws, i :: is, q :: qs => zrp (ws.set i q) is qs
  | ws, _, _ => ws
theorem zrp_len : ∀ (is : List Nat) (ws w1 : va_W), (zrp ws is w1).length = ws.length
  | [], ws, w1 => by cases w1 <;> rfl
  | i :: is, ws, [] => rfl
  | i :: is, ws, q :: qs => by
    show (zrp (ws.set i q) is qs).length = _
    rw [zrp_len is]
    simp
theorem zrp_get : ∀ (is : List Nat) (ws w1 : va_W), va_nd is = true → is.length = w1.length → ∀ (k : Nat) (q : Nat × va_E), (zrp ws is w1)[k]? = some q → (ws[k]? = some q ∧ k ∉ is) ∨ ∃ j : Nat, is[j]? = some k ∧ w1[j]? = some q
  | [], ws, w1, _, _, k, q, h => by
    refine Or.inl ⟨?_, by simp⟩
    cases w1 <;> exact h
  | i :: is, ws, [], _, hl, k, q, h => by simp at hl
  | i :: is, ws, x :: xs, hn, hl, k, q, h => by
    have hn2 : (decide (i ∉ is) && va_nd is) = true := hn
    simp only [Bool.and_eq_true, decide_eq_true_eq] at hn2
    have h2 : (zrp (ws.set i x) is xs)[k]? = some q := h
    rcases zrp_get is (ws.set i x) xs hn2.2 (by simpa using hl) k q h2 with ⟨h3, h4⟩ | ⟨j, h3, h4⟩
    · by_cases hki : k = i
      · subst hki
        have hlt : k < ws.length := by
          have := (List.getElem?_eq_some_iff.mp h3).1
          simpa using this
        rw [List.getElem?_set_self hlt] at h3
        exact Or.inr ⟨0, rfl, h3⟩
      · rw [List.getElem?_set_ne (Ne.symm hki)] at h3
        refine Or.inl ⟨h3, ?_⟩
        simp [hki, h4]
    · exact Or.inr ⟨j + 1, by simpa using h3, by simpa using h4⟩
theorem zget_frame {A0 : Nat → Prop} {D : va_G} {cl : List vw_C} {ws ws' wc w1 : va_W} {H H1 : Heap} (hP : va_P D cl ws H) (hD : va_D A0 ws) (isC : List Nat) (hC : isC.map (fun i => ws[i]?) = wc.map some) (ha : w1.map Prod.fst = wc.map Prod.fst) (get : ∀ (k : Nat) (q : Nat × va_E), ws'[k]? = some q → (ws[k]? = some q ∧ k ∉ isC) ∨ ∃ j : Nat, isC[j]? = some k ∧ w1[j]? = some q)
    (hk : ∀ q : Nat, q < H.size → ¬ va_A wc H.size q → H1[q]? = H[q]?) (hP1 : va_P D cl w1 H1) : va_P D cl ws' H1 ∧ va_D A0 ws' := by
  have hlw : w1.length = wc.length := by simpa using congrArg List.length ha
  have hlc : isC.length = wc.length := by simpa using congrArg List.length hC
  have atC : ∀ (j : Nat) (q : Nat × va_E), wc[j]? = some q → ∃ i, isC[j]? = some i ∧ ws[i]? = some q := by
    intro j q hq
    have h1 : (isC.map (fun i => ws[i]?))[j]? = some (some q) := by rw [hC, List.getElem?_map, hq]; rfl
    rw [List.getElem?_map] at h1
    cases hi : isC[j]? with
    | none => rw [hi] at h1; cases h1
    | some i => rw [hi] at h1; exact ⟨i, rfl, Option.some.inj h1⟩
  have at1 : ∀ (j : Nat) (q : Nat × va_E), w1[j]? = some q → ∃ q2, wc[j]? = some q2 ∧ q2.1 = q.1 := by
    intro j q hq
    have h1 : (wc.map Prod.fst)[j]? = some q.1 := by rw [← ha, List.getElem?_map, hq]; rfl
    rw [List.getElem?_map] at h1
    cases hi : wc[j]? with
    | none => rw [hi] at h1; cases h1
    | some q2 => rw [hi] at h1; exact ⟨q2, rfl, Option.some.inj h1⟩
  have adr : ∀ (k : Nat) (q : Nat × va_E), ws'[k]? = some q → ∃ q0, ws[k]? = some q0 ∧ q0.1 = q.1 := by
    intro k q hq
    rcases get k q hq with ⟨h1, -⟩ | ⟨j, h1, h2⟩
    · exact ⟨q, h1, rfl⟩
    · obtain ⟨q2, h3, h4⟩ := at1 j q h2
      obtain ⟨i, h5, h6⟩ := atC j q2 h3
      rw [h1] at h5
      cases h5
      exact ⟨q2, h6, h4⟩
  refine ⟨fun k q hq => ?_, fun i j x y hi hj hxy => ?_, fun k q hq => ?_⟩
  · rcases get k q hq with ⟨h1, h2⟩ | ⟨j, -, h2⟩
    · refine (hP k q h1).kept (hk q.1 (hP k q h1).lt fun h => ?_)
      rcases h with ⟨k2, e, h⟩ | h
      · obtain ⟨i, h3, h4⟩ := atC k2 (q.1, e) h
        have hki := hD.1 k i q (q.1, e) h1 h4 rfl
        subst hki
        exact h2 (List.mem_of_getElem? h3)
      · exact absurd (hP k q h1).lt (Nat.not_lt.mpr h)
    · exact hP1 j q h2
  · obtain ⟨x0, h1, h2⟩ := adr i x hi
    obtain ⟨y0, h3, h4⟩ := adr j y hj
    exact hD.1 i j x0 y0 h1 h3 (h2.trans (hxy.trans h4.symm))
  · obtain ⟨q0, h1, h2⟩ := adr k q hq
    rw [← h2]
    exact hD.2 k q0 h1
def zmo (w1 : va_W) (q : Nat × va_E) : Option Nat → Nat × va_E
  | none => q
  | some j => w1.getD j q
def zmg : va_W → va_W → List (Option Nat) → va_W
  | q :: ws, w1, o :: inv => zmo w1 q o :: zmg ws w1 inv
  | ws, _, [] => ws
  | [], _, _ :: _ => []
theorem zmg_get : ∀ (ws w1 : va_W) (inv : List (Option Nat)), inv.length = ws.length → ∀ (k : Nat) (q : Nat × va_E), (zmg ws w1 inv)[k]? = some q → ∃ o q0, inv[k]? = some o ∧ ws[k]? = some q0 ∧ q = zmo w1 q0 o
  | [], w1, [], _, k, q, h => by simp [zmg] at h
  | [], w1, o :: inv, hl, k, q, h => by simp at hl
  | x :: ws, w1, [], hl, k, q, h => by simp at hl
  | x :: ws, w1, o :: inv, hl, k, q, h => by
    cases k with
    | zero =>
      have h2 : some (zmo w1 x o) = some q := h
      exact ⟨o, x, rfl, rfl, (Option.some.inj h2).symm⟩
    | succ k =>
      have h2 : (zmg ws w1 inv)[k]? = some q := by simpa [zmg] using h
      obtain ⟨o2, q0, a, b, c⟩ := zmg_get ws w1 inv (by simpa using hl) k q h2
      exact ⟨o2, q0, by simpa using a, by simpa using b, c⟩
def zchk (isC : List Nat) (inv : List (Option Nat)) : Bool := (List.range inv.length).all fun k => match inv[k]? with
  | some none => !isC.contains k
  | some (some j) => isC[j]? == some k
  | none => false
theorem zmg_dis {ws w1 : va_W} {isC : List Nat} {inv : List (Option Nat)} (hl : inv.length = ws.length) (hc : zchk isC inv = true) (h1 : isC.length = w1.length) : ∀ (k : Nat) (q : Nat × va_E), (zmg ws w1 inv)[k]? = some q → (ws[k]? = some q ∧ k ∉ isC) ∨ ∃ j : Nat, isC[j]? = some k ∧ w1[j]? = some q := by
  intro k q h
  obtain ⟨o, q0, a, b, c⟩ := zmg_get ws w1 inv hl k q h
  have hk : k < inv.length := (List.getElem?_eq_some_iff.mp a).1
  have e := List.all_eq_true.mp hc k (List.mem_range.mpr hk)
  simp only [a] at e
  cases o with
  | none =>
    subst c
    refine Or.inl ⟨b, ?_⟩
    simpa using e
  | some j =>
    have e2 : isC[j]? = some k := by simpa using e
    have hj : j < w1.length := by
      have := (List.getElem?_eq_some_iff.mp e2).1
      omega
    refine Or.inr ⟨j, e2, ?_⟩
    rw [c]
    simp [zmo, List.getD, List.getElem?_eq_getElem hj]
theorem uw_good : GoodIn wsL_law wsL_law := goodIn_sub (fun _ h => h) (by decide +kernel)
section ZC
variable {X : zX} {G : zG} {cc : ByteArray} {own : String} {nL : Nat} {ret : Option FieldType} {fr lo : Nat} {v0 : Option Value} {w0 : va_W} {ws ws' : va_W} {lv lv' : List (Nat × Value)} {pc : Nat} {st rest : List Value}
variable {y : MethodName} {bytes : ByteArray} {mL : Nat} {ret1 : Option FieldType} {fr1 lo1 : Nat} {wc w1 : va_W} {v : Option Value} {As : List Value} {index : Nat}
theorem zPre_blind {av : List Value} {sz : Nat} : FrameBlind (zPre G av ws sz) := fun a U g mk q => by
  obtain ⟨q0, q1, qP, qK, qD, qS⟩ := q
  exact ⟨q0, q1, qP, va_K.moved (u := U) (U := U.calling g mk a) (Vm.Alike.refl U.vm) qK, qD, zSt.moved (u := U) (U := U.calling g mk a) (Vm.Alike.refl U.vm) qS⟩
/-- what a callee's start wants, at the call -/
theorem z_start (F : zF X G cc own nL ret fr lo v0 w0) {H : Heap} {locs : List Loc} (hP : va_P G.1 vwCl ws H) (hD : va_D (xF X) ws) (hS : va_S (xF X) (xS X).heap H locs) (isC : List Nat) (hC : isC.map (fun i => ws[i]?) = wc.map some) (hn : va_nd isC = true) {av : List Value} : ∀ U : State, U.heap = H → (xS X).WarmedH U.vm → zPre G av wc H.size av.toArray U := by
  intro U hU hW
  obtain ⟨hx, h5, h6, h7, h8, h9, h10, h11, h12⟩ := F
  have hFc := va_free (wc := wc) hD hS h9 isC hC
  have hf : isC.filterMap (fun i => ws[i]?) = wc := by
    have h := congrArg (List.filterMap id) hC
    simpa [List.filterMap_map] using h
  refine ⟨rfl, by rw [hU], by rw [hU]; exact hP.sub isC hf, va_K.moved hW.alike h6, (hD.sub isC hn hC).weaken (fun _ _ _ _ => trivial), ?_⟩
  rw [hU]
  exact (zSt.kept (zSt.moved hW.alike h12) (fun a h1 h2 => hS.2.1 a h1 h2)).narrow hFc
theorem z_run (F : zF X G cc own nL ret fr lo v0 w0) {H : Heap} {locs : List Loc} {ls : Array Slot} (hP : va_P G.1 vwCl ws H) (hD : va_D (xF X) ws) (hS : va_S (xF X) (xS X).heap H locs) (hl : lv_has ls nL lv) (isC : List Nat) (hC : isC.map (fun i => ws[i]?) = wc.map some) (ha : w1.map Prod.fst = wc.map Prod.fst) (hget : ∀ (k : Nat) (q : Nat × va_E), ws'[k]? = some q → (ws[k]? = some q ∧ k ∉ isC) ∨ ∃ j : Nat, isC[j]? = some k ∧ w1[j]? = some q) {a : Array Value}
    (hr : va_Run (xP X) (xL X) (xE X) (xR X) (xS X) (xM X) (xA X) (xB X) (xT X) (xC X) H locs 0 0 0 0 (F0 (xM X) pc ls st) rest (zq ret1 v G w1 (va_A wc H.size) a) (va_A wc H.size)) (kk : zok ret1 v → Z X G nL ws' lv (pc + 3) (v.toList ++ rest)) :
    W (xP X) (xL X) (xE X) (xR X) (xS X) (xM X) (xA X) (xB X) (xT X) (xC X) H locs 0 0 (xQ X) (F0 (xM X) pc ls st) := by
  have hFc := va_free (wc := wc) hD hS F.2.2.2.2.2.1 isC hC
  intro T hT Y
  obtain ⟨v1, st₀, t, T', L, h0, Y', hL, e1, e2, ⟨hv, hz, hP1, hF⟩, stp⟩ := hr T hT Y
  have hv : v1 = v := Outcome.returned.inj hv
  subst hv
  rw [← e1] at hP1
  have hk : ∀ q : Nat, q < H.size → ¬ va_A wc H.size q → T'.heap[q]? = H[q]? := fun q h1 h2 => by
    rw [e1, ← h0]
    exact hF.2 q (by rw [h0]; exact h1) h2
  have hsz : H.size ≤ T'.heap.size := by rw [e1, ← h0]; exact hF.1
  obtain ⟨hP2, hD2⟩ := zget_frame hP hD isC hC ha hget hk hP1
  have hS2 : va_S (xF X) (xS X).heap T'.heap (locs ++ L) := ⟨Nat.le_trans hS.1 hsz, fun q h1 h2 => by rw [hk q (Nat.lt_of_lt_of_le h1 hS.1) (fun z => h2 (hFc q z))]; exact hS.2.1 q h1 h2, fun q hq => by
    rcases List.mem_append.mp hq with h | h
    · exact hS.2.2 q h
    · exact hFc _ (hL q h)⟩
  obtain ⟨t2, a1, b1⟩ := kk hz T'.heap (locs ++ L) ls hP2 hD2 hS2 hl T' rfl Y'
  exact ⟨t2, stp t2 a1, b1⟩
theorem zlen {isC : List Nat} {wc w1 : va_W} (hC : isC.map (fun i => ws[i]?) = wc.map some) (ha : w1.map Prod.fst = wc.map Prod.fst) : isC.length = w1.length := by
  have h1 : w1.length = wc.length := by simpa using congrArg List.length ha
  have h2 : isC.length = wc.length := by simpa using congrArg List.length hC
  omega
theorem z_callB (F : zF X G cc own nL ret fr lo v0 w0) (n : Nat) (hcode : Cond.code y bytes mL ret1 ∈ wsL_law) (hlink : Cond.methodLink own index y ∈ wsL_law) (hini : Cond.initialized y.cls ∈ wsL_law) (hd : y.cls ≠ "java/lang/invoke/MethodHandle" ∧ y.cls ≠ "java/lang/invoke/VarHandle" ∧ (parseMethodDescriptor y.desc).map (fun d => d.parameters.length) = some n) (hR : fr1 + 1 ≤ fr ∧ 8 + (mL + 11) + lo1 ≤ lo) :
    CallB (xR X) (xS X) (xA X) own index y bytes mL ret1 (Cond.code y bytes mL ret1 :: wsL_law) { frames := fr1, cells := 0, slots := 0, locals := lo1 } 0 0 n := by
  obtain ⟨hx, h5, h6, h7, h8, h9, h10, h11, h12⟩ := F
  refine callB_of n h5 (fun w h => ?_) rfl rfl rfl (h5 _ hini) (h5 _ hlink) hd (by rw [h10]; exact hR)
  rcases List.mem_cons.mp h with h | h
  · subst h
    exact uw_good _ hcode
  · exact uw_good _ h
/-- a call of an instance method: 'hc' its code, links and kind among the law's words; ci: the receiver's class; isC: where the callee's cells stand -/
theorem z_callV (F : zF X G cc own nL ret fr lo v0 w0) {b n : Nat} (ci : Nat) {fs : List Value} {T : u_T} {N : Nat} (hM : zM (xL X) y bytes mL ret1 fr1 lo1 G (.ref b :: As) wc v w1) (hc : Cond.code y bytes mL ret1 ∈ wsL_law ∧ Cond.initialized y.cls ∈ wsL_law ∧ Cond.instanceMethod y ∈ wsL_law ∧ Cond.selects y.cls y y ∈ wsL_law) (hlk : Cond.methodLink own index y ∈ wsL_law) (hd : y.cls ≠ "java/lang/invoke/MethodHandle" ∧ y.cls ≠ "java/lang/invoke/VarHandle" ∧ (parseMethodDescriptor y.desc).map (fun d => d.parameters.length) = some n) (hR : fr1 + 1 ≤ fr ∧ 8 + (mL + 11) + lo1 ≤ lo) (hn : As.length = n)
    (isC : List Nat) (hC : isC.map (fun i => ws[i]?) = wc.map some) (hnd : va_nd isC = true) (q0 : Nat) (hrec : ws[q0]? = some (b, .inr (ci, fs))) (hcl : vwCl[ci]? = some (y.cls, T, N)) (ws' : va_W) (hw : zrp ws isC w1 = ws') (hst : st = As.reverse ++ .ref b :: rest) (hW : (rest.map fun v => v.category).sum ≤ 8) (hdg : decode cc pc = .ok (.invokevirtual index, 3)) (kk : zok ret1 v → Z X G nL ws' lv (pc + 3) (v.toList ++ rest)) : Z X G nL ws lv pc st := by
  intro H locs ls hP hD hS hl
  have F' := F
  obtain ⟨⟨h1, h2, h3, h4⟩, h5, h6, h7, h8, h9, h10, h11, h12⟩ := F'
  refine z_run F hP hD hS hl isC hC hM.1 (fun k q h => zrp_get isC ws w1 hnd (zlen hC hM.1) k q (by rw [hw]; exact h)) (va_runV (As := As) (rest := rest) ⟨h1, h2, h3, h4, h5⟩ (hM.2 H.size) (C := y.cls) ⟨z_callB F n hc.1 hlk hc.2.1 hd hR, h5 _ hc.2.2.1, h5 _ hc.2.2.2⟩ ⟨zPre_blind, va_recv h6 hP hcl hrec, z_start F hP hD hS isC hC hnd⟩ rfl hn hl.1 hst (lv_room hW) hdg ⟨Nat.zero_le _, Nat.zero_le _⟩) kk
theorem z_callVm (F : zF X G cc own nL ret fr lo v0 w0) {b n : Nat} (ci : Nat) {fs : List Value} {T : u_T} {N : Nat} (hM : zM (xL X) y bytes mL ret1 fr1 lo1 G (.ref b :: As) wc v w1) (hc : Cond.code y bytes mL ret1 ∈ wsL_law ∧ Cond.initialized y.cls ∈ wsL_law ∧ Cond.instanceMethod y ∈ wsL_law ∧ Cond.selects y.cls y y ∈ wsL_law) (hlk : Cond.methodLink own index y ∈ wsL_law) (hd : y.cls ≠ "java/lang/invoke/MethodHandle" ∧ y.cls ≠ "java/lang/invoke/VarHandle" ∧ (parseMethodDescriptor y.desc).map (fun d => d.parameters.length) = some n) (hR : fr1 + 1 ≤ fr ∧ 8 + (mL + 11) + lo1 ≤ lo) (hn : As.length = n)
    (isC : List Nat) (hC : isC.map (fun i => ws[i]?) = wc.map some) (hnd : va_nd isC = true) (q0 : Nat) (hrec : ws[q0]? = some (b, .inr (ci, fs))) (hcl : vwCl[ci]? = some (y.cls, T, N)) (ws' : va_W) (inv : List (Option Nat)) (hlen : inv.length = ws.length) (hchk : zchk isC inv = true) (hw : zmg ws w1 inv = ws') (hst : st = As.reverse ++ .ref b :: rest) (hW : (rest.map fun v => v.category).sum ≤ 8) (hdg : decode cc pc = .ok (.invokevirtual index, 3)) (kk : zok ret1 v → Z X G nL ws' lv (pc + 3) (v.toList ++ rest)) : Z X G nL ws lv pc st := by
  intro H locs ls hP hD hS hl
  have F' := F
  obtain ⟨⟨h1, h2, h3, h4⟩, h5, h6, h7, h8, h9, h10, h11, h12⟩ := F'
  refine z_run F hP hD hS hl isC hC hM.1 (fun k q h => zmg_dis hlen hchk (zlen hC hM.1) k q (by rw [hw]; exact h)) (va_runV (As := As) (rest := rest) ⟨h1, h2, h3, h4, h5⟩ (hM.2 H.size) (C := y.cls) ⟨z_callB F n hc.1 hlk hc.2.1 hd hR, h5 _ hc.2.2.1, h5 _ hc.2.2.2⟩ ⟨zPre_blind, va_recv h6 hP hcl hrec, z_start F hP hD hS isC hC hnd⟩ rfl hn hl.1 hst (lv_room hW) hdg ⟨Nat.zero_le _, Nat.zero_le _⟩) kk
theorem z_callS (F : zF X G cc own nL ret fr lo v0 w0) {n : Nat} (hM : zM (xL X) y bytes mL ret1 fr1 lo1 G As wc v w1) (hc : Cond.code y bytes mL ret1 ∈ wsL_law ∧ Cond.initialized y.cls ∈ wsL_law ∧ Cond.static y ∈ wsL_law) (hlk : Cond.methodLink own index y ∈ wsL_law) (hd : y.cls ≠ "java/lang/invoke/MethodHandle" ∧ y.cls ≠ "java/lang/invoke/VarHandle" ∧ (parseMethodDescriptor y.desc).map (fun d => d.parameters.length) = some n) (hR : fr1 + 1 ≤ fr ∧ 8 + (mL + 11) + lo1 ≤ lo) (hn : As.length = n)
    (isC : List Nat) (hC : isC.map (fun i => ws[i]?) = wc.map some) (hnd : va_nd isC = true) (ws' : va_W) (hw : zrp ws isC w1 = ws') (hst : st = As.reverse ++ rest) (hW : (rest.map fun v => v.category).sum ≤ 8) (hdg : decode cc pc = .ok (.invokestatic index, 3)) (kk : zok ret1 v → Z X G nL ws' lv (pc + 3) (v.toList ++ rest)) : Z X G nL ws lv pc st := by
  intro H locs ls hP hD hS hl
  have F' := F
  obtain ⟨⟨h1, h2, h3, h4⟩, h5, h6, h7, h8, h9, h10, h11, h12⟩ := F'
  refine z_run F hP hD hS hl isC hC hM.1 (fun k q h => zrp_get isC ws w1 hnd (zlen hC hM.1) k q (by rw [hw]; exact h)) (va_runS (As := As) (rest := rest) ⟨h1, h2, h3, h4, h5⟩ (hM.2 H.size) ⟨z_callB F n hc.1 hlk hc.2.1 hd hR, h5 _ hc.2.2⟩ ⟨zPre_blind, z_start F hP hD hS isC hC hnd⟩ rfl hn hl.1 hst (lv_room hW) hdg ⟨Nat.zero_le _, Nat.zero_le _⟩) kk
theorem z_callSm (F : zF X G cc own nL ret fr lo v0 w0) {n : Nat} (hM : zM (xL X) y bytes mL ret1 fr1 lo1 G As wc v w1) (hc : Cond.code y bytes mL ret1 ∈ wsL_law ∧ Cond.initialized y.cls ∈ wsL_law ∧ Cond.static y ∈ wsL_law) (hlk : Cond.methodLink own index y ∈ wsL_law) (hd : y.cls ≠ "java/lang/invoke/MethodHandle" ∧ y.cls ≠ "java/lang/invoke/VarHandle" ∧ (parseMethodDescriptor y.desc).map (fun d => d.parameters.length) = some n) (hR : fr1 + 1 ≤ fr ∧ 8 + (mL + 11) + lo1 ≤ lo) (hn : As.length = n)
    (isC : List Nat) (hC : isC.map (fun i => ws[i]?) = wc.map some) (hnd : va_nd isC = true) (ws' : va_W) (inv : List (Option Nat)) (hlen : inv.length = ws.length) (hchk : zchk isC inv = true) (hw : zmg ws w1 inv = ws') (hst : st = As.reverse ++ rest) (hW : (rest.map fun v => v.category).sum ≤ 8) (hdg : decode cc pc = .ok (.invokestatic index, 3)) (kk : zok ret1 v → Z X G nL ws' lv (pc + 3) (v.toList ++ rest)) : Z X G nL ws lv pc st := by
  intro H locs ls hP hD hS hl
  have F' := F
  obtain ⟨⟨h1, h2, h3, h4⟩, h5, h6, h7, h8, h9, h10, h11, h12⟩ := F'
  refine z_run F hP hD hS hl isC hC hM.1 (fun k q h => zmg_dis hlen hchk (zlen hC hM.1) k q (by rw [hw]; exact h)) (va_runS (As := As) (rest := rest) ⟨h1, h2, h3, h4, h5⟩ (hM.2 H.size) ⟨z_callB F n hc.1 hlk hc.2.1 hd hR, h5 _ hc.2.2⟩ ⟨zPre_blind, z_start F hP hD hS isC hC hnd⟩ rfl hn hl.1 hst (lv_room hW) hdg ⟨Nat.zero_le _, Nat.zero_le _⟩) kk
theorem z_max (F : zF X G cc own nL ret fr lo v0 w0) {x y : Int32} (hc : Cond.methodLink own index Lib.Math.max.name ∈ wsL_law ∧ Cond.static Lib.Math.max.name ∈ wsL_law ∧ Cond.initialized "java/lang/Math" ∈ wsL_law ∧ Cond.code Lib.Math.max.name Lib.Math.max.code 2 (some .int) ∈ wsL_law) (hf : 1 ≤ fr) (hlo : (rest.map fun v => v.category).sum + 13 ≤ lo) (hdg : decode cc pc = .ok (.invokestatic index, 3)) (kk : Z X G nL ws lv (pc + 3) (.int (if x < y then y else x) :: rest)) : Z X G nL ws lv pc (.int y :: .int x :: rest) := by
  intro H locs ls hP hD hS hl
  obtain ⟨⟨h1, h2, h3, h4⟩, h5, h6, h7, h8, h9, h10, h11, h12⟩ := F
  exact va_mmax h1 h2 (h3.trans hl.1.symm) h4 (h5 _ hc.1) (h5 _ hc.2.1) (h5 _ hc.2.2.1) (h5 _ hc.2.2.2) (by rw [h10]; exact hf) (by rw [h10]; exact hlo) (Nat.zero_le _) (Nat.zero_le _) hdg (kk H locs ls hP hD hS hl)
theorem z_min (F : zF X G cc own nL ret fr lo v0 w0) {x y : Int32} (hc : Cond.methodLink own index Lib.Math.min.name ∈ wsL_law ∧ Cond.static Lib.Math.min.name ∈ wsL_law ∧ Cond.initialized "java/lang/Math" ∈ wsL_law ∧ Cond.code Lib.Math.min.name Lib.Math.min.code 2 (some .int) ∈ wsL_law) (hf : 1 ≤ fr) (hlo : (rest.map fun v => v.category).sum + 13 ≤ lo) (hdg : decode cc pc = .ok (.invokestatic index, 3)) (kk : Z X G nL ws lv (pc + 3) (.int (if y < x then y else x) :: rest)) : Z X G nL ws lv pc (.int y :: .int x :: rest) := by
  intro H locs ls hP hD hS hl
  obtain ⟨⟨h1, h2, h3, h4⟩, h5, h6, h7, h8, h9, h10, h11, h12⟩ := F
  exact va_mmin h1 h2 (h3.trans hl.1.symm) h4 (h5 _ hc.1) (h5 _ hc.2.1) (h5 _ hc.2.2.1) (h5 _ hc.2.2.2) (by rw [h10]; exact hf) (by rw [h10]; exact hlo) (Nat.zero_le _) (Nat.zero_le _) hdg (kk H locs ls hP hD hS hl)
/-- System.arraycopy of ints, of longs: its guard stands in the pure side -/
def zcp {α β : Type} (f g : Nat → β) (n0 n1 : Nat) (sp dp n : Int32) (k : (Nat → β) → Option α) : Option α := if (¬ sp < 0 ∧ ¬ dp < 0 ∧ ¬ n < 0) ∧ sp.toNatClampNeg + n.toNatClampNeg ≤ n0 ∧ dp.toNatClampNeg + n.toNatClampNeg ≤ n1 then k (va_cpy f g sp.toNatClampNeg dp.toNatClampNeg n.toNatClampNeg) else none
theorem zcp_some {α β : Type} {f g : Nat → β} {n0 n1 : Nat} {sp dp n : Int32} {k : (Nat → β) → Option α} {r : α} (h : zcp f g n0 n1 sp dp n k = some r) : ((¬ sp < 0 ∧ ¬ dp < 0 ∧ ¬ n < 0) ∧ sp.toNatClampNeg + n.toNatClampNeg ≤ n0 ∧ dp.toNatClampNeg + n.toNatClampNeg ≤ n1) ∧ k (va_cpy f g sp.toNatClampNeg dp.toNatClampNeg n.toNatClampNeg) = some r := by
  unfold zcp at h
  split at h
  · exact ⟨by assumption, h⟩
  · cases h
theorem z_cpi (F : zF X G cc own nL ret fr lo v0 w0) (q0 q1 : Nat) {a0 a1 n0 n1 : Nat} {f g : Nat → Int32} {sp dp n : Int32} {α : Type} {kf : (Nat → Int32) → Option α} {out : α} (wsf : (Nat → Int32) → va_W) (hc : Cond.methodLink own index arraycopyName ∈ wsL_law ∧ Cond.native arraycopyName ∈ wsL_law ∧ Cond.static arraycopyName ∈ wsL_law ∧ Cond.initialized "java/lang/System" ∈ wsL_law) (he0 : ws[q0]? = some (a0, cI G n0 f)) (he1 : ws[q1]? = some (a1, cI G n1 g)) (hf : zcp f g n0 n1 sp dp n kf = some out) (hw : ∀ g, ws.set q1 (a1, cI G n1 g) = wsf g) (hfr : 1 ≤ fr) (hlo : (rest.map fun v => v.category).sum + (nativeFrameWords "java/lang/System" "arraycopy" 5 + 11) ≤ lo) (hdg : decode cc pc = .ok (.invokestatic index, 3)) (kk : ∀ g, kf g = some out → Z X G nL (wsf g) lv (pc + 3) rest) : Z X G nL ws lv pc (.int n :: .int dp :: .ref a1 :: .int sp :: .ref a0 :: rest) := by
  intro H locs ls hP hD hS hl
  obtain ⟨⟨h1, h2, h3, h4⟩, h5, h6, h7, h8, h9, h10, h11, h12⟩ := F
  obtain ⟨⟨⟨e1, e2, e3⟩, e4, e5⟩, hf⟩ := zcp_some hf
  exact va_copyi (ty := .int) h1 h2 (h3.trans hl.1.symm) h4 (h5 _ hc.1) (h5 _ hc.2.1) (h5 _ hc.2.2.1) (h5 _ hc.2.2.2) h6 hP hD hS q0 q1 0 0 he0 he1 rfl rfl rfl e1 e2 e3 e4 e5 (fun _ _ => rfl) (by rw [h10]; exact hfr) (by rw [h10]; exact hlo) hdg (fun H1 locs1 hP hD hS => kk _ hf H1 locs1 ls (hw _ ▸ hP) (hw _ ▸ hD) hS hl)
theorem z_cpl (F : zF X G cc own nL ret fr lo v0 w0) (q0 q1 : Nat) {a0 a1 n0 n1 : Nat} {f g : Nat → Int64} {sp dp n : Int32} {α : Type} {kf : (Nat → Int64) → Option α} {out : α} (wsf : (Nat → Int64) → va_W) (hc : Cond.methodLink own index arraycopyName ∈ wsL_law ∧ Cond.native arraycopyName ∈ wsL_law ∧ Cond.static arraycopyName ∈ wsL_law ∧ Cond.initialized "java/lang/System" ∈ wsL_law) (he0 : ws[q0]? = some (a0, cJ G n0 f)) (he1 : ws[q1]? = some (a1, cJ G n1 g)) (hf : zcp f g n0 n1 sp dp n kf = some out) (hw : ∀ g, ws.set q1 (a1, cJ G n1 g) = wsf g) (hfr : 1 ≤ fr) (hlo : (rest.map fun v => v.category).sum + (nativeFrameWords "java/lang/System" "arraycopy" 5 + 11) ≤ lo) (hdg : decode cc pc = .ok (.invokestatic index, 3)) (kk : ∀ g, kf g = some out → Z X G nL (wsf g) lv (pc + 3) rest) : Z X G nL ws lv pc (.int n :: .int dp :: .ref a1 :: .int sp :: .ref a0 :: rest) := by
  intro H locs ls hP hD hS hl
  obtain ⟨⟨h1, h2, h3, h4⟩, h5, h6, h7, h8, h9, h10, h11, h12⟩ := F
  obtain ⟨⟨⟨e1, e2, e3⟩, e4, e5⟩, hf⟩ := zcp_some hf
  exact va_copyl (ty := .long) h1 h2 (h3.trans hl.1.symm) h4 (h5 _ hc.1) (h5 _ hc.2.1) (h5 _ hc.2.2.1) (h5 _ hc.2.2.2) h6 hP hD hS q0 q1 2 2 he0 he1 rfl rfl rfl e1 e2 e3 e4 e5 (fun _ _ => rfl) (by rw [h10]; exact hfr) (by rw [h10]; exact hlo) hdg (fun H1 locs1 hP hD hS => kk _ hf H1 locs1 ls (hw _ ▸ hP) (hw _ ▸ hD) hS hl)
end ZC
