/-! THE Z KIT: a judgement over the world as a list of cells, the locals as a list, the stack; no heap, no frame left to carry. G: the places of the tables (classes, arrays' classes, the two static rows). -/
abbrev zG : Type := va_G × ClassId × ClassId × ClassId × ClassId × ClassId × ClassId × Nat × Nat
abbrev gI (G : zG) : ClassId := G.2.1
abbrev gB (G : zG) : ClassId := G.2.2.1
abbrev gJ (G : zG) : ClassId := G.2.2.2.1
abbrev gL (G : zG) : ClassId := G.2.2.2.2.1
abbrev gJJ (G : zG) : ClassId := G.2.2.2.2.2.1
abbrev gII (G : zG) : ClassId := G.2.2.2.2.2.2.1
abbrev g1 (G : zG) : Nat := G.2.2.2.2.2.2.2.1
abbrev g2 (G : zG) : Nat := G.2.2.2.2.2.2.2.2
abbrev zTy (G : zG) : List (ClassId × FieldType) := [(gI G, .int), (gB G, .byte), (gJ G, .long), (gL G, .object "TallerAhead$Line"), (gJJ G, .array .long), (gII G, .array .int)]
/-- what a cell is: a row of ints, of bytes, of longs, of references -/
abbrev cI (G : zG) (n : Nat) (f : Nat → Int32) : va_E := .inl (gI G, n, .inl f)
abbrev cB (G : zG) (n : Nat) (f : Nat → Int32) : va_E := .inl (gB G, n, .inl f)
abbrev cJ (G : zG) (n : Nat) (f : Nat → Int64) : va_E := .inl (gJ G, n, .inr (.inl f))
abbrev cL (G : zG) (n : Nat) (f : Nat → Option Nat) : va_E := .inl (gL G, n, .inr (.inr (.inr (.inr f))))
abbrev cJJ (G : zG) (n : Nat) (f : Nat → Option Nat) : va_E := .inl (gJJ G, n, .inr (.inr (.inr (.inr f))))
abbrev cII (G : zG) (n : Nat) (f : Nat → Option Nat) : va_E := .inl (gII G, n, .inr (.inr (.inr (.inr f))))
abbrev cO (k : Nat) (fs : List Value) : va_E := .inr (k, fs)
abbrev zX : Type := Program × Launch × Env × Room × State × MethodId × Array Value × List Frame × Method × Code × (Nat → Prop) × (State → Prop)
abbrev xP (X : zX) : Program := X.1
abbrev xL (X : zX) : Launch := X.2.1
abbrev xE (X : zX) : Env := X.2.2.1
abbrev xR (X : zX) : Room := X.2.2.2.1
abbrev xS (X : zX) : State := X.2.2.2.2.1
abbrev xM (X : zX) : MethodId := X.2.2.2.2.2.1
abbrev xA (X : zX) : Array Value := X.2.2.2.2.2.2.1
abbrev xB (X : zX) : List Frame := X.2.2.2.2.2.2.2.1
abbrev xT (X : zX) : Method := X.2.2.2.2.2.2.2.2.1
abbrev xC (X : zX) : Code := X.2.2.2.2.2.2.2.2.2.1
abbrev xF (X : zX) : Nat → Prop := X.2.2.2.2.2.2.2.2.2.2.1
abbrev xQ (X : zX) : State → Prop := X.2.2.2.2.2.2.2.2.2.2.2
def zABOVE : Nat → Value := fun j => .int (([-1, 0, 0, 2, 1, 3, 0, 4] : List Int32).getD j 0)
def zBODIES : Nat → Value := fun j => .int (([1, 10, 11, 2, 20, 0, 0, 0, 0, 30, 0, 0, 0, 41, 40, 0, 0, 0, 50, 0, 0, 0, 0, 60, 70, 0, 0, 0, 0, 80, 0, 81] : List Int32).getD j 0)
theorem zAO.mJ {u U : State} (hvm : u.vm.Alike U.vm) (h : (Cond.arrayOver (.array .long)).before #[] u = true) : (Cond.arrayOver (.array .long)).before #[] U = true := Jvm.Stand.arrayOver_alikeB hvm h
theorem zAO.mI {u U : State} (hvm : u.vm.Alike U.vm) (h : (Cond.arrayOver (.array .int)).before #[] u = true) : (Cond.arrayOver (.array .int)).before #[] U = true := Jvm.Stand.arrayOver_alikeB hvm h
/-- the static rows, that nobody writes; arrays of arrays, arrays of lines may be made -/
def zSt (G : zG) (A : Nat → Prop) (U : State) (H : Heap) : Prop := va_Z "TallerAhead$Heads" "ABOVE" "[I" (.ref (g1 G)) A U H ∧ va_Z "TallerAhead$Heads" "BODIES" "[I" (.ref (g2 G)) A U H ∧ va_T .int (g1 G) 8 zABOVE A U H ∧ va_T .int (g2 G) 32 zBODIES A U H ∧ (Cond.arrayOver (.object "TallerAhead$Line")).before #[] U = true ∧ (Cond.arrayOver (.array .long)).before #[] U = true ∧ (Cond.arrayOver (.array .int)).before #[] U = true
theorem zSt.moved {G : zG} {A : Nat → Prop} {u U : State} {H : Heap} (hvm : u.vm.Alike U.vm) (h : zSt G A u H) : zSt G A U H := ⟨h.1.moved hvm, h.2.1.moved hvm, h.2.2.1.moved hvm, h.2.2.2.1.moved hvm, va_AO.moved (C := "TallerAhead$Line") hvm h.2.2.2.2.1, zAO.mJ hvm h.2.2.2.2.2.1, zAO.mI hvm h.2.2.2.2.2.2⟩
theorem zSt.kept {G : zG} {A : Nat → Prop} {U : State} {H H1 : Heap} (h : zSt G A U H) (hq : ∀ a : Nat, a < H.size → ¬ A a → H1[a]? = H[a]?) : zSt G A U H1 := ⟨h.1.kept hq, h.2.1.kept hq, h.2.2.1.kept hq, h.2.2.2.1.kept hq, h.2.2.2.2⟩
theorem zSt.narrow {G : zG} {A B : Nat → Prop} {U : State} {H : Heap} (h : zSt G A U H) (hAB : ∀ q, B q → A q) : zSt G B U H := ⟨h.1.narrow hAB, h.2.1.narrow hAB, h.2.2.1.narrow hAB, h.2.2.2.1.narrow hAB, h.2.2.2.2⟩
/-- an answer fits its type -/
def zok (ret : Option FieldType) (v : Option Value) : Prop := ∀ (ty : FieldType) (r : Int32), ret = some ty → v = some (.int r) → narrow ty (.int r) = .int r
def zPre (G : zG) (av : List Value) (ws : va_W) (sz : Nat) : Array Value → State → Prop := va_Pc av (fun U => U.heap.size = sz ∧ va_P G.1 vwCl ws U.heap ∧ va_K G.1 vwCl (zTy G) U ∧ va_D (fun _ => True) ws ∧ zSt G (va_A ws sz) U U.heap)
def zq (ret : Option FieldType) (v : Option Value) (G : zG) (w' : va_W) (A : Nat → Prop) : Array Value → State → Outcome → State → Prop := fun _ st oc t => oc = .returned v ∧ zok ret v ∧ va_P G.1 vwCl w' t.heap ∧ va_F A st t
/-- a method's contract: from the world ws, called with av, it answers v and leaves the world w' -/
def zM (l : Launch) (y : MethodName) (cc : ByteArray) (mL : Nat) (ret : Option FieldType) (fr lo : Nat) (G : zG) (av : List Value) (ws : va_W) (v : Option Value) (w' : va_W) : Prop :=
  w'.map Prod.fst = ws.map Prod.fst ∧ ∀ sz : Nat, Met l y (Cond.code y cc mL ret :: wsL_law) { frames := fr, cells := 0, slots := 0, locals := lo } (zPre G av ws sz) (zq ret v G w' (va_A ws sz)) 0 0 (va_A ws sz)
def Z (X : zX) (G : zG) (nL : Nat) (ws : va_W) (lv : List (Nat × Value)) (pc : Nat) (st : List Value) : Prop :=
  ∀ (H : Heap) (locs : List Loc) (ls : Array Slot), va_P G.1 vwCl ws H → va_D (xF X) ws → va_S (xF X) (xS X).heap H locs → lv_has ls nL lv → W (xP X) (xL X) (xE X) (xR X) (xS X) (xM X) (xA X) (xB X) (xT X) (xC X) H locs 0 0 (xQ X) (F0 (xM X) pc ls st)
/-- what holds in the whole method -/
def zF (X : zX) (G : zG) (cc : ByteArray) (own : String) (nL : Nat) (ret : Option FieldType) (fr lo : Nat) (v : Option Value) (w' : va_W) : Prop :=
  ((xP X).tables.exec = Jvm.exec ∧ (xC X).code = cc ∧ (xC X).maxLocals = nL ∧ (xS X).vm.findClass own = some (xM X).cls) ∧ (∀ w ∈ wsL_law, w.before (xA X) (xS X) = true) ∧ va_K G.1 vwCl (zTy G) (xS X) ∧ (xT X).sig.returnType = ret ∧ (xT X).locks = false ∧ (∀ q, (xS X).heap.size ≤ q → xF X q) ∧ xR X = { frames := fr, cells := 0, slots := 0, locals := lo } ∧ xQ X = MQ (xB X) (zq ret v G w' (xF X)) (xA X) (xS X) 0 0 (xF X) ∧ zSt G (xF X) (xS X) (xS X).heap
theorem Met.ofWF {l : Launch} {y : MethodName} {ws ws' : List Cond} {rm : Room} {Pc : Array Value → State → Prop} {Qc : Array Value → State → Outcome → State → Prop} {mc ms : Nat} {free : Addr → Prop} {cc : ByteArray} {maxL : Nat} {ret : Option FieldType}
    (hy : plainFor y = true) (hw : ws = Cond.code y cc maxL ret :: ws')
    (body : ∀ p e s m args below meth c s₁, BodyLoose p l y (headSpec ws rm) cc maxL ret e s m args below meth c s₁ → c.maxLocals = maxL → Pc args s →
      W p l e (headSpec ws rm).room s m args below meth c s.heap [] 0 0 (MQ below Qc args s mc ms free) (entryFrame m args maxL)) : Met l y ws rm Pc Qc mc ms free := by
  refine MetFree.of_bodySF (code := cc) (maxLocals := maxL) (ret := ret) hy ?_ ?_
  · intro args s m h hn
    obtain ⟨meth, c, h1, h2, h3, h4, h5, h6, -, -⟩ := Cond.code_spec hn (atoms_spec (ws := ws) h _ (by rw [hw]; exact List.mem_cons_self))
    exact ⟨meth, c, h1, h2, h3, h4, h5, h6⟩
  · intro p e s m args below meth c s₁ B hml hP _
    have hh0 : s₁.heap = s.heap := by rw [B.state]; rfl
    obtain ⟨t, a1, o, b1, b2, b3⟩ := body p e s m args below meth c s₁ B hml hP s₁ hh0 (Stand.of_body B)
    exact ⟨t, o, a1, b1, b2, ⟨b3.1, b3.2⟩⟩
theorem zM.of {l : Launch} {y : MethodName} {cc : ByteArray} {mL : Nat} {ret : Option FieldType} {fr lo : Nat} {G : zG} {av : List Value} {ws w' : va_W} {v : Option Value} (lv0 : List (Nat × Value)) {own : String} (ho : y.cls = own) (hy : plainFor y = true) (hn : (lg_sl av).length ≤ mL) (hl0 : lv_args 0 av = lv0) (ha : w'.map Prod.fst = ws.map Prod.fst)
    (k : ∀ X : zX, xL X = l → zF X G cc own mL ret fr lo v w' → Z X G mL ws lv0 0 []) : zM l y cc mL ret fr lo G av ws v w' := by
  subst hl0
  subst ho
  refine ⟨ha, fun sz => ?_⟩
  refine Met.ofWF (cc := cc) (maxL := mL) (ret := ret) hy rfl ?_
  intro p e s m args below meth c s₁ B hml hv
  obtain ⟨rfl, hsz, hP, hK, hD0, hSt⟩ := hv
  have hts := atoms_spec (ws := Cond.code y cc mL ret :: wsL_law) B.pre
  subst hsz
  have hl := lv_entry av (n := mL) hn
  rw [lg_entry_eq]
  exact k (p, l, e, { frames := fr, cells := 0, slots := 0, locals := lo }, s, m, av.toArray, below, meth, c, va_A ws s.heap.size, MQ below (zq ret v G w' (va_A ws s.heap.size)) av.toArray s 0 0 (va_A ws s.heap.size)) rfl
    ⟨⟨B.exec, B.bytes, hml, findClass_of_methodNamed B.named⟩, fun w h => hts w (List.mem_cons_of_mem _ h), hK, B.returns, B.notSynchronized, fun q h => Or.inr h, rfl, rfl, hSt⟩ s.heap [] _ hP hD0.self va_S.rf hl
/-! pure words: a row read, a row written, answers taken apart -/
def zg {α β : Type} (f : Nat → β) (n : Nat) (i : Int32) (k : β → Option α) : Option α := if ¬ (i < 0 ∨ n ≤ i.toNatClampNeg) then k (f i.toNatClampNeg) else none
theorem zg_some {α β : Type} {f : Nat → β} {n : Nat} {i : Int32} {k : β → Option α} {r : α} (h : zg f n i k = some r) : vp_in i n ∧ k (f i.toNatClampNeg) = some r := by
  unfold zg at h
  split at h
  · exact ⟨by assumption, h⟩
  · cases h
def zs {α : Type} (f : Nat → Int32) (n : Nat) (i x : Int32) (k : (Nat → Int32) → Option α) : Option α := if ¬ (i < 0 ∨ n ≤ i.toNatClampNeg) then k (upd f i.toNatClampNeg x) else none
theorem zs_some {α : Type} {f : Nat → Int32} {n : Nat} {i x : Int32} {k : (Nat → Int32) → Option α} {r : α} (h : zs f n i x k = some r) : vp_in i n ∧ k (upd f i.toNatClampNeg x) = some r := by
  unfold zs at h
  split at h
  · exact ⟨by assumption, h⟩
  · cases h
def zsJ {α : Type} (f : Nat → Int64) (n : Nat) (i : Int32) (x : Int64) (k : (Nat → Int64) → Option α) : Option α := if ¬ (i < 0 ∨ n ≤ i.toNatClampNeg) then k (vp_updL f i.toNatClampNeg x) else none
theorem zsJ_some {α : Type} {f : Nat → Int64} {n : Nat} {i : Int32} {x : Int64} {k : (Nat → Int64) → Option α} {r : α} (h : zsJ f n i x k = some r) : vp_in i n ∧ k (vp_updL f i.toNatClampNeg x) = some r := by
  unfold zsJ at h
  split at h
  · exact ⟨by assumption, h⟩
  · cases h
/-- a guard -/
def zgd {α : Type} (c : Prop) [Decidable c] (k : Option α) : Option α := if c then k else none
theorem zgd_some {α : Type} {c : Prop} [Decidable c] {k : Option α} {r : α} (h : zgd c k = some r) : c ∧ k = some r := by
  unfold zgd at h
  split at h
  · exact ⟨by assumption, h⟩
  · cases h
def zb1 {α ρ : Type} (o : Option α) (k : α → Option ρ) : Option ρ := o.bind k
theorem zb1_some {α ρ : Type} {o : Option α} {k : α → Option ρ} {r : ρ} (h : zb1 o k = some r) : ∃ a, o = some a ∧ k a = some r := by
  cases o with
  | none => cases h
  | some q => exact ⟨q, rfl, h⟩
def zb0 {ρ : Type} (o : Option Unit) (k : Option ρ) : Option ρ := o.bind fun _ => k
theorem zb0_some {ρ : Type} {o : Option Unit} {k : Option ρ} {r : ρ} (h : zb0 o k = some r) : o = some () ∧ k = some r := by
  cases o with
  | none => cases h
  | some q => exact ⟨rfl, h⟩
def zb2 {α β ρ : Type} (o : Option (α × β)) (k : α → β → Option ρ) : Option ρ := o.bind fun q => k q.1 q.2
theorem zb2_some {α β ρ : Type} {o : Option (α × β)} {k : α → β → Option ρ} {r : ρ} (h : zb2 o k = some r) : ∃ a b, o = some (a, b) ∧ k a b = some r := by
  cases o with
  | none => cases h
  | some q => exact ⟨q.1, q.2, rfl, h⟩
def zb3 {α β γ ρ : Type} (o : Option (α × β × γ)) (k : α → β → γ → Option ρ) : Option ρ := o.bind fun q => k q.1 q.2.1 q.2.2
theorem zb3_some {α β γ ρ : Type} {o : Option (α × β × γ)} {k : α → β → γ → Option ρ} {r : ρ} (h : zb3 o k = some r) : ∃ a b c, o = some (a, b, c) ∧ k a b c = some r := by
  cases o with
  | none => cases h
  | some q => exact ⟨q.1, q.2.1, q.2.2, rfl, h⟩
def zb4 {T1 T2 T3 T4 ρ : Type} (o : Option (T1 × T2 × T3 × T4)) (k : T1 → T2 → T3 → T4 → Option ρ) : Option ρ := o.bind fun z => k z.1 z.2.1 z.2.2.1 z.2.2.2
theorem zb4_some {T1 T2 T3 T4 ρ : Type} {o : Option (T1 × T2 × T3 × T4)} {k : T1 → T2 → T3 → T4 → Option ρ} {r : ρ} (h : zb4 o k = some r) : ∃ x1 x2 x3 x4, o = some (x1, x2, x3, x4) ∧ k x1 x2 x3 x4 = some r := by
  cases o with
  | none => cases h
  | some z => exact ⟨z.1, z.2.1, z.2.2.1, z.2.2.2, rfl, h⟩
def zb5 {T1 T2 T3 T4 T5 ρ : Type} (o : Option (T1 × T2 × T3 × T4 × T5)) (k : T1 → T2 → T3 → T4 → T5 → Option ρ) : Option ρ := o.bind fun z => k z.1 z.2.1 z.2.2.1 z.2.2.2.1 z.2.2.2.2
theorem zb5_some {T1 T2 T3 T4 T5 ρ : Type} {o : Option (T1 × T2 × T3 × T4 × T5)} {k : T1 → T2 → T3 → T4 → T5 → Option ρ} {r : ρ} (h : zb5 o k = some r) : ∃ x1 x2 x3 x4 x5, o = some (x1, x2, x3, x4, x5) ∧ k x1 x2 x3 x4 x5 = some r := by
  cases o with
  | none => cases h
  | some z => exact ⟨z.1, z.2.1, z.2.2.1, z.2.2.2.1, z.2.2.2.2, rfl, h⟩
def zb6 {T1 T2 T3 T4 T5 T6 ρ : Type} (o : Option (T1 × T2 × T3 × T4 × T5 × T6)) (k : T1 → T2 → T3 → T4 → T5 → T6 → Option ρ) : Option ρ := o.bind fun z => k z.1 z.2.1 z.2.2.1 z.2.2.2.1 z.2.2.2.2.1 z.2.2.2.2.2
theorem zb6_some {T1 T2 T3 T4 T5 T6 ρ : Type} {o : Option (T1 × T2 × T3 × T4 × T5 × T6)} {k : T1 → T2 → T3 → T4 → T5 → T6 → Option ρ} {r : ρ} (h : zb6 o k = some r) : ∃ x1 x2 x3 x4 x5 x6, o = some (x1, x2, x3, x4, x5, x6) ∧ k x1 x2 x3 x4 x5 x6 = some r := by
  cases o with
  | none => cases h
  | some z => exact ⟨z.1, z.2.1, z.2.2.1, z.2.2.2.1, z.2.2.2.2.1, z.2.2.2.2.2, rfl, h⟩
def zb7 {T1 T2 T3 T4 T5 T6 T7 ρ : Type} (o : Option (T1 × T2 × T3 × T4 × T5 × T6 × T7)) (k : T1 → T2 → T3 → T4 → T5 → T6 → T7 → Option ρ) : Option ρ := o.bind fun z => k z.1 z.2.1 z.2.2.1 z.2.2.2.1 z.2.2.2.2.1 z.2.2.2.2.2.1 z.2.2.2.2.2.2
theorem zb7_some {T1 T2 T3 T4 T5 T6 T7 ρ : Type} {o : Option (T1 × T2 × T3 × T4 × T5 × T6 × T7)} {k : T1 → T2 → T3 → T4 → T5 → T6 → T7 → Option ρ} {r : ρ} (h : zb7 o k = some r) : ∃ x1 x2 x3 x4 x5 x6 x7, o = some (x1, x2, x3, x4, x5, x6, x7) ∧ k x1 x2 x3 x4 x5 x6 x7 = some r := by
  cases o with
  | none => cases h
  | some z => exact ⟨z.1, z.2.1, z.2.2.1, z.2.2.2.1, z.2.2.2.2.1, z.2.2.2.2.2.1, z.2.2.2.2.2.2, rfl, h⟩
def zb8 {T1 T2 T3 T4 T5 T6 T7 T8 ρ : Type} (o : Option (T1 × T2 × T3 × T4 × T5 × T6 × T7 × T8)) (k : T1 → T2 → T3 → T4 → T5 → T6 → T7 → T8 → Option ρ) : Option ρ := o.bind fun z => k z.1 z.2.1 z.2.2.1 z.2.2.2.1 z.2.2.2.2.1 z.2.2.2.2.2.1 z.2.2.2.2.2.2.1 z.2.2.2.2.2.2.2
theorem zb8_some {T1 T2 T3 T4 T5 T6 T7 T8 ρ : Type} {o : Option (T1 × T2 × T3 × T4 × T5 × T6 × T7 × T8)} {k : T1 → T2 → T3 → T4 → T5 → T6 → T7 → T8 → Option ρ} {r : ρ} (h : zb8 o k = some r) : ∃ x1 x2 x3 x4 x5 x6 x7 x8, o = some (x1, x2, x3, x4, x5, x6, x7, x8) ∧ k x1 x2 x3 x4 x5 x6 x7 x8 = some r := by
  cases o with
  | none => cases h
  | some z => exact ⟨z.1, z.2.1, z.2.2.1, z.2.2.2.1, z.2.2.2.2.1, z.2.2.2.2.2.1, z.2.2.2.2.2.2.1, z.2.2.2.2.2.2.2, rfl, h⟩
def zb9 {T1 T2 T3 T4 T5 T6 T7 T8 T9 ρ : Type} (o : Option (T1 × T2 × T3 × T4 × T5 × T6 × T7 × T8 × T9)) (k : T1 → T2 → T3 → T4 → T5 → T6 → T7 → T8 → T9 → Option ρ) : Option ρ := o.bind fun z => k z.1 z.2.1 z.2.2.1 z.2.2.2.1 z.2.2.2.2.1 z.2.2.2.2.2.1 z.2.2.2.2.2.2.1 z.2.2.2.2.2.2.2.1 z.2.2.2.2.2.2.2.2
theorem zb9_some {T1 T2 T3 T4 T5 T6 T7 T8 T9 ρ : Type} {o : Option (T1 × T2 × T3 × T4 × T5 × T6 × T7 × T8 × T9)} {k : T1 → T2 → T3 → T4 → T5 → T6 → T7 → T8 → T9 → Option ρ} {r : ρ} (h : zb9 o k = some r) : ∃ x1 x2 x3 x4 x5 x6 x7 x8 x9, o = some (x1, x2, x3, x4, x5, x6, x7, x8, x9) ∧ k x1 x2 x3 x4 x5 x6 x7 x8 x9 = some r := by
  cases o with
  | none => cases h
  | some z => exact ⟨z.1, z.2.1, z.2.2.1, z.2.2.2.1, z.2.2.2.2.1, z.2.2.2.2.2.1, z.2.2.2.2.2.2.1, z.2.2.2.2.2.2.2.1, z.2.2.2.2.2.2.2.2, rfl, h⟩
def zb10 {T1 T2 T3 T4 T5 T6 T7 T8 T9 T10 ρ : Type} (o : Option (T1 × T2 × T3 × T4 × T5 × T6 × T7 × T8 × T9 × T10)) (k : T1 → T2 → T3 → T4 → T5 → T6 → T7 → T8 → T9 → T10 → Option ρ) : Option ρ := o.bind fun z => k z.1 z.2.1 z.2.2.1 z.2.2.2.1 z.2.2.2.2.1 z.2.2.2.2.2.1 z.2.2.2.2.2.2.1 z.2.2.2.2.2.2.2.1 z.2.2.2.2.2.2.2.2.1 z.2.2.2.2.2.2.2.2.2
theorem zb10_some {T1 T2 T3 T4 T5 T6 T7 T8 T9 T10 ρ : Type} {o : Option (T1 × T2 × T3 × T4 × T5 × T6 × T7 × T8 × T9 × T10)} {k : T1 → T2 → T3 → T4 → T5 → T6 → T7 → T8 → T9 → T10 → Option ρ} {r : ρ} (h : zb10 o k = some r) : ∃ x1 x2 x3 x4 x5 x6 x7 x8 x9 x10, o = some (x1, x2, x3, x4, x5, x6, x7, x8, x9, x10) ∧ k x1 x2 x3 x4 x5 x6 x7 x8 x9 x10 = some r := by
  cases o with
  | none => cases h
  | some z => exact ⟨z.1, z.2.1, z.2.2.1, z.2.2.2.1, z.2.2.2.2.1, z.2.2.2.2.2.1, z.2.2.2.2.2.2.1, z.2.2.2.2.2.2.2.1, z.2.2.2.2.2.2.2.2.1, z.2.2.2.2.2.2.2.2.2, rfl, h⟩
def zb11 {T1 T2 T3 T4 T5 T6 T7 T8 T9 T10 T11 ρ : Type} (o : Option (T1 × T2 × T3 × T4 × T5 × T6 × T7 × T8 × T9 × T10 × T11)) (k : T1 → T2 → T3 → T4 → T5 → T6 → T7 → T8 → T9 → T10 → T11 → Option ρ) : Option ρ := o.bind fun z => k z.1 z.2.1 z.2.2.1 z.2.2.2.1 z.2.2.2.2.1 z.2.2.2.2.2.1 z.2.2.2.2.2.2.1 z.2.2.2.2.2.2.2.1 z.2.2.2.2.2.2.2.2.1 z.2.2.2.2.2.2.2.2.2.1 z.2.2.2.2.2.2.2.2.2.2
theorem zb11_some {T1 T2 T3 T4 T5 T6 T7 T8 T9 T10 T11 ρ : Type} {o : Option (T1 × T2 × T3 × T4 × T5 × T6 × T7 × T8 × T9 × T10 × T11)} {k : T1 → T2 → T3 → T4 → T5 → T6 → T7 → T8 → T9 → T10 → T11 → Option ρ} {r : ρ} (h : zb11 o k = some r) : ∃ x1 x2 x3 x4 x5 x6 x7 x8 x9 x10 x11, o = some (x1, x2, x3, x4, x5, x6, x7, x8, x9, x10, x11) ∧ k x1 x2 x3 x4 x5 x6 x7 x8 x9 x10 x11 = some r := by
  cases o with
  | none => cases h
  | some z => exact ⟨z.1, z.2.1, z.2.2.1, z.2.2.2.1, z.2.2.2.2.1, z.2.2.2.2.2.1, z.2.2.2.2.2.2.1, z.2.2.2.2.2.2.2.1, z.2.2.2.2.2.2.2.2.1, z.2.2.2.2.2.2.2.2.2.1, z.2.2.2.2.2.2.2.2.2.2, rfl, h⟩
def zb12 {T1 T2 T3 T4 T5 T6 T7 T8 T9 T10 T11 T12 ρ : Type} (o : Option (T1 × T2 × T3 × T4 × T5 × T6 × T7 × T8 × T9 × T10 × T11 × T12)) (k : T1 → T2 → T3 → T4 → T5 → T6 → T7 → T8 → T9 → T10 → T11 → T12 → Option ρ) : Option ρ := o.bind fun z => k z.1 z.2.1 z.2.2.1 z.2.2.2.1 z.2.2.2.2.1 z.2.2.2.2.2.1 z.2.2.2.2.2.2.1 z.2.2.2.2.2.2.2.1 z.2.2.2.2.2.2.2.2.1 z.2.2.2.2.2.2.2.2.2.1 z.2.2.2.2.2.2.2.2.2.2.1 z.2.2.2.2.2.2.2.2.2.2.2
theorem zb12_some {T1 T2 T3 T4 T5 T6 T7 T8 T9 T10 T11 T12 ρ : Type} {o : Option (T1 × T2 × T3 × T4 × T5 × T6 × T7 × T8 × T9 × T10 × T11 × T12)} {k : T1 → T2 → T3 → T4 → T5 → T6 → T7 → T8 → T9 → T10 → T11 → T12 → Option ρ} {r : ρ} (h : zb12 o k = some r) : ∃ x1 x2 x3 x4 x5 x6 x7 x8 x9 x10 x11 x12, o = some (x1, x2, x3, x4, x5, x6, x7, x8, x9, x10, x11, x12) ∧ k x1 x2 x3 x4 x5 x6 x7 x8 x9 x10 x11 x12 = some r := by
  cases o with
  | none => cases h
  | some z => exact ⟨z.1, z.2.1, z.2.2.1, z.2.2.2.1, z.2.2.2.2.1, z.2.2.2.2.2.1, z.2.2.2.2.2.2.1, z.2.2.2.2.2.2.2.1, z.2.2.2.2.2.2.2.2.1, z.2.2.2.2.2.2.2.2.2.1, z.2.2.2.2.2.2.2.2.2.2.1, z.2.2.2.2.2.2.2.2.2.2.2, rfl, h⟩
def zb13 {T1 T2 T3 T4 T5 T6 T7 T8 T9 T10 T11 T12 T13 ρ : Type} (o : Option (T1 × T2 × T3 × T4 × T5 × T6 × T7 × T8 × T9 × T10 × T11 × T12 × T13)) (k : T1 → T2 → T3 → T4 → T5 → T6 → T7 → T8 → T9 → T10 → T11 → T12 → T13 → Option ρ) : Option ρ := o.bind fun z => k z.1 z.2.1 z.2.2.1 z.2.2.2.1 z.2.2.2.2.1 z.2.2.2.2.2.1 z.2.2.2.2.2.2.1 z.2.2.2.2.2.2.2.1 z.2.2.2.2.2.2.2.2.1 z.2.2.2.2.2.2.2.2.2.1 z.2.2.2.2.2.2.2.2.2.2.1 z.2.2.2.2.2.2.2.2.2.2.2.1 z.2.2.2.2.2.2.2.2.2.2.2.2
theorem zb13_some {T1 T2 T3 T4 T5 T6 T7 T8 T9 T10 T11 T12 T13 ρ : Type} {o : Option (T1 × T2 × T3 × T4 × T5 × T6 × T7 × T8 × T9 × T10 × T11 × T12 × T13)} {k : T1 → T2 → T3 → T4 → T5 → T6 → T7 → T8 → T9 → T10 → T11 → T12 → T13 → Option ρ} {r : ρ} (h : zb13 o k = some r) : ∃ x1 x2 x3 x4 x5 x6 x7 x8 x9 x10 x11 x12 x13, o = some (x1, x2, x3, x4, x5, x6, x7, x8, x9, x10, x11, x12, x13) ∧ k x1 x2 x3 x4 x5 x6 x7 x8 x9 x10 x11 x12 x13 = some r := by
  cases o with
  | none => cases h
  | some z => exact ⟨z.1, z.2.1, z.2.2.1, z.2.2.2.1, z.2.2.2.2.1, z.2.2.2.2.2.1, z.2.2.2.2.2.2.1, z.2.2.2.2.2.2.2.1, z.2.2.2.2.2.2.2.2.1, z.2.2.2.2.2.2.2.2.2.1, z.2.2.2.2.2.2.2.2.2.2.1, z.2.2.2.2.2.2.2.2.2.2.2.1, z.2.2.2.2.2.2.2.2.2.2.2.2, rfl, h⟩
def zb14 {T1 T2 T3 T4 T5 T6 T7 T8 T9 T10 T11 T12 T13 T14 ρ : Type} (o : Option (T1 × T2 × T3 × T4 × T5 × T6 × T7 × T8 × T9 × T10 × T11 × T12 × T13 × T14)) (k : T1 → T2 → T3 → T4 → T5 → T6 → T7 → T8 → T9 → T10 → T11 → T12 → T13 → T14 → Option ρ) : Option ρ := o.bind fun z => k z.1 z.2.1 z.2.2.1 z.2.2.2.1 z.2.2.2.2.1 z.2.2.2.2.2.1 z.2.2.2.2.2.2.1 z.2.2.2.2.2.2.2.1 z.2.2.2.2.2.2.2.2.1 z.2.2.2.2.2.2.2.2.2.1 z.2.2.2.2.2.2.2.2.2.2.1 z.2.2.2.2.2.2.2.2.2.2.2.1 z.2.2.2.2.2.2.2.2.2.2.2.2.1 z.2.2.2.2.2.2.2.2.2.2.2.2.2
theorem zb14_some {T1 T2 T3 T4 T5 T6 T7 T8 T9 T10 T11 T12 T13 T14 ρ : Type} {o : Option (T1 × T2 × T3 × T4 × T5 × T6 × T7 × T8 × T9 × T10 × T11 × T12 × T13 × T14)} {k : T1 → T2 → T3 → T4 → T5 → T6 → T7 → T8 → T9 → T10 → T11 → T12 → T13 → T14 → Option ρ} {r : ρ} (h : zb14 o k = some r) : ∃ x1 x2 x3 x4 x5 x6 x7 x8 x9 x10 x11 x12 x13 x14, o = some (x1, x2, x3, x4, x5, x6, x7, x8, x9, x10, x11, x12, x13, x14) ∧ k x1 x2 x3 x4 x5 x6 x7 x8 x9 x10 x11 x12 x13 x14 = some r := by
  cases o with
  | none => cases h
  | some z => exact ⟨z.1, z.2.1, z.2.2.1, z.2.2.2.1, z.2.2.2.2.1, z.2.2.2.2.2.1, z.2.2.2.2.2.2.1, z.2.2.2.2.2.2.2.1, z.2.2.2.2.2.2.2.2.1, z.2.2.2.2.2.2.2.2.2.1, z.2.2.2.2.2.2.2.2.2.2.1, z.2.2.2.2.2.2.2.2.2.2.2.1, z.2.2.2.2.2.2.2.2.2.2.2.2.1, z.2.2.2.2.2.2.2.2.2.2.2.2.2, rfl, h⟩
def zb15 {T1 T2 T3 T4 T5 T6 T7 T8 T9 T10 T11 T12 T13 T14 T15 ρ : Type} (o : Option (T1 × T2 × T3 × T4 × T5 × T6 × T7 × T8 × T9 × T10 × T11 × T12 × T13 × T14 × T15)) (k : T1 → T2 → T3 → T4 → T5 → T6 → T7 → T8 → T9 → T10 → T11 → T12 → T13 → T14 → T15 → Option ρ) : Option ρ := o.bind fun z => k z.1 z.2.1 z.2.2.1 z.2.2.2.1 z.2.2.2.2.1 z.2.2.2.2.2.1 z.2.2.2.2.2.2.1 z.2.2.2.2.2.2.2.1 z.2.2.2.2.2.2.2.2.1 z.2.2.2.2.2.2.2.2.2.1 z.2.2.2.2.2.2.2.2.2.2.1 z.2.2.2.2.2.2.2.2.2.2.2.1 z.2.2.2.2.2.2.2.2.2.2.2.2.1 z.2.2.2.2.2.2.2.2.2.2.2.2.2.1 z.2.2.2.2.2.2.2.2.2.2.2.2.2.2
theorem zb15_some {T1 T2 T3 T4 T5 T6 T7 T8 T9 T10 T11 T12 T13 T14 T15 ρ : Type} {o : Option (T1 × T2 × T3 × T4 × T5 × T6 × T7 × T8 × T9 × T10 × T11 × T12 × T13 × T14 × T15)} {k : T1 → T2 → T3 → T4 → T5 → T6 → T7 → T8 → T9 → T10 → T11 → T12 → T13 → T14 → T15 → Option ρ} {r : ρ} (h : zb15 o k = some r) : ∃ x1 x2 x3 x4 x5 x6 x7 x8 x9 x10 x11 x12 x13 x14 x15, o = some (x1, x2, x3, x4, x5, x6, x7, x8, x9, x10, x11, x12, x13, x14, x15) ∧ k x1 x2 x3 x4 x5 x6 x7 x8 x9 x10 x11 x12 x13 x14 x15 = some r := by
  cases o with
  | none => cases h
  | some z => exact ⟨z.1, z.2.1, z.2.2.1, z.2.2.2.1, z.2.2.2.2.1, z.2.2.2.2.2.1, z.2.2.2.2.2.2.1, z.2.2.2.2.2.2.2.1, z.2.2.2.2.2.2.2.2.1, z.2.2.2.2.2.2.2.2.2.1, z.2.2.2.2.2.2.2.2.2.2.1, z.2.2.2.2.2.2.2.2.2.2.2.1, z.2.2.2.2.2.2.2.2.2.2.2.2.1, z.2.2.2.2.2.2.2.2.2.2.2.2.2.1, z.2.2.2.2.2.2.2.2.2.2.2.2.2.2, rfl, h⟩
def zb16 {T1 T2 T3 T4 T5 T6 T7 T8 T9 T10 T11 T12 T13 T14 T15 T16 ρ : Type} (o : Option (T1 × T2 × T3 × T4 × T5 × T6 × T7 × T8 × T9 × T10 × T11 × T12 × T13 × T14 × T15 × T16)) (k : T1 → T2 → T3 → T4 → T5 → T6 → T7 → T8 → T9 → T10 → T11 → T12 → T13 → T14 → T15 → T16 → Option ρ) : Option ρ := o.bind fun z => k z.1 z.2.1 z.2.2.1 z.2.2.2.1 z.2.2.2.2.1 z.2.2.2.2.2.1 z.2.2.2.2.2.2.1 z.2.2.2.2.2.2.2.1 z.2.2.2.2.2.2.2.2.1 z.2.2.2.2.2.2.2.2.2.1 z.2.2.2.2.2.2.2.2.2.2.1 z.2.2.2.2.2.2.2.2.2.2.2.1 z.2.2.2.2.2.2.2.2.2.2.2.2.1 z.2.2.2.2.2.2.2.2.2.2.2.2.2.1 z.2.2.2.2.2.2.2.2.2.2.2.2.2.2.1 z.2.2.2.2.2.2.2.2.2.2.2.2.2.2.2
theorem zb16_some {T1 T2 T3 T4 T5 T6 T7 T8 T9 T10 T11 T12 T13 T14 T15 T16 ρ : Type} {o : Option (T1 × T2 × T3 × T4 × T5 × T6 × T7 × T8 × T9 × T10 × T11 × T12 × T13 × T14 × T15 × T16)} {k : T1 → T2 → T3 → T4 → T5 → T6 → T7 → T8 → T9 → T10 → T11 → T12 → T13 → T14 → T15 → T16 → Option ρ} {r : ρ} (h : zb16 o k = some r) : ∃ x1 x2 x3 x4 x5 x6 x7 x8 x9 x10 x11 x12 x13 x14 x15 x16, o = some (x1, x2, x3, x4, x5, x6, x7, x8, x9, x10, x11, x12, x13, x14, x15, x16) ∧ k x1 x2 x3 x4 x5 x6 x7 x8 x9 x10 x11 x12 x13 x14 x15 x16 = some r := by
  cases o with
  | none => cases h
  | some z => exact ⟨z.1, z.2.1, z.2.2.1, z.2.2.2.1, z.2.2.2.2.1, z.2.2.2.2.2.1, z.2.2.2.2.2.2.1, z.2.2.2.2.2.2.2.1, z.2.2.2.2.2.2.2.2.1, z.2.2.2.2.2.2.2.2.2.1, z.2.2.2.2.2.2.2.2.2.2.1, z.2.2.2.2.2.2.2.2.2.2.2.1, z.2.2.2.2.2.2.2.2.2.2.2.2.1, z.2.2.2.2.2.2.2.2.2.2.2.2.2.1, z.2.2.2.2.2.2.2.2.2.2.2.2.2.2.1, z.2.2.2.2.2.2.2.2.2.2.2.2.2.2.2, rfl, h⟩
def zb17 {T1 T2 T3 T4 T5 T6 T7 T8 T9 T10 T11 T12 T13 T14 T15 T16 T17 ρ : Type} (o : Option (T1 × T2 × T3 × T4 × T5 × T6 × T7 × T8 × T9 × T10 × T11 × T12 × T13 × T14 × T15 × T16 × T17)) (k : T1 → T2 → T3 → T4 → T5 → T6 → T7 → T8 → T9 → T10 → T11 → T12 → T13 → T14 → T15 → T16 → T17 → Option ρ) : Option ρ := o.bind fun z => k z.1 z.2.1 z.2.2.1 z.2.2.2.1 z.2.2.2.2.1 z.2.2.2.2.2.1 z.2.2.2.2.2.2.1 z.2.2.2.2.2.2.2.1 z.2.2.2.2.2.2.2.2.1 z.2.2.2.2.2.2.2.2.2.1 z.2.2.2.2.2.2.2.2.2.2.1 z.2.2.2.2.2.2.2.2.2.2.2.1 z.2.2.2.2.2.2.2.2.2.2.2.2.1 z.2.2.2.2.2.2.2.2.2.2.2.2.2.1 z.2.2.2.2.2.2.2.2.2.2.2.2.2.2.1 z.2.2.2.2.2.2.2.2.2.2.2.2.2.2.2.1 z.2.2.2.2.2.2.2.2.2.2.2.2.2.2.2.2
theorem zb17_some {T1 T2 T3 T4 T5 T6 T7 T8 T9 T10 T11 T12 T13 T14 T15 T16 T17 ρ : Type} {o : Option (T1 × T2 × T3 × T4 × T5 × T6 × T7 × T8 × T9 × T10 × T11 × T12 × T13 × T14 × T15 × T16 × T17)} {k : T1 → T2 → T3 → T4 → T5 → T6 → T7 → T8 → T9 → T10 → T11 → T12 → T13 → T14 → T15 → T16 → T17 → Option ρ} {r : ρ} (h : zb17 o k = some r) : ∃ x1 x2 x3 x4 x5 x6 x7 x8 x9 x10 x11 x12 x13 x14 x15 x16 x17, o = some (x1, x2, x3, x4, x5, x6, x7, x8, x9, x10, x11, x12, x13, x14, x15, x16, x17) ∧ k x1 x2 x3 x4 x5 x6 x7 x8 x9 x10 x11 x12 x13 x14 x15 x16 x17 = some r := by
  cases o with
  | none => cases h
  | some z => exact ⟨z.1, z.2.1, z.2.2.1, z.2.2.2.1, z.2.2.2.2.1, z.2.2.2.2.2.1, z.2.2.2.2.2.2.1, z.2.2.2.2.2.2.2.1, z.2.2.2.2.2.2.2.2.1, z.2.2.2.2.2.2.2.2.2.1, z.2.2.2.2.2.2.2.2.2.2.1, z.2.2.2.2.2.2.2.2.2.2.2.1, z.2.2.2.2.2.2.2.2.2.2.2.2.1, z.2.2.2.2.2.2.2.2.2.2.2.2.2.1, z.2.2.2.2.2.2.2.2.2.2.2.2.2.2.1, z.2.2.2.2.2.2.2.2.2.2.2.2.2.2.2.1, z.2.2.2.2.2.2.2.2.2.2.2.2.2.2.2.2, rfl, h⟩
def zb18 {T1 T2 T3 T4 T5 T6 T7 T8 T9 T10 T11 T12 T13 T14 T15 T16 T17 T18 ρ : Type} (o : Option (T1 × T2 × T3 × T4 × T5 × T6 × T7 × T8 × T9 × T10 × T11 × T12 × T13 × T14 × T15 × T16 × T17 × T18)) (k : T1 → T2 → T3 → T4 → T5 → T6 → T7 → T8 → T9 → T10 → T11 → T12 → T13 → T14 → T15 → T16 → T17 → T18 → Option ρ) : Option ρ := o.bind fun z => k z.1 z.2.1 z.2.2.1 z.2.2.2.1 z.2.2.2.2.1 z.2.2.2.2.2.1 z.2.2.2.2.2.2.1 z.2.2.2.2.2.2.2.1 z.2.2.2.2.2.2.2.2.1 z.2.2.2.2.2.2.2.2.2.1 z.2.2.2.2.2.2.2.2.2.2.1 z.2.2.2.2.2.2.2.2.2.2.2.1 z.2.2.2.2.2.2.2.2.2.2.2.2.1 z.2.2.2.2.2.2.2.2.2.2.2.2.2.1 z.2.2.2.2.2.2.2.2.2.2.2.2.2.2.1 z.2.2.2.2.2.2.2.2.2.2.2.2.2.2.2.1 z.2.2.2.2.2.2.2.2.2.2.2.2.2.2.2.2.1 z.2.2.2.2.2.2.2.2.2.2.2.2.2.2.2.2.2
theorem zb18_some {T1 T2 T3 T4 T5 T6 T7 T8 T9 T10 T11 T12 T13 T14 T15 T16 T17 T18 ρ : Type} {o : Option (T1 × T2 × T3 × T4 × T5 × T6 × T7 × T8 × T9 × T10 × T11 × T12 × T13 × T14 × T15 × T16 × T17 × T18)} {k : T1 → T2 → T3 → T4 → T5 → T6 → T7 → T8 → T9 → T10 → T11 → T12 → T13 → T14 → T15 → T16 → T17 → T18 → Option ρ} {r : ρ} (h : zb18 o k = some r) : ∃ x1 x2 x3 x4 x5 x6 x7 x8 x9 x10 x11 x12 x13 x14 x15 x16 x17 x18, o = some (x1, x2, x3, x4, x5, x6, x7, x8, x9, x10, x11, x12, x13, x14, x15, x16, x17, x18) ∧ k x1 x2 x3 x4 x5 x6 x7 x8 x9 x10 x11 x12 x13 x14 x15 x16 x17 x18 = some r := by
  cases o with
  | none => cases h
  | some z => exact ⟨z.1, z.2.1, z.2.2.1, z.2.2.2.1, z.2.2.2.2.1, z.2.2.2.2.2.1, z.2.2.2.2.2.2.1, z.2.2.2.2.2.2.2.1, z.2.2.2.2.2.2.2.2.1, z.2.2.2.2.2.2.2.2.2.1, z.2.2.2.2.2.2.2.2.2.2.1, z.2.2.2.2.2.2.2.2.2.2.2.1, z.2.2.2.2.2.2.2.2.2.2.2.2.1, z.2.2.2.2.2.2.2.2.2.2.2.2.2.1, z.2.2.2.2.2.2.2.2.2.2.2.2.2.2.1, z.2.2.2.2.2.2.2.2.2.2.2.2.2.2.2.1, z.2.2.2.2.2.2.2.2.2.2.2.2.2.2.2.2.1, z.2.2.2.2.2.2.2.2.2.2.2.2.2.2.2.2.2, rfl, h⟩
def zb19 {T1 T2 T3 T4 T5 T6 T7 T8 T9 T10 T11 T12 T13 T14 T15 T16 T17 T18 T19 ρ : Type} (o : Option (T1 × T2 × T3 × T4 × T5 × T6 × T7 × T8 × T9 × T10 × T11 × T12 × T13 × T14 × T15 × T16 × T17 × T18 × T19)) (k : T1 → T2 → T3 → T4 → T5 → T6 → T7 → T8 → T9 → T10 → T11 → T12 → T13 → T14 → T15 → T16 → T17 → T18 → T19 → Option ρ) : Option ρ := o.bind fun z => k z.1 z.2.1 z.2.2.1 z.2.2.2.1 z.2.2.2.2.1 z.2.2.2.2.2.1 z.2.2.2.2.2.2.1 z.2.2.2.2.2.2.2.1 z.2.2.2.2.2.2.2.2.1 z.2.2.2.2.2.2.2.2.2.1 z.2.2.2.2.2.2.2.2.2.2.1 z.2.2.2.2.2.2.2.2.2.2.2.1 z.2.2.2.2.2.2.2.2.2.2.2.2.1 z.2.2.2.2.2.2.2.2.2.2.2.2.2.1 z.2.2.2.2.2.2.2.2.2.2.2.2.2.2.1 z.2.2.2.2.2.2.2.2.2.2.2.2.2.2.2.1 z.2.2.2.2.2.2.2.2.2.2.2.2.2.2.2.2.1 z.2.2.2.2.2.2.2.2.2.2.2.2.2.2.2.2.2.1 z.2.2.2.2.2.2.2.2.2.2.2.2.2.2.2.2.2.2
theorem zb19_some {T1 T2 T3 T4 T5 T6 T7 T8 T9 T10 T11 T12 T13 T14 T15 T16 T17 T18 T19 ρ : Type} {o : Option (T1 × T2 × T3 × T4 × T5 × T6 × T7 × T8 × T9 × T10 × T11 × T12 × T13 × T14 × T15 × T16 × T17 × T18 × T19)} {k : T1 → T2 → T3 → T4 → T5 → T6 → T7 → T8 → T9 → T10 → T11 → T12 → T13 → T14 → T15 → T16 → T17 → T18 → T19 → Option ρ} {r : ρ} (h : zb19 o k = some r) : ∃ x1 x2 x3 x4 x5 x6 x7 x8 x9 x10 x11 x12 x13 x14 x15 x16 x17 x18 x19, o = some (x1, x2, x3, x4, x5, x6, x7, x8, x9, x10, x11, x12, x13, x14, x15, x16, x17, x18, x19) ∧ k x1 x2 x3 x4 x5 x6 x7 x8 x9 x10 x11 x12 x13 x14 x15 x16 x17 x18 x19 = some r := by
  cases o with
  | none => cases h
  | some z => exact ⟨z.1, z.2.1, z.2.2.1, z.2.2.2.1, z.2.2.2.2.1, z.2.2.2.2.2.1, z.2.2.2.2.2.2.1, z.2.2.2.2.2.2.2.1, z.2.2.2.2.2.2.2.2.1, z.2.2.2.2.2.2.2.2.2.1, z.2.2.2.2.2.2.2.2.2.2.1, z.2.2.2.2.2.2.2.2.2.2.2.1, z.2.2.2.2.2.2.2.2.2.2.2.2.1, z.2.2.2.2.2.2.2.2.2.2.2.2.2.1, z.2.2.2.2.2.2.2.2.2.2.2.2.2.2.1, z.2.2.2.2.2.2.2.2.2.2.2.2.2.2.2.1, z.2.2.2.2.2.2.2.2.2.2.2.2.2.2.2.2.1, z.2.2.2.2.2.2.2.2.2.2.2.2.2.2.2.2.2.1, z.2.2.2.2.2.2.2.2.2.2.2.2.2.2.2.2.2.2, rfl, h⟩
def zb20 {T1 T2 T3 T4 T5 T6 T7 T8 T9 T10 T11 T12 T13 T14 T15 T16 T17 T18 T19 T20 ρ : Type} (o : Option (T1 × T2 × T3 × T4 × T5 × T6 × T7 × T8 × T9 × T10 × T11 × T12 × T13 × T14 × T15 × T16 × T17 × T18 × T19 × T20)) (k : T1 → T2 → T3 → T4 → T5 → T6 → T7 → T8 → T9 → T10 → T11 → T12 → T13 → T14 → T15 → T16 → T17 → T18 → T19 → T20 → Option ρ) : Option ρ := o.bind fun z => k z.1 z.2.1 z.2.2.1 z.2.2.2.1 z.2.2.2.2.1 z.2.2.2.2.2.1 z.2.2.2.2.2.2.1 z.2.2.2.2.2.2.2.1 z.2.2.2.2.2.2.2.2.1 z.2.2.2.2.2.2.2.2.2.1 z.2.2.2.2.2.2.2.2.2.2.1 z.2.2.2.2.2.2.2.2.2.2.2.1 z.2.2.2.2.2.2.2.2.2.2.2.2.1 z.2.2.2.2.2.2.2.2.2.2.2.2.2.1 z.2.2.2.2.2.2.2.2.2.2.2.2.2.2.1 z.2.2.2.2.2.2.2.2.2.2.2.2.2.2.2.1 z.2.2.2.2.2.2.2.2.2.2.2.2.2.2.2.2.1 z.2.2.2.2.2.2.2.2.2.2.2.2.2.2.2.2.2.1 z.2.2.2.2.2.2.2.2.2.2.2.2.2.2.2.2.2.2.1 z.2.2.2.2.2.2.2.2.2.2.2.2.2.2.2.2.2.2.2
theorem zb20_some {T1 T2 T3 T4 T5 T6 T7 T8 T9 T10 T11 T12 T13 T14 T15 T16 T17 T18 T19 T20 ρ : Type} {o : Option (T1 × T2 × T3 × T4 × T5 × T6 × T7 × T8 × T9 × T10 × T11 × T12 × T13 × T14 × T15 × T16 × T17 × T18 × T19 × T20)} {k : T1 → T2 → T3 → T4 → T5 → T6 → T7 → T8 → T9 → T10 → T11 → T12 → T13 → T14 → T15 → T16 → T17 → T18 → T19 → T20 → Option ρ} {r : ρ} (h : zb20 o k = some r) : ∃ x1 x2 x3 x4 x5 x6 x7 x8 x9 x10 x11 x12 x13 x14 x15 x16 x17 x18 x19 x20, o = some (x1, x2, x3, x4, x5, x6, x7, x8, x9, x10, x11, x12, x13, x14, x15, x16, x17, x18, x19, x20) ∧ k x1 x2 x3 x4 x5 x6 x7 x8 x9 x10 x11 x12 x13 x14 x15 x16 x17 x18 x19 x20 = some r := by
  cases o with
  | none => cases h
  | some z => exact ⟨z.1, z.2.1, z.2.2.1, z.2.2.2.1, z.2.2.2.2.1, z.2.2.2.2.2.1, z.2.2.2.2.2.2.1, z.2.2.2.2.2.2.2.1, z.2.2.2.2.2.2.2.2.1, z.2.2.2.2.2.2.2.2.2.1, z.2.2.2.2.2.2.2.2.2.2.1, z.2.2.2.2.2.2.2.2.2.2.2.1, z.2.2.2.2.2.2.2.2.2.2.2.2.1, z.2.2.2.2.2.2.2.2.2.2.2.2.2.1, z.2.2.2.2.2.2.2.2.2.2.2.2.2.2.1, z.2.2.2.2.2.2.2.2.2.2.2.2.2.2.2.1, z.2.2.2.2.2.2.2.2.2.2.2.2.2.2.2.2.1, z.2.2.2.2.2.2.2.2.2.2.2.2.2.2.2.2.2.1, z.2.2.2.2.2.2.2.2.2.2.2.2.2.2.2.2.2.2.1, z.2.2.2.2.2.2.2.2.2.2.2.2.2.2.2.2.2.2.2, rfl, h⟩
def zb21 {T1 T2 T3 T4 T5 T6 T7 T8 T9 T10 T11 T12 T13 T14 T15 T16 T17 T18 T19 T20 T21 ρ : Type} (o : Option (T1 × T2 × T3 × T4 × T5 × T6 × T7 × T8 × T9 × T10 × T11 × T12 × T13 × T14 × T15 × T16 × T17 × T18 × T19 × T20 × T21)) (k : T1 → T2 → T3 → T4 → T5 → T6 → T7 → T8 → T9 → T10 → T11 → T12 → T13 → T14 → T15 → T16 → T17 → T18 → T19 → T20 → T21 → Option ρ) : Option ρ := o.bind fun z => k z.1 z.2.1 z.2.2.1 z.2.2.2.1 z.2.2.2.2.1 z.2.2.2.2.2.1 z.2.2.2.2.2.2.1 z.2.2.2.2.2.2.2.1 z.2.2.2.2.2.2.2.2.1 z.2.2.2.2.2.2.2.2.2.1 z.2.2.2.2.2.2.2.2.2.2.1 z.2.2.2.2.2.2.2.2.2.2.2.1 z.2.2.2.2.2.2.2.2.2.2.2.2.1 z.2.2.2.2.2.2.2.2.2.2.2.2.2.1 z.2.2.2.2.2.2.2.2.2.2.2.2.2.2.1 z.2.2.2.2.2.2.2.2.2.2.2.2.2.2.2.1 z.2.2.2.2.2.2.2.2.2.2.2.2.2.2.2.2.1 z.2.2.2.2.2.2.2.2.2.2.2.2.2.2.2.2.2.1 z.2.2.2.2.2.2.2.2.2.2.2.2.2.2.2.2.2.2.1 z.2.2.2.2.2.2.2.2.2.2.2.2.2.2.2.2.2.2.2.1 z.2.2.2.2.2.2.2.2.2.2.2.2.2.2.2.2.2.2.2.2
theorem zb21_some {T1 T2 T3 T4 T5 T6 T7 T8 T9 T10 T11 T12 T13 T14 T15 T16 T17 T18 T19 T20 T21 ρ : Type} {o : Option (T1 × T2 × T3 × T4 × T5 × T6 × T7 × T8 × T9 × T10 × T11 × T12 × T13 × T14 × T15 × T16 × T17 × T18 × T19 × T20 × T21)} {k : T1 → T2 → T3 → T4 → T5 → T6 → T7 → T8 → T9 → T10 → T11 → T12 → T13 → T14 → T15 → T16 → T17 → T18 → T19 → T20 → T21 → Option ρ} {r : ρ} (h : zb21 o k = some r) : ∃ x1 x2 x3 x4 x5 x6 x7 x8 x9 x10 x11 x12 x13 x14 x15 x16 x17 x18 x19 x20 x21, o = some (x1, x2, x3, x4, x5, x6, x7, x8, x9, x10, x11, x12, x13, x14, x15, x16, x17, x18, x19, x20, x21) ∧ k x1 x2 x3 x4 x5 x6 x7 x8 x9 x10 x11 x12 x13 x14 x15 x16 x17 x18 x19 x20 x21 = some r := by
  cases o with
  | none => cases h
  | some z => exact ⟨z.1, z.2.1, z.2.2.1, z.2.2.2.1, z.2.2.2.2.1, z.2.2.2.2.2.1, z.2.2.2.2.2.2.1, z.2.2.2.2.2.2.2.1, z.2.2.2.2.2.2.2.2.1, z.2.2.2.2.2.2.2.2.2.1, z.2.2.2.2.2.2.2.2.2.2.1, z.2.2.2.2.2.2.2.2.2.2.2.1, z.2.2.2.2.2.2.2.2.2.2.2.2.1, z.2.2.2.2.2.2.2.2.2.2.2.2.2.1, z.2.2.2.2.2.2.2.2.2.2.2.2.2.2.1, z.2.2.2.2.2.2.2.2.2.2.2.2.2.2.2.1, z.2.2.2.2.2.2.2.2.2.2.2.2.2.2.2.2.1, z.2.2.2.2.2.2.2.2.2.2.2.2.2.2.2.2.2.1, z.2.2.2.2.2.2.2.2.2.2.2.2.2.2.2.2.2.2.1, z.2.2.2.2.2.2.2.2.2.2.2.2.2.2.2.2.2.2.2.1, z.2.2.2.2.2.2.2.2.2.2.2.2.2.2.2.2.2.2.2.2, rfl, h⟩
def zb22 {T1 T2 T3 T4 T5 T6 T7 T8 T9 T10 T11 T12 T13 T14 T15 T16 T17 T18 T19 T20 T21 T22 ρ : Type} (o : Option (T1 × T2 × T3 × T4 × T5 × T6 × T7 × T8 × T9 × T10 × T11 × T12 × T13 × T14 × T15 × T16 × T17 × T18 × T19 × T20 × T21 × T22)) (k : T1 → T2 → T3 → T4 → T5 → T6 → T7 → T8 → T9 → T10 → T11 → T12 → T13 → T14 → T15 → T16 → T17 → T18 → T19 → T20 → T21 → T22 → Option ρ) : Option ρ := o.bind fun z => k z.1 z.2.1 z.2.2.1 z.2.2.2.1 z.2.2.2.2.1 z.2.2.2.2.2.1 z.2.2.2.2.2.2.1 z.2.2.2.2.2.2.2.1 z.2.2.2.2.2.2.2.2.1 z.2.2.2.2.2.2.2.2.2.1 z.2.2.2.2.2.2.2.2.2.2.1 z.2.2.2.2.2.2.2.2.2.2.2.1 z.2.2.2.2.2.2.2.2.2.2.2.2.1 z.2.2.2.2.2.2.2.2.2.2.2.2.2.1 z.2.2.2.2.2.2.2.2.2.2.2.2.2.2.1 z.2.2.2.2.2.2.2.2.2.2.2.2.2.2.2.1 z.2.2.2.2.2.2.2.2.2.2.2.2.2.2.2.2.1 z.2.2.2.2.2.2.2.2.2.2.2.2.2.2.2.2.2.1 z.2.2.2.2.2.2.2.2.2.2.2.2.2.2.2.2.2.2.1 z.2.2.2.2.2.2.2.2.2.2.2.2.2.2.2.2.2.2.2.1 z.2.2.2.2.2.2.2.2.2.2.2.2.2.2.2.2.2.2.2.2.1 z.2.2.2.2.2.2.2.2.2.2.2.2.2.2.2.2.2.2.2.2.2
theorem zb22_some {T1 T2 T3 T4 T5 T6 T7 T8 T9 T10 T11 T12 T13 T14 T15 T16 T17 T18 T19 T20 T21 T22 ρ : Type} {o : Option (T1 × T2 × T3 × T4 × T5 × T6 × T7 × T8 × T9 × T10 × T11 × T12 × T13 × T14 × T15 × T16 × T17 × T18 × T19 × T20 × T21 × T22)} {k : T1 → T2 → T3 → T4 → T5 → T6 → T7 → T8 → T9 → T10 → T11 → T12 → T13 → T14 → T15 → T16 → T17 → T18 → T19 → T20 → T21 → T22 → Option ρ} {r : ρ} (h : zb22 o k = some r) : ∃ x1 x2 x3 x4 x5 x6 x7 x8 x9 x10 x11 x12 x13 x14 x15 x16 x17 x18 x19 x20 x21 x22, o = some (x1, x2, x3, x4, x5, x6, x7, x8, x9, x10, x11, x12, x13, x14, x15, x16, x17, x18, x19, x20, x21, x22) ∧ k x1 x2 x3 x4 x5 x6 x7 x8 x9 x10 x11 x12 x13 x14 x15 x16 x17 x18 x19 x20 x21 x22 = some r := by
  cases o with
  | none => cases h
  | some z => exact ⟨z.1, z.2.1, z.2.2.1, z.2.2.2.1, z.2.2.2.2.1, z.2.2.2.2.2.1, z.2.2.2.2.2.2.1, z.2.2.2.2.2.2.2.1, z.2.2.2.2.2.2.2.2.1, z.2.2.2.2.2.2.2.2.2.1, z.2.2.2.2.2.2.2.2.2.2.1, z.2.2.2.2.2.2.2.2.2.2.2.1, z.2.2.2.2.2.2.2.2.2.2.2.2.1, z.2.2.2.2.2.2.2.2.2.2.2.2.2.1, z.2.2.2.2.2.2.2.2.2.2.2.2.2.2.1, z.2.2.2.2.2.2.2.2.2.2.2.2.2.2.2.1, z.2.2.2.2.2.2.2.2.2.2.2.2.2.2.2.2.1, z.2.2.2.2.2.2.2.2.2.2.2.2.2.2.2.2.2.1, z.2.2.2.2.2.2.2.2.2.2.2.2.2.2.2.2.2.2.1, z.2.2.2.2.2.2.2.2.2.2.2.2.2.2.2.2.2.2.2.1, z.2.2.2.2.2.2.2.2.2.2.2.2.2.2.2.2.2.2.2.2.1, z.2.2.2.2.2.2.2.2.2.2.2.2.2.2.2.2.2.2.2.2.2, rfl, h⟩
def zb23 {T1 T2 T3 T4 T5 T6 T7 T8 T9 T10 T11 T12 T13 T14 T15 T16 T17 T18 T19 T20 T21 T22 T23 ρ : Type} (o : Option (T1 × T2 × T3 × T4 × T5 × T6 × T7 × T8 × T9 × T10 × T11 × T12 × T13 × T14 × T15 × T16 × T17 × T18 × T19 × T20 × T21 × T22 × T23)) (k : T1 → T2 → T3 → T4 → T5 → T6 → T7 → T8 → T9 → T10 → T11 → T12 → T13 → T14 → T15 → T16 → T17 → T18 → T19 → T20 → T21 → T22 → T23 → Option ρ) : Option ρ := o.bind fun z => k z.1 z.2.1 z.2.2.1 z.2.2.2.1 z.2.2.2.2.1 z.2.2.2.2.2.1 z.2.2.2.2.2.2.1 z.2.2.2.2.2.2.2.1 z.2.2.2.2.2.2.2.2.1 z.2.2.2.2.2.2.2.2.2.1 z.2.2.2.2.2.2.2.2.2.2.1 z.2.2.2.2.2.2.2.2.2.2.2.1 z.2.2.2.2.2.2.2.2.2.2.2.2.1 z.2.2.2.2.2.2.2.2.2.2.2.2.2.1 z.2.2.2.2.2.2.2.2.2.2.2.2.2.2.1 z.2.2.2.2.2.2.2.2.2.2.2.2.2.2.2.1 z.2.2.2.2.2.2.2.2.2.2.2.2.2.2.2.2.1 z.2.2.2.2.2.2.2.2.2.2.2.2.2.2.2.2.2.1 z.2.2.2.2.2.2.2.2.2.2.2.2.2.2.2.2.2.2.1 z.2.2.2.2.2.2.2.2.2.2.2.2.2.2.2.2.2.2.2.1 z.2.2.2.2.2.2.2.2.2.2.2.2.2.2.2.2.2.2.2.2.1 z.2.2.2.2.2.2.2.2.2.2.2.2.2.2.2.2.2.2.2.2.2.1 z.2.2.2.2.2.2.2.2.2.2.2.2.2.2.2.2.2.2.2.2.2.2
theorem zb23_some {T1 T2 T3 T4 T5 T6 T7 T8 T9 T10 T11 T12 T13 T14 T15 T16 T17 T18 T19 T20 T21 T22 T23 ρ : Type} {o : Option (T1 × T2 × T3 × T4 × T5 × T6 × T7 × T8 × T9 × T10 × T11 × T12 × T13 × T14 × T15 × T16 × T17 × T18 × T19 × T20 × T21 × T22 × T23)} {k : T1 → T2 → T3 → T4 → T5 → T6 → T7 → T8 → T9 → T10 → T11 → T12 → T13 → T14 → T15 → T16 → T17 → T18 → T19 → T20 → T21 → T22 → T23 → Option ρ} {r : ρ} (h : zb23 o k = some r) : ∃ x1 x2 x3 x4 x5 x6 x7 x8 x9 x10 x11 x12 x13 x14 x15 x16 x17 x18 x19 x20 x21 x22 x23, o = some (x1, x2, x3, x4, x5, x6, x7, x8, x9, x10, x11, x12, x13, x14, x15, x16, x17, x18, x19, x20, x21, x22, x23) ∧ k x1 x2 x3 x4 x5 x6 x7 x8 x9 x10 x11 x12 x13 x14 x15 x16 x17 x18 x19 x20 x21 x22 x23 = some r := by
  cases o with
  | none => cases h
  | some z => exact ⟨z.1, z.2.1, z.2.2.1, z.2.2.2.1, z.2.2.2.2.1, z.2.2.2.2.2.1, z.2.2.2.2.2.2.1, z.2.2.2.2.2.2.2.1, z.2.2.2.2.2.2.2.2.1, z.2.2.2.2.2.2.2.2.2.1, z.2.2.2.2.2.2.2.2.2.2.1, z.2.2.2.2.2.2.2.2.2.2.2.1, z.2.2.2.2.2.2.2.2.2.2.2.2.1, z.2.2.2.2.2.2.2.2.2.2.2.2.2.1, z.2.2.2.2.2.2.2.2.2.2.2.2.2.2.1, z.2.2.2.2.2.2.2.2.2.2.2.2.2.2.2.1, z.2.2.2.2.2.2.2.2.2.2.2.2.2.2.2.2.1, z.2.2.2.2.2.2.2.2.2.2.2.2.2.2.2.2.2.1, z.2.2.2.2.2.2.2.2.2.2.2.2.2.2.2.2.2.2.1, z.2.2.2.2.2.2.2.2.2.2.2.2.2.2.2.2.2.2.2.1, z.2.2.2.2.2.2.2.2.2.2.2.2.2.2.2.2.2.2.2.2.1, z.2.2.2.2.2.2.2.2.2.2.2.2.2.2.2.2.2.2.2.2.2.1, z.2.2.2.2.2.2.2.2.2.2.2.2.2.2.2.2.2.2.2.2.2.2, rfl, h⟩
def zb24 {T1 T2 T3 T4 T5 T6 T7 T8 T9 T10 T11 T12 T13 T14 T15 T16 T17 T18 T19 T20 T21 T22 T23 T24 ρ : Type} (o : Option (T1 × T2 × T3 × T4 × T5 × T6 × T7 × T8 × T9 × T10 × T11 × T12 × T13 × T14 × T15 × T16 × T17 × T18 × T19 × T20 × T21 × T22 × T23 × T24)) (k : T1 → T2 → T3 → T4 → T5 → T6 → T7 → T8 → T9 → T10 → T11 → T12 → T13 → T14 → T15 → T16 → T17 → T18 → T19 → T20 → T21 → T22 → T23 → T24 → Option ρ) : Option ρ := o.bind fun z => k z.1 z.2.1 z.2.2.1 z.2.2.2.1 z.2.2.2.2.1 z.2.2.2.2.2.1 z.2.2.2.2.2.2.1 z.2.2.2.2.2.2.2.1 z.2.2.2.2.2.2.2.2.1 z.2.2.2.2.2.2.2.2.2.1 z.2.2.2.2.2.2.2.2.2.2.1 z.2.2.2.2.2.2.2.2.2.2.2.1 z.2.2.2.2.2.2.2.2.2.2.2.2.1 z.2.2.2.2.2.2.2.2.2.2.2.2.2.1 z.2.2.2.2.2.2.2.2.2.2.2.2.2.2.1 z.2.2.2.2.2.2.2.2.2.2.2.2.2.2.2.1 z.2.2.2.2.2.2.2.2.2.2.2.2.2.2.2.2.1 z.2.2.2.2.2.2.2.2.2.2.2.2.2.2.2.2.2.1 z.2.2.2.2.2.2.2.2.2.2.2.2.2.2.2.2.2.2.1 z.2.2.2.2.2.2.2.2.2.2.2.2.2.2.2.2.2.2.2.1 z.2.2.2.2.2.2.2.2.2.2.2.2.2.2.2.2.2.2.2.2.1 z.2.2.2.2.2.2.2.2.2.2.2.2.2.2.2.2.2.2.2.2.2.1 z.2.2.2.2.2.2.2.2.2.2.2.2.2.2.2.2.2.2.2.2.2.2.1 z.2.2.2.2.2.2.2.2.2.2.2.2.2.2.2.2.2.2.2.2.2.2.2
theorem zb24_some {T1 T2 T3 T4 T5 T6 T7 T8 T9 T10 T11 T12 T13 T14 T15 T16 T17 T18 T19 T20 T21 T22 T23 T24 ρ : Type} {o : Option (T1 × T2 × T3 × T4 × T5 × T6 × T7 × T8 × T9 × T10 × T11 × T12 × T13 × T14 × T15 × T16 × T17 × T18 × T19 × T20 × T21 × T22 × T23 × T24)} {k : T1 → T2 → T3 → T4 → T5 → T6 → T7 → T8 → T9 → T10 → T11 → T12 → T13 → T14 → T15 → T16 → T17 → T18 → T19 → T20 → T21 → T22 → T23 → T24 → Option ρ} {r : ρ} (h : zb24 o k = some r) : ∃ x1 x2 x3 x4 x5 x6 x7 x8 x9 x10 x11 x12 x13 x14 x15 x16 x17 x18 x19 x20 x21 x22 x23 x24, o = some (x1, x2, x3, x4, x5, x6, x7, x8, x9, x10, x11, x12, x13, x14, x15, x16, x17, x18, x19, x20, x21, x22, x23, x24) ∧ k x1 x2 x3 x4 x5 x6 x7 x8 x9 x10 x11 x12 x13 x14 x15 x16 x17 x18 x19 x20 x21 x22 x23 x24 = some r := by
  cases o with
  | none => cases h
  | some z => exact ⟨z.1, z.2.1, z.2.2.1, z.2.2.2.1, z.2.2.2.2.1, z.2.2.2.2.2.1, z.2.2.2.2.2.2.1, z.2.2.2.2.2.2.2.1, z.2.2.2.2.2.2.2.2.1, z.2.2.2.2.2.2.2.2.2.1, z.2.2.2.2.2.2.2.2.2.2.1, z.2.2.2.2.2.2.2.2.2.2.2.1, z.2.2.2.2.2.2.2.2.2.2.2.2.1, z.2.2.2.2.2.2.2.2.2.2.2.2.2.1, z.2.2.2.2.2.2.2.2.2.2.2.2.2.2.1, z.2.2.2.2.2.2.2.2.2.2.2.2.2.2.2.1, z.2.2.2.2.2.2.2.2.2.2.2.2.2.2.2.2.1, z.2.2.2.2.2.2.2.2.2.2.2.2.2.2.2.2.2.1, z.2.2.2.2.2.2.2.2.2.2.2.2.2.2.2.2.2.2.1, z.2.2.2.2.2.2.2.2.2.2.2.2.2.2.2.2.2.2.2.1, z.2.2.2.2.2.2.2.2.2.2.2.2.2.2.2.2.2.2.2.2.1, z.2.2.2.2.2.2.2.2.2.2.2.2.2.2.2.2.2.2.2.2.2.1, z.2.2.2.2.2.2.2.2.2.2.2.2.2.2.2.2.2.2.2.2.2.2.1, z.2.2.2.2.2.2.2.2.2.2.2.2.2.2.2.2.2.2.2.2.2.2.2, rfl, h⟩
def zbs0 {R ρ : Type} (o : Option (Unit ⊕ R)) (k : Option ρ) (k2 : R → Option ρ) : Option ρ := o.bind fun z => match z with
  | .inl _ => k
  | .inr q => k2 q
theorem zbs0_some {R ρ : Type} {o : Option (Unit ⊕ R)} {k : Option ρ} {k2 : R → Option ρ} {r : ρ} (h : zbs0 o k k2 = some r) : ∃ z, o = some z ∧ (z = .inl () → k = some r) ∧ ∀ q, z = .inr q → k2 q = some r := by
  cases o with
  | none => cases h
  | some z =>
    cases z with
    | inl q => exact ⟨_, rfl, fun _ => h, fun q e => by cases e⟩
    | inr q => exact ⟨_, rfl, (fun e => by cases e), fun q2 e => by cases e; exact h⟩
def zbs1 {T1 R ρ : Type} (o : Option ((T1) ⊕ R)) (k : T1 → Option ρ) (k2 : R → Option ρ) : Option ρ := o.bind fun z => match z with
  | .inl q => k q
  | .inr q => k2 q
theorem zbs1_some {T1 R ρ : Type} {o : Option ((T1) ⊕ R)} {k : T1 → Option ρ} {k2 : R → Option ρ} {r : ρ} (h : zbs1 o k k2 = some r) : ∃ z, o = some z ∧ (∀ x1, z = .inl (x1) → k x1 = some r) ∧ ∀ q, z = .inr q → k2 q = some r := by
  cases o with
  | none => cases h
  | some z =>
    cases z with
    | inl q => exact ⟨_, rfl, fun x1 e => by cases e; exact h, fun q e => by cases e⟩
    | inr q => exact ⟨_, rfl, (fun x1 e => by cases e), fun q2 e => by cases e; exact h⟩
def zbs2 {T1 T2 R ρ : Type} (o : Option ((T1 × T2) ⊕ R)) (k : T1 → T2 → Option ρ) (k2 : R → Option ρ) : Option ρ := o.bind fun z => match z with
  | .inl q => k q.1 q.2
  | .inr q => k2 q
theorem zbs2_some {T1 T2 R ρ : Type} {o : Option ((T1 × T2) ⊕ R)} {k : T1 → T2 → Option ρ} {k2 : R → Option ρ} {r : ρ} (h : zbs2 o k k2 = some r) : ∃ z, o = some z ∧ (∀ x1 x2, z = .inl (x1, x2) → k x1 x2 = some r) ∧ ∀ q, z = .inr q → k2 q = some r := by
  cases o with
  | none => cases h
  | some z =>
    cases z with
    | inl q => exact ⟨_, rfl, fun x1 x2 e => by cases e; exact h, fun q e => by cases e⟩
    | inr q => exact ⟨_, rfl, (fun x1 x2 e => by cases e), fun q2 e => by cases e; exact h⟩
def zbs3 {T1 T2 T3 R ρ : Type} (o : Option ((T1 × T2 × T3) ⊕ R)) (k : T1 → T2 → T3 → Option ρ) (k2 : R → Option ρ) : Option ρ := o.bind fun z => match z with
  | .inl q => k q.1 q.2.1 q.2.2
  | .inr q => k2 q
theorem zbs3_some {T1 T2 T3 R ρ : Type} {o : Option ((T1 × T2 × T3) ⊕ R)} {k : T1 → T2 → T3 → Option ρ} {k2 : R → Option ρ} {r : ρ} (h : zbs3 o k k2 = some r) : ∃ z, o = some z ∧ (∀ x1 x2 x3, z = .inl (x1, x2, x3) → k x1 x2 x3 = some r) ∧ ∀ q, z = .inr q → k2 q = some r := by
  cases o with
  | none => cases h
  | some z =>
    cases z with
    | inl q => exact ⟨_, rfl, fun x1 x2 x3 e => by cases e; exact h, fun q e => by cases e⟩
    | inr q => exact ⟨_, rfl, (fun x1 x2 x3 e => by cases e), fun q2 e => by cases e; exact h⟩
def zbs4 {T1 T2 T3 T4 R ρ : Type} (o : Option ((T1 × T2 × T3 × T4) ⊕ R)) (k : T1 → T2 → T3 → T4 → Option ρ) (k2 : R → Option ρ) : Option ρ := o.bind fun z => match z with
  | .inl q => k q.1 q.2.1 q.2.2.1 q.2.2.2
  | .inr q => k2 q
theorem zbs4_some {T1 T2 T3 T4 R ρ : Type} {o : Option ((T1 × T2 × T3 × T4) ⊕ R)} {k : T1 → T2 → T3 → T4 → Option ρ} {k2 : R → Option ρ} {r : ρ} (h : zbs4 o k k2 = some r) : ∃ z, o = some z ∧ (∀ x1 x2 x3 x4, z = .inl (x1, x2, x3, x4) → k x1 x2 x3 x4 = some r) ∧ ∀ q, z = .inr q → k2 q = some r := by
  cases o with
  | none => cases h
  | some z =>
    cases z with
    | inl q => exact ⟨_, rfl, fun x1 x2 x3 x4 e => by cases e; exact h, fun q e => by cases e⟩
    | inr q => exact ⟨_, rfl, (fun x1 x2 x3 x4 e => by cases e), fun q2 e => by cases e; exact h⟩
def zbs5 {T1 T2 T3 T4 T5 R ρ : Type} (o : Option ((T1 × T2 × T3 × T4 × T5) ⊕ R)) (k : T1 → T2 → T3 → T4 → T5 → Option ρ) (k2 : R → Option ρ) : Option ρ := o.bind fun z => match z with
  | .inl q => k q.1 q.2.1 q.2.2.1 q.2.2.2.1 q.2.2.2.2
  | .inr q => k2 q
theorem zbs5_some {T1 T2 T3 T4 T5 R ρ : Type} {o : Option ((T1 × T2 × T3 × T4 × T5) ⊕ R)} {k : T1 → T2 → T3 → T4 → T5 → Option ρ} {k2 : R → Option ρ} {r : ρ} (h : zbs5 o k k2 = some r) : ∃ z, o = some z ∧ (∀ x1 x2 x3 x4 x5, z = .inl (x1, x2, x3, x4, x5) → k x1 x2 x3 x4 x5 = some r) ∧ ∀ q, z = .inr q → k2 q = some r := by
  cases o with
  | none => cases h
  | some z =>
    cases z with
    | inl q => exact ⟨_, rfl, fun x1 x2 x3 x4 x5 e => by cases e; exact h, fun q e => by cases e⟩
    | inr q => exact ⟨_, rfl, (fun x1 x2 x3 x4 x5 e => by cases e), fun q2 e => by cases e; exact h⟩
def zbs6 {T1 T2 T3 T4 T5 T6 R ρ : Type} (o : Option ((T1 × T2 × T3 × T4 × T5 × T6) ⊕ R)) (k : T1 → T2 → T3 → T4 → T5 → T6 → Option ρ) (k2 : R → Option ρ) : Option ρ := o.bind fun z => match z with
  | .inl q => k q.1 q.2.1 q.2.2.1 q.2.2.2.1 q.2.2.2.2.1 q.2.2.2.2.2
  | .inr q => k2 q
theorem zbs6_some {T1 T2 T3 T4 T5 T6 R ρ : Type} {o : Option ((T1 × T2 × T3 × T4 × T5 × T6) ⊕ R)} {k : T1 → T2 → T3 → T4 → T5 → T6 → Option ρ} {k2 : R → Option ρ} {r : ρ} (h : zbs6 o k k2 = some r) : ∃ z, o = some z ∧ (∀ x1 x2 x3 x4 x5 x6, z = .inl (x1, x2, x3, x4, x5, x6) → k x1 x2 x3 x4 x5 x6 = some r) ∧ ∀ q, z = .inr q → k2 q = some r := by
  cases o with
  | none => cases h
  | some z =>
    cases z with
    | inl q => exact ⟨_, rfl, fun x1 x2 x3 x4 x5 x6 e => by cases e; exact h, fun q e => by cases e⟩
    | inr q => exact ⟨_, rfl, (fun x1 x2 x3 x4 x5 x6 e => by cases e), fun q2 e => by cases e; exact h⟩
def zbs7 {T1 T2 T3 T4 T5 T6 T7 R ρ : Type} (o : Option ((T1 × T2 × T3 × T4 × T5 × T6 × T7) ⊕ R)) (k : T1 → T2 → T3 → T4 → T5 → T6 → T7 → Option ρ) (k2 : R → Option ρ) : Option ρ := o.bind fun z => match z with
  | .inl q => k q.1 q.2.1 q.2.2.1 q.2.2.2.1 q.2.2.2.2.1 q.2.2.2.2.2.1 q.2.2.2.2.2.2
  | .inr q => k2 q
theorem zbs7_some {T1 T2 T3 T4 T5 T6 T7 R ρ : Type} {o : Option ((T1 × T2 × T3 × T4 × T5 × T6 × T7) ⊕ R)} {k : T1 → T2 → T3 → T4 → T5 → T6 → T7 → Option ρ} {k2 : R → Option ρ} {r : ρ} (h : zbs7 o k k2 = some r) : ∃ z, o = some z ∧ (∀ x1 x2 x3 x4 x5 x6 x7, z = .inl (x1, x2, x3, x4, x5, x6, x7) → k x1 x2 x3 x4 x5 x6 x7 = some r) ∧ ∀ q, z = .inr q → k2 q = some r := by
  cases o with
  | none => cases h
  | some z =>
    cases z with
    | inl q => exact ⟨_, rfl, fun x1 x2 x3 x4 x5 x6 x7 e => by cases e; exact h, fun q e => by cases e⟩
    | inr q => exact ⟨_, rfl, (fun x1 x2 x3 x4 x5 x6 x7 e => by cases e), fun q2 e => by cases e; exact h⟩
def zbs8 {T1 T2 T3 T4 T5 T6 T7 T8 R ρ : Type} (o : Option ((T1 × T2 × T3 × T4 × T5 × T6 × T7 × T8) ⊕ R)) (k : T1 → T2 → T3 → T4 → T5 → T6 → T7 → T8 → Option ρ) (k2 : R → Option ρ) : Option ρ := o.bind fun z => match z with
  | .inl q => k q.1 q.2.1 q.2.2.1 q.2.2.2.1 q.2.2.2.2.1 q.2.2.2.2.2.1 q.2.2.2.2.2.2.1 q.2.2.2.2.2.2.2
  | .inr q => k2 q
theorem zbs8_some {T1 T2 T3 T4 T5 T6 T7 T8 R ρ : Type} {o : Option ((T1 × T2 × T3 × T4 × T5 × T6 × T7 × T8) ⊕ R)} {k : T1 → T2 → T3 → T4 → T5 → T6 → T7 → T8 → Option ρ} {k2 : R → Option ρ} {r : ρ} (h : zbs8 o k k2 = some r) : ∃ z, o = some z ∧ (∀ x1 x2 x3 x4 x5 x6 x7 x8, z = .inl (x1, x2, x3, x4, x5, x6, x7, x8) → k x1 x2 x3 x4 x5 x6 x7 x8 = some r) ∧ ∀ q, z = .inr q → k2 q = some r := by
  cases o with
  | none => cases h
  | some z =>
    cases z with
    | inl q => exact ⟨_, rfl, fun x1 x2 x3 x4 x5 x6 x7 x8 e => by cases e; exact h, fun q e => by cases e⟩
    | inr q => exact ⟨_, rfl, (fun x1 x2 x3 x4 x5 x6 x7 x8 e => by cases e), fun q2 e => by cases e; exact h⟩
/-- the fuel of every loop: far above what any of them can want -/
def FU : Nat := 5000
theorem zne {x : Int32} {c : Int32} (h : ¬ x = c) {k : Int} (hk : c.toInt = k) : x.toInt ≠ k := fun e => h (Int32.toInt_inj.mp (e.trans hk.symm))
def zbs9 {T1 T2 T3 T4 T5 T6 T7 T8 T9 R ρ : Type} (o : Option ((T1 × T2 × T3 × T4 × T5 × T6 × T7 × T8 × T9) ⊕ R)) (k : T1 → T2 → T3 → T4 → T5 → T6 → T7 → T8 → T9 → Option ρ) (k2 : R → Option ρ) : Option ρ := o.bind fun z => match z with
  | .inl q => k q.1 q.2.1 q.2.2.1 q.2.2.2.1 q.2.2.2.2.1 q.2.2.2.2.2.1 q.2.2.2.2.2.2.1 q.2.2.2.2.2.2.2.1 q.2.2.2.2.2.2.2.2
  | .inr q => k2 q
theorem zbs9_some {T1 T2 T3 T4 T5 T6 T7 T8 T9 R ρ : Type} {o : Option ((T1 × T2 × T3 × T4 × T5 × T6 × T7 × T8 × T9) ⊕ R)} {k : T1 → T2 → T3 → T4 → T5 → T6 → T7 → T8 → T9 → Option ρ} {k2 : R → Option ρ} {r : ρ} (h : zbs9 o k k2 = some r) : ∃ z, o = some z ∧ (∀ x1 x2 x3 x4 x5 x6 x7 x8 x9, z = .inl (x1, x2, x3, x4, x5, x6, x7, x8, x9) → k x1 x2 x3 x4 x5 x6 x7 x8 x9 = some r) ∧ ∀ q, z = .inr q → k2 q = some r := by
  cases o with
  | none => cases h
  | some z =>
    cases z with
    | inl q => exact ⟨_, rfl, fun x1 x2 x3 x4 x5 x6 x7 x8 x9 e => by cases e; exact h, fun q e => by cases e⟩
    | inr q => exact ⟨_, rfl, (fun x1 x2 x3 x4 x5 x6 x7 x8 x9 e => by cases e), fun q2 e => by cases e; exact h⟩
def zbs10 {T1 T2 T3 T4 T5 T6 T7 T8 T9 T10 R ρ : Type} (o : Option ((T1 × T2 × T3 × T4 × T5 × T6 × T7 × T8 × T9 × T10) ⊕ R)) (k : T1 → T2 → T3 → T4 → T5 → T6 → T7 → T8 → T9 → T10 → Option ρ) (k2 : R → Option ρ) : Option ρ := o.bind fun z => match z with
  | .inl q => k q.1 q.2.1 q.2.2.1 q.2.2.2.1 q.2.2.2.2.1 q.2.2.2.2.2.1 q.2.2.2.2.2.2.1 q.2.2.2.2.2.2.2.1 q.2.2.2.2.2.2.2.2.1 q.2.2.2.2.2.2.2.2.2
  | .inr q => k2 q
theorem zbs10_some {T1 T2 T3 T4 T5 T6 T7 T8 T9 T10 R ρ : Type} {o : Option ((T1 × T2 × T3 × T4 × T5 × T6 × T7 × T8 × T9 × T10) ⊕ R)} {k : T1 → T2 → T3 → T4 → T5 → T6 → T7 → T8 → T9 → T10 → Option ρ} {k2 : R → Option ρ} {r : ρ} (h : zbs10 o k k2 = some r) : ∃ z, o = some z ∧ (∀ x1 x2 x3 x4 x5 x6 x7 x8 x9 x10, z = .inl (x1, x2, x3, x4, x5, x6, x7, x8, x9, x10) → k x1 x2 x3 x4 x5 x6 x7 x8 x9 x10 = some r) ∧ ∀ q, z = .inr q → k2 q = some r := by
  cases o with
  | none => cases h
  | some z =>
    cases z with
    | inl q => exact ⟨_, rfl, fun x1 x2 x3 x4 x5 x6 x7 x8 x9 x10 e => by cases e; exact h, fun q e => by cases e⟩
    | inr q => exact ⟨_, rfl, (fun x1 x2 x3 x4 x5 x6 x7 x8 x9 x10 e => by cases e), fun q2 e => by cases e; exact h⟩
def zbs11 {T1 T2 T3 T4 T5 T6 T7 T8 T9 T10 T11 R ρ : Type} (o : Option ((T1 × T2 × T3 × T4 × T5 × T6 × T7 × T8 × T9 × T10 × T11) ⊕ R)) (k : T1 → T2 → T3 → T4 → T5 → T6 → T7 → T8 → T9 → T10 → T11 → Option ρ) (k2 : R → Option ρ) : Option ρ := o.bind fun z => match z with
  | .inl q => k q.1 q.2.1 q.2.2.1 q.2.2.2.1 q.2.2.2.2.1 q.2.2.2.2.2.1 q.2.2.2.2.2.2.1 q.2.2.2.2.2.2.2.1 q.2.2.2.2.2.2.2.2.1 q.2.2.2.2.2.2.2.2.2.1 q.2.2.2.2.2.2.2.2.2.2
  | .inr q => k2 q
theorem zbs11_some {T1 T2 T3 T4 T5 T6 T7 T8 T9 T10 T11 R ρ : Type} {o : Option ((T1 × T2 × T3 × T4 × T5 × T6 × T7 × T8 × T9 × T10 × T11) ⊕ R)} {k : T1 → T2 → T3 → T4 → T5 → T6 → T7 → T8 → T9 → T10 → T11 → Option ρ} {k2 : R → Option ρ} {r : ρ} (h : zbs11 o k k2 = some r) : ∃ z, o = some z ∧ (∀ x1 x2 x3 x4 x5 x6 x7 x8 x9 x10 x11, z = .inl (x1, x2, x3, x4, x5, x6, x7, x8, x9, x10, x11) → k x1 x2 x3 x4 x5 x6 x7 x8 x9 x10 x11 = some r) ∧ ∀ q, z = .inr q → k2 q = some r := by
  cases o with
  | none => cases h
  | some z =>
    cases z with
    | inl q => exact ⟨_, rfl, fun x1 x2 x3 x4 x5 x6 x7 x8 x9 x10 x11 e => by cases e; exact h, fun q e => by cases e⟩
    | inr q => exact ⟨_, rfl, (fun x1 x2 x3 x4 x5 x6 x7 x8 x9 x10 x11 e => by cases e), fun q2 e => by cases e; exact h⟩
def zbs12 {T1 T2 T3 T4 T5 T6 T7 T8 T9 T10 T11 T12 R ρ : Type} (o : Option ((T1 × T2 × T3 × T4 × T5 × T6 × T7 × T8 × T9 × T10 × T11 × T12) ⊕ R)) (k : T1 → T2 → T3 → T4 → T5 → T6 → T7 → T8 → T9 → T10 → T11 → T12 → Option ρ) (k2 : R → Option ρ) : Option ρ := o.bind fun z => match z with
  | .inl q => k q.1 q.2.1 q.2.2.1 q.2.2.2.1 q.2.2.2.2.1 q.2.2.2.2.2.1 q.2.2.2.2.2.2.1 q.2.2.2.2.2.2.2.1 q.2.2.2.2.2.2.2.2.1 q.2.2.2.2.2.2.2.2.2.1 q.2.2.2.2.2.2.2.2.2.2.1 q.2.2.2.2.2.2.2.2.2.2.2
  | .inr q => k2 q
theorem zbs12_some {T1 T2 T3 T4 T5 T6 T7 T8 T9 T10 T11 T12 R ρ : Type} {o : Option ((T1 × T2 × T3 × T4 × T5 × T6 × T7 × T8 × T9 × T10 × T11 × T12) ⊕ R)} {k : T1 → T2 → T3 → T4 → T5 → T6 → T7 → T8 → T9 → T10 → T11 → T12 → Option ρ} {k2 : R → Option ρ} {r : ρ} (h : zbs12 o k k2 = some r) : ∃ z, o = some z ∧ (∀ x1 x2 x3 x4 x5 x6 x7 x8 x9 x10 x11 x12, z = .inl (x1, x2, x3, x4, x5, x6, x7, x8, x9, x10, x11, x12) → k x1 x2 x3 x4 x5 x6 x7 x8 x9 x10 x11 x12 = some r) ∧ ∀ q, z = .inr q → k2 q = some r := by
  cases o with
  | none => cases h
  | some z =>
    cases z with
    | inl q => exact ⟨_, rfl, fun x1 x2 x3 x4 x5 x6 x7 x8 x9 x10 x11 x12 e => by cases e; exact h, fun q e => by cases e⟩
    | inr q => exact ⟨_, rfl, (fun x1 x2 x3 x4 x5 x6 x7 x8 x9 x10 x11 x12 e => by cases e), fun q2 e => by cases e; exact h⟩
def zbs13 {T1 T2 T3 T4 T5 T6 T7 T8 T9 T10 T11 T12 T13 R ρ : Type} (o : Option ((T1 × T2 × T3 × T4 × T5 × T6 × T7 × T8 × T9 × T10 × T11 × T12 × T13) ⊕ R)) (k : T1 → T2 → T3 → T4 → T5 → T6 → T7 → T8 → T9 → T10 → T11 → T12 → T13 → Option ρ) (k2 : R → Option ρ) : Option ρ := o.bind fun z => match z with
  | .inl q => k q.1 q.2.1 q.2.2.1 q.2.2.2.1 q.2.2.2.2.1 q.2.2.2.2.2.1 q.2.2.2.2.2.2.1 q.2.2.2.2.2.2.2.1 q.2.2.2.2.2.2.2.2.1 q.2.2.2.2.2.2.2.2.2.1 q.2.2.2.2.2.2.2.2.2.2.1 q.2.2.2.2.2.2.2.2.2.2.2.1 q.2.2.2.2.2.2.2.2.2.2.2.2
  | .inr q => k2 q
theorem zbs13_some {T1 T2 T3 T4 T5 T6 T7 T8 T9 T10 T11 T12 T13 R ρ : Type} {o : Option ((T1 × T2 × T3 × T4 × T5 × T6 × T7 × T8 × T9 × T10 × T11 × T12 × T13) ⊕ R)} {k : T1 → T2 → T3 → T4 → T5 → T6 → T7 → T8 → T9 → T10 → T11 → T12 → T13 → Option ρ} {k2 : R → Option ρ} {r : ρ} (h : zbs13 o k k2 = some r) : ∃ z, o = some z ∧ (∀ x1 x2 x3 x4 x5 x6 x7 x8 x9 x10 x11 x12 x13, z = .inl (x1, x2, x3, x4, x5, x6, x7, x8, x9, x10, x11, x12, x13) → k x1 x2 x3 x4 x5 x6 x7 x8 x9 x10 x11 x12 x13 = some r) ∧ ∀ q, z = .inr q → k2 q = some r := by
  cases o with
  | none => cases h
  | some z =>
    cases z with
    | inl q => exact ⟨_, rfl, fun x1 x2 x3 x4 x5 x6 x7 x8 x9 x10 x11 x12 x13 e => by cases e; exact h, fun q e => by cases e⟩
    | inr q => exact ⟨_, rfl, (fun x1 x2 x3 x4 x5 x6 x7 x8 x9 x10 x11 x12 x13 e => by cases e), fun q2 e => by cases e; exact h⟩
def zbs14 {T1 T2 T3 T4 T5 T6 T7 T8 T9 T10 T11 T12 T13 T14 R ρ : Type} (o : Option ((T1 × T2 × T3 × T4 × T5 × T6 × T7 × T8 × T9 × T10 × T11 × T12 × T13 × T14) ⊕ R)) (k : T1 → T2 → T3 → T4 → T5 → T6 → T7 → T8 → T9 → T10 → T11 → T12 → T13 → T14 → Option ρ) (k2 : R → Option ρ) : Option ρ := o.bind fun z => match z with
  | .inl q => k q.1 q.2.1 q.2.2.1 q.2.2.2.1 q.2.2.2.2.1 q.2.2.2.2.2.1 q.2.2.2.2.2.2.1 q.2.2.2.2.2.2.2.1 q.2.2.2.2.2.2.2.2.1 q.2.2.2.2.2.2.2.2.2.1 q.2.2.2.2.2.2.2.2.2.2.1 q.2.2.2.2.2.2.2.2.2.2.2.1 q.2.2.2.2.2.2.2.2.2.2.2.2.1 q.2.2.2.2.2.2.2.2.2.2.2.2.2
  | .inr q => k2 q
theorem zbs14_some {T1 T2 T3 T4 T5 T6 T7 T8 T9 T10 T11 T12 T13 T14 R ρ : Type} {o : Option ((T1 × T2 × T3 × T4 × T5 × T6 × T7 × T8 × T9 × T10 × T11 × T12 × T13 × T14) ⊕ R)} {k : T1 → T2 → T3 → T4 → T5 → T6 → T7 → T8 → T9 → T10 → T11 → T12 → T13 → T14 → Option ρ} {k2 : R → Option ρ} {r : ρ} (h : zbs14 o k k2 = some r) : ∃ z, o = some z ∧ (∀ x1 x2 x3 x4 x5 x6 x7 x8 x9 x10 x11 x12 x13 x14, z = .inl (x1, x2, x3, x4, x5, x6, x7, x8, x9, x10, x11, x12, x13, x14) → k x1 x2 x3 x4 x5 x6 x7 x8 x9 x10 x11 x12 x13 x14 = some r) ∧ ∀ q, z = .inr q → k2 q = some r := by
  cases o with
  | none => cases h
  | some z =>
    cases z with
    | inl q => exact ⟨_, rfl, fun x1 x2 x3 x4 x5 x6 x7 x8 x9 x10 x11 x12 x13 x14 e => by cases e; exact h, fun q e => by cases e⟩
    | inr q => exact ⟨_, rfl, (fun x1 x2 x3 x4 x5 x6 x7 x8 x9 x10 x11 x12 x13 x14 e => by cases e), fun q2 e => by cases e; exact h⟩
def zbs15 {T1 T2 T3 T4 T5 T6 T7 T8 T9 T10 T11 T12 T13 T14 T15 R ρ : Type} (o : Option ((T1 × T2 × T3 × T4 × T5 × T6 × T7 × T8 × T9 × T10 × T11 × T12 × T13 × T14 × T15) ⊕ R)) (k : T1 → T2 → T3 → T4 → T5 → T6 → T7 → T8 → T9 → T10 → T11 → T12 → T13 → T14 → T15 → Option ρ) (k2 : R → Option ρ) : Option ρ := o.bind fun z => match z with
  | .inl q => k q.1 q.2.1 q.2.2.1 q.2.2.2.1 q.2.2.2.2.1 q.2.2.2.2.2.1 q.2.2.2.2.2.2.1 q.2.2.2.2.2.2.2.1 q.2.2.2.2.2.2.2.2.1 q.2.2.2.2.2.2.2.2.2.1 q.2.2.2.2.2.2.2.2.2.2.1 q.2.2.2.2.2.2.2.2.2.2.2.1 q.2.2.2.2.2.2.2.2.2.2.2.2.1 q.2.2.2.2.2.2.2.2.2.2.2.2.2.1 q.2.2.2.2.2.2.2.2.2.2.2.2.2.2
  | .inr q => k2 q
theorem zbs15_some {T1 T2 T3 T4 T5 T6 T7 T8 T9 T10 T11 T12 T13 T14 T15 R ρ : Type} {o : Option ((T1 × T2 × T3 × T4 × T5 × T6 × T7 × T8 × T9 × T10 × T11 × T12 × T13 × T14 × T15) ⊕ R)} {k : T1 → T2 → T3 → T4 → T5 → T6 → T7 → T8 → T9 → T10 → T11 → T12 → T13 → T14 → T15 → Option ρ} {k2 : R → Option ρ} {r : ρ} (h : zbs15 o k k2 = some r) : ∃ z, o = some z ∧ (∀ x1 x2 x3 x4 x5 x6 x7 x8 x9 x10 x11 x12 x13 x14 x15, z = .inl (x1, x2, x3, x4, x5, x6, x7, x8, x9, x10, x11, x12, x13, x14, x15) → k x1 x2 x3 x4 x5 x6 x7 x8 x9 x10 x11 x12 x13 x14 x15 = some r) ∧ ∀ q, z = .inr q → k2 q = some r := by
  cases o with
  | none => cases h
  | some z =>
    cases z with
    | inl q => exact ⟨_, rfl, fun x1 x2 x3 x4 x5 x6 x7 x8 x9 x10 x11 x12 x13 x14 x15 e => by cases e; exact h, fun q e => by cases e⟩
    | inr q => exact ⟨_, rfl, (fun x1 x2 x3 x4 x5 x6 x7 x8 x9 x10 x11 x12 x13 x14 x15 e => by cases e), fun q2 e => by cases e; exact h⟩
def zbs16 {T1 T2 T3 T4 T5 T6 T7 T8 T9 T10 T11 T12 T13 T14 T15 T16 R ρ : Type} (o : Option ((T1 × T2 × T3 × T4 × T5 × T6 × T7 × T8 × T9 × T10 × T11 × T12 × T13 × T14 × T15 × T16) ⊕ R)) (k : T1 → T2 → T3 → T4 → T5 → T6 → T7 → T8 → T9 → T10 → T11 → T12 → T13 → T14 → T15 → T16 → Option ρ) (k2 : R → Option ρ) : Option ρ := o.bind fun z => match z with
  | .inl q => k q.1 q.2.1 q.2.2.1 q.2.2.2.1 q.2.2.2.2.1 q.2.2.2.2.2.1 q.2.2.2.2.2.2.1 q.2.2.2.2.2.2.2.1 q.2.2.2.2.2.2.2.2.1 q.2.2.2.2.2.2.2.2.2.1 q.2.2.2.2.2.2.2.2.2.2.1 q.2.2.2.2.2.2.2.2.2.2.2.1 q.2.2.2.2.2.2.2.2.2.2.2.2.1 q.2.2.2.2.2.2.2.2.2.2.2.2.2.1 q.2.2.2.2.2.2.2.2.2.2.2.2.2.2.1 q.2.2.2.2.2.2.2.2.2.2.2.2.2.2.2
  | .inr q => k2 q
theorem zbs16_some {T1 T2 T3 T4 T5 T6 T7 T8 T9 T10 T11 T12 T13 T14 T15 T16 R ρ : Type} {o : Option ((T1 × T2 × T3 × T4 × T5 × T6 × T7 × T8 × T9 × T10 × T11 × T12 × T13 × T14 × T15 × T16) ⊕ R)} {k : T1 → T2 → T3 → T4 → T5 → T6 → T7 → T8 → T9 → T10 → T11 → T12 → T13 → T14 → T15 → T16 → Option ρ} {k2 : R → Option ρ} {r : ρ} (h : zbs16 o k k2 = some r) : ∃ z, o = some z ∧ (∀ x1 x2 x3 x4 x5 x6 x7 x8 x9 x10 x11 x12 x13 x14 x15 x16, z = .inl (x1, x2, x3, x4, x5, x6, x7, x8, x9, x10, x11, x12, x13, x14, x15, x16) → k x1 x2 x3 x4 x5 x6 x7 x8 x9 x10 x11 x12 x13 x14 x15 x16 = some r) ∧ ∀ q, z = .inr q → k2 q = some r := by
  cases o with
  | none => cases h
  | some z =>
    cases z with
    | inl q => exact ⟨_, rfl, fun x1 x2 x3 x4 x5 x6 x7 x8 x9 x10 x11 x12 x13 x14 x15 x16 e => by cases e; exact h, fun q e => by cases e⟩
    | inr q => exact ⟨_, rfl, (fun x1 x2 x3 x4 x5 x6 x7 x8 x9 x10 x11 x12 x13 x14 x15 x16 e => by cases e), fun q2 e => by cases e; exact h⟩
def zbs17 {T1 T2 T3 T4 T5 T6 T7 T8 T9 T10 T11 T12 T13 T14 T15 T16 T17 R ρ : Type} (o : Option ((T1 × T2 × T3 × T4 × T5 × T6 × T7 × T8 × T9 × T10 × T11 × T12 × T13 × T14 × T15 × T16 × T17) ⊕ R)) (k : T1 → T2 → T3 → T4 → T5 → T6 → T7 → T8 → T9 → T10 → T11 → T12 → T13 → T14 → T15 → T16 → T17 → Option ρ) (k2 : R → Option ρ) : Option ρ := o.bind fun z => match z with
  | .inl q => k q.1 q.2.1 q.2.2.1 q.2.2.2.1 q.2.2.2.2.1 q.2.2.2.2.2.1 q.2.2.2.2.2.2.1 q.2.2.2.2.2.2.2.1 q.2.2.2.2.2.2.2.2.1 q.2.2.2.2.2.2.2.2.2.1 q.2.2.2.2.2.2.2.2.2.2.1 q.2.2.2.2.2.2.2.2.2.2.2.1 q.2.2.2.2.2.2.2.2.2.2.2.2.1 q.2.2.2.2.2.2.2.2.2.2.2.2.2.1 q.2.2.2.2.2.2.2.2.2.2.2.2.2.2.1 q.2.2.2.2.2.2.2.2.2.2.2.2.2.2.2.1 q.2.2.2.2.2.2.2.2.2.2.2.2.2.2.2.2
  | .inr q => k2 q
theorem zbs17_some {T1 T2 T3 T4 T5 T6 T7 T8 T9 T10 T11 T12 T13 T14 T15 T16 T17 R ρ : Type} {o : Option ((T1 × T2 × T3 × T4 × T5 × T6 × T7 × T8 × T9 × T10 × T11 × T12 × T13 × T14 × T15 × T16 × T17) ⊕ R)} {k : T1 → T2 → T3 → T4 → T5 → T6 → T7 → T8 → T9 → T10 → T11 → T12 → T13 → T14 → T15 → T16 → T17 → Option ρ} {k2 : R → Option ρ} {r : ρ} (h : zbs17 o k k2 = some r) : ∃ z, o = some z ∧ (∀ x1 x2 x3 x4 x5 x6 x7 x8 x9 x10 x11 x12 x13 x14 x15 x16 x17, z = .inl (x1, x2, x3, x4, x5, x6, x7, x8, x9, x10, x11, x12, x13, x14, x15, x16, x17) → k x1 x2 x3 x4 x5 x6 x7 x8 x9 x10 x11 x12 x13 x14 x15 x16 x17 = some r) ∧ ∀ q, z = .inr q → k2 q = some r := by
  cases o with
  | none => cases h
  | some z =>
    cases z with
    | inl q => exact ⟨_, rfl, fun x1 x2 x3 x4 x5 x6 x7 x8 x9 x10 x11 x12 x13 x14 x15 x16 x17 e => by cases e; exact h, fun q e => by cases e⟩
    | inr q => exact ⟨_, rfl, (fun x1 x2 x3 x4 x5 x6 x7 x8 x9 x10 x11 x12 x13 x14 x15 x16 x17 e => by cases e), fun q2 e => by cases e; exact h⟩
def zbs18 {T1 T2 T3 T4 T5 T6 T7 T8 T9 T10 T11 T12 T13 T14 T15 T16 T17 T18 R ρ : Type} (o : Option ((T1 × T2 × T3 × T4 × T5 × T6 × T7 × T8 × T9 × T10 × T11 × T12 × T13 × T14 × T15 × T16 × T17 × T18) ⊕ R)) (k : T1 → T2 → T3 → T4 → T5 → T6 → T7 → T8 → T9 → T10 → T11 → T12 → T13 → T14 → T15 → T16 → T17 → T18 → Option ρ) (k2 : R → Option ρ) : Option ρ := o.bind fun z => match z with
  | .inl q => k q.1 q.2.1 q.2.2.1 q.2.2.2.1 q.2.2.2.2.1 q.2.2.2.2.2.1 q.2.2.2.2.2.2.1 q.2.2.2.2.2.2.2.1 q.2.2.2.2.2.2.2.2.1 q.2.2.2.2.2.2.2.2.2.1 q.2.2.2.2.2.2.2.2.2.2.1 q.2.2.2.2.2.2.2.2.2.2.2.1 q.2.2.2.2.2.2.2.2.2.2.2.2.1 q.2.2.2.2.2.2.2.2.2.2.2.2.2.1 q.2.2.2.2.2.2.2.2.2.2.2.2.2.2.1 q.2.2.2.2.2.2.2.2.2.2.2.2.2.2.2.1 q.2.2.2.2.2.2.2.2.2.2.2.2.2.2.2.2.1 q.2.2.2.2.2.2.2.2.2.2.2.2.2.2.2.2.2
  | .inr q => k2 q
theorem zbs18_some {T1 T2 T3 T4 T5 T6 T7 T8 T9 T10 T11 T12 T13 T14 T15 T16 T17 T18 R ρ : Type} {o : Option ((T1 × T2 × T3 × T4 × T5 × T6 × T7 × T8 × T9 × T10 × T11 × T12 × T13 × T14 × T15 × T16 × T17 × T18) ⊕ R)} {k : T1 → T2 → T3 → T4 → T5 → T6 → T7 → T8 → T9 → T10 → T11 → T12 → T13 → T14 → T15 → T16 → T17 → T18 → Option ρ} {k2 : R → Option ρ} {r : ρ} (h : zbs18 o k k2 = some r) : ∃ z, o = some z ∧ (∀ x1 x2 x3 x4 x5 x6 x7 x8 x9 x10 x11 x12 x13 x14 x15 x16 x17 x18, z = .inl (x1, x2, x3, x4, x5, x6, x7, x8, x9, x10, x11, x12, x13, x14, x15, x16, x17, x18) → k x1 x2 x3 x4 x5 x6 x7 x8 x9 x10 x11 x12 x13 x14 x15 x16 x17 x18 = some r) ∧ ∀ q, z = .inr q → k2 q = some r := by
  cases o with
  | none => cases h
  | some z =>
    cases z with
    | inl q => exact ⟨_, rfl, fun x1 x2 x3 x4 x5 x6 x7 x8 x9 x10 x11 x12 x13 x14 x15 x16 x17 x18 e => by cases e; exact h, fun q e => by cases e⟩
    | inr q => exact ⟨_, rfl, (fun x1 x2 x3 x4 x5 x6 x7 x8 x9 x10 x11 x12 x13 x14 x15 x16 x17 x18 e => by cases e), fun q2 e => by cases e; exact h⟩
def zbs19 {T1 T2 T3 T4 T5 T6 T7 T8 T9 T10 T11 T12 T13 T14 T15 T16 T17 T18 T19 R ρ : Type} (o : Option ((T1 × T2 × T3 × T4 × T5 × T6 × T7 × T8 × T9 × T10 × T11 × T12 × T13 × T14 × T15 × T16 × T17 × T18 × T19) ⊕ R)) (k : T1 → T2 → T3 → T4 → T5 → T6 → T7 → T8 → T9 → T10 → T11 → T12 → T13 → T14 → T15 → T16 → T17 → T18 → T19 → Option ρ) (k2 : R → Option ρ) : Option ρ := o.bind fun z => match z with
  | .inl q => k q.1 q.2.1 q.2.2.1 q.2.2.2.1 q.2.2.2.2.1 q.2.2.2.2.2.1 q.2.2.2.2.2.2.1 q.2.2.2.2.2.2.2.1 q.2.2.2.2.2.2.2.2.1 q.2.2.2.2.2.2.2.2.2.1 q.2.2.2.2.2.2.2.2.2.2.1 q.2.2.2.2.2.2.2.2.2.2.2.1 q.2.2.2.2.2.2.2.2.2.2.2.2.1 q.2.2.2.2.2.2.2.2.2.2.2.2.2.1 q.2.2.2.2.2.2.2.2.2.2.2.2.2.2.1 q.2.2.2.2.2.2.2.2.2.2.2.2.2.2.2.1 q.2.2.2.2.2.2.2.2.2.2.2.2.2.2.2.2.1 q.2.2.2.2.2.2.2.2.2.2.2.2.2.2.2.2.2.1 q.2.2.2.2.2.2.2.2.2.2.2.2.2.2.2.2.2.2
  | .inr q => k2 q
theorem zbs19_some {T1 T2 T3 T4 T5 T6 T7 T8 T9 T10 T11 T12 T13 T14 T15 T16 T17 T18 T19 R ρ : Type} {o : Option ((T1 × T2 × T3 × T4 × T5 × T6 × T7 × T8 × T9 × T10 × T11 × T12 × T13 × T14 × T15 × T16 × T17 × T18 × T19) ⊕ R)} {k : T1 → T2 → T3 → T4 → T5 → T6 → T7 → T8 → T9 → T10 → T11 → T12 → T13 → T14 → T15 → T16 → T17 → T18 → T19 → Option ρ} {k2 : R → Option ρ} {r : ρ} (h : zbs19 o k k2 = some r) : ∃ z, o = some z ∧ (∀ x1 x2 x3 x4 x5 x6 x7 x8 x9 x10 x11 x12 x13 x14 x15 x16 x17 x18 x19, z = .inl (x1, x2, x3, x4, x5, x6, x7, x8, x9, x10, x11, x12, x13, x14, x15, x16, x17, x18, x19) → k x1 x2 x3 x4 x5 x6 x7 x8 x9 x10 x11 x12 x13 x14 x15 x16 x17 x18 x19 = some r) ∧ ∀ q, z = .inr q → k2 q = some r := by
  cases o with
  | none => cases h
  | some z =>
    cases z with
    | inl q => exact ⟨_, rfl, fun x1 x2 x3 x4 x5 x6 x7 x8 x9 x10 x11 x12 x13 x14 x15 x16 x17 x18 x19 e => by cases e; exact h, fun q e => by cases e⟩
    | inr q => exact ⟨_, rfl, (fun x1 x2 x3 x4 x5 x6 x7 x8 x9 x10 x11 x12 x13 x14 x15 x16 x17 x18 x19 e => by cases e), fun q2 e => by cases e; exact h⟩
def zbs20 {T1 T2 T3 T4 T5 T6 T7 T8 T9 T10 T11 T12 T13 T14 T15 T16 T17 T18 T19 T20 R ρ : Type} (o : Option ((T1 × T2 × T3 × T4 × T5 × T6 × T7 × T8 × T9 × T10 × T11 × T12 × T13 × T14 × T15 × T16 × T17 × T18 × T19 × T20) ⊕ R)) (k : T1 → T2 → T3 → T4 → T5 → T6 → T7 → T8 → T9 → T10 → T11 → T12 → T13 → T14 → T15 → T16 → T17 → T18 → T19 → T20 → Option ρ) (k2 : R → Option ρ) : Option ρ := o.bind fun z => match z with
  | .inl q => k q.1 q.2.1 q.2.2.1 q.2.2.2.1 q.2.2.2.2.1 q.2.2.2.2.2.1 q.2.2.2.2.2.2.1 q.2.2.2.2.2.2.2.1 q.2.2.2.2.2.2.2.2.1 q.2.2.2.2.2.2.2.2.2.1 q.2.2.2.2.2.2.2.2.2.2.1 q.2.2.2.2.2.2.2.2.2.2.2.1 q.2.2.2.2.2.2.2.2.2.2.2.2.1 q.2.2.2.2.2.2.2.2.2.2.2.2.2.1 q.2.2.2.2.2.2.2.2.2.2.2.2.2.2.1 q.2.2.2.2.2.2.2.2.2.2.2.2.2.2.2.1 q.2.2.2.2.2.2.2.2.2.2.2.2.2.2.2.2.1 q.2.2.2.2.2.2.2.2.2.2.2.2.2.2.2.2.2.1 q.2.2.2.2.2.2.2.2.2.2.2.2.2.2.2.2.2.2.1 q.2.2.2.2.2.2.2.2.2.2.2.2.2.2.2.2.2.2.2
  | .inr q => k2 q
theorem zbs20_some {T1 T2 T3 T4 T5 T6 T7 T8 T9 T10 T11 T12 T13 T14 T15 T16 T17 T18 T19 T20 R ρ : Type} {o : Option ((T1 × T2 × T3 × T4 × T5 × T6 × T7 × T8 × T9 × T10 × T11 × T12 × T13 × T14 × T15 × T16 × T17 × T18 × T19 × T20) ⊕ R)} {k : T1 → T2 → T3 → T4 → T5 → T6 → T7 → T8 → T9 → T10 → T11 → T12 → T13 → T14 → T15 → T16 → T17 → T18 → T19 → T20 → Option ρ} {k2 : R → Option ρ} {r : ρ} (h : zbs20 o k k2 = some r) : ∃ z, o = some z ∧ (∀ x1 x2 x3 x4 x5 x6 x7 x8 x9 x10 x11 x12 x13 x14 x15 x16 x17 x18 x19 x20, z = .inl (x1, x2, x3, x4, x5, x6, x7, x8, x9, x10, x11, x12, x13, x14, x15, x16, x17, x18, x19, x20) → k x1 x2 x3 x4 x5 x6 x7 x8 x9 x10 x11 x12 x13 x14 x15 x16 x17 x18 x19 x20 = some r) ∧ ∀ q, z = .inr q → k2 q = some r := by
  cases o with
  | none => cases h
  | some z =>
    cases z with
    | inl q => exact ⟨_, rfl, fun x1 x2 x3 x4 x5 x6 x7 x8 x9 x10 x11 x12 x13 x14 x15 x16 x17 x18 x19 x20 e => by cases e; exact h, fun q e => by cases e⟩
    | inr q => exact ⟨_, rfl, (fun x1 x2 x3 x4 x5 x6 x7 x8 x9 x10 x11 x12 x13 x14 x15 x16 x17 x18 x19 x20 e => by cases e), fun q2 e => by cases e; exact h⟩
theorem zif_t {α : Type} {c : Prop} [Decidable c] {a b out : α} (h : (if c then a else b) = out) (hc : c) : a = out := by rw [if_pos hc] at h; exact h
theorem zif_f {α : Type} {c : Prop} [Decidable c] {a b out : α} (h : (if c then a else b) = out) (hc : ¬ c) : b = out := by rw [if_neg hc] at h; exact h
theorem zlk (x : Int32) (ps : List (Int × Int)) (dflt : Int) (h : ∀ q ∈ ps, x.toInt ≠ q.1) : Op.lookupswitch.offset ps dflt x.toInt = dflt := by
  induction ps with
  | nil => rfl
  | cons q r ih =>
    obtain ⟨a, o⟩ := q
    rw [Op.lookupswitch.offset_cons]
    rw [if_neg (fun e => h (a, o) List.mem_cons_self (by first | exact e | exact e.symm))]
    exact ih (fun q hq => h q (List.mem_cons_of_mem _ hq))
