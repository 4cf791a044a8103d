/-! THE Z KIT WITH COUNTS: k1 cells of n1 slots are made so far (constructors, the law) -/
def Zk (X : zX) (G : zG) (nL k n : Nat) (ws : va_W) (lv : List (Nat × Value)) (pc : Nat) (st : List Value) : Prop :=
  ∀ (H : Heap) (locs : List Loc) (ls : Array Slot), va_P G.1 vwCl ws H → va_D (xF X) ws → va_S (xF X) (xS X).heap H locs → lv_has ls nL lv → W (xP X) (xL X) (xE X) (xR X) (xS X) (xM X) (xA X) (xB X) (xT X) (xC X) H locs k n (xQ X) (F0 (xM X) pc ls st)
def zFk (X : zX) (G : zG) (cc : ByteArray) (own : String) (nL fr C S lo : Nat) : Prop :=
  ((xP X).tables.exec = Jvm.exec ∧ (xC X).code = cc ∧ (xC X).maxLocals = nL ∧ (xS X).vm.findClass own = some (xM X).cls) ∧ (∀ w ∈ wsL_law, w.before (xA X) (xS X) = true) ∧ va_K G.1 vwCl (zTy G) (xS X) ∧ (∀ q, (xS X).heap.size ≤ q → xF X q) ∧ xR X = { frames := fr, cells := C, slots := S, locals := lo } ∧ zSt G (xF X) (xS X) (xS X).heap
theorem zouter (c : ClassId) (N h0 : Nat) : Jvm.Free.Multi.outerC c N h0 N = vp_cell c (N, .inr (.inr (.inr (.inr (fun j => if j < N then some (h0 + 1 + j) else none))))) := by
  rw [vp_cell_q]
  have key : ∀ i : Nat, Jvm.Free.Multi.outerC c N h0 i = arrV c N (fun j => va_rf (if j < i then some (h0 + 1 + j) else none)) := by
    intro i
    induction i with
    | zero =>
      show ({ cls := c, slots := Array.replicate N .null, vm := .none } : Cell) = _
      rw [arrV_new]
      refine congrArg (arrV c N) (funext fun j => ?_)
      simp [va_rf]
    | succ i ih =>
      show (Jvm.Free.Multi.outerC c N h0 i).setSlot i (.ref (h0 + 1 + i)) = _
      rw [ih, arrV_store]
      refine congrArg (arrV c N) (funext fun j => ?_)
      by_cases e : j = i
      · subst e
        simp [updV, va_rf]
      · by_cases h : j < i
        · simp [updV, e, h, Nat.lt_succ_of_lt h]
        · simp [updV, e, h, show ¬ j < i + 1 by omega]
  exact key N
section ZKR
variable {X : zX} {G : zG} {cc : ByteArray} {own : String} {nL fr C0 S0 lo k1 n1 : Nat} {ws ws' : va_W} {lv lv' : List (Nat × Value)} {pc : Nat} {st rest : List Value}
theorem zk_iadd (F : zFk X G cc own nL fr C0 S0 lo) {x y : Int32}  (hdg : decode cc pc = .ok (.iadd, 1)) (kk : Zk X G nL k1 n1 ws lv (pc + 1) (.int (x + y) :: rest)) : Zk X G nL k1 n1 ws lv pc (.int y :: .int x :: rest) := fun H locs ls hP hD hS hl => lv_iadd F.1.1 F.1.2.1 hdg (kk H locs ls hP hD hS hl)
theorem zk_isub (F : zFk X G cc own nL fr C0 S0 lo) {x y : Int32}  (hdg : decode cc pc = .ok (.isub, 1)) (kk : Zk X G nL k1 n1 ws lv (pc + 1) (.int (x - y) :: rest)) : Zk X G nL k1 n1 ws lv pc (.int y :: .int x :: rest) := fun H locs ls hP hD hS hl => lv_isub F.1.1 F.1.2.1 hdg (kk H locs ls hP hD hS hl)
theorem zk_imul (F : zFk X G cc own nL fr C0 S0 lo) {x y : Int32}  (hdg : decode cc pc = .ok (.imul, 1)) (kk : Zk X G nL k1 n1 ws lv (pc + 1) (.int (x * y) :: rest)) : Zk X G nL k1 n1 ws lv pc (.int y :: .int x :: rest) := fun H locs ls hP hD hS hl => lv_imul F.1.1 F.1.2.1 hdg (kk H locs ls hP hD hS hl)
theorem zk_iand (F : zFk X G cc own nL fr C0 S0 lo) {x y : Int32}  (hdg : decode cc pc = .ok (.iand, 1)) (kk : Zk X G nL k1 n1 ws lv (pc + 1) (.int (x &&& y) :: rest)) : Zk X G nL k1 n1 ws lv pc (.int y :: .int x :: rest) := fun H locs ls hP hD hS hl => lv_iand F.1.1 F.1.2.1 hdg (kk H locs ls hP hD hS hl)
theorem zk_lor (F : zFk X G cc own nL fr C0 S0 lo) {x y : Int64}  (hdg : decode cc pc = .ok (.lor, 1)) (kk : Zk X G nL k1 n1 ws lv (pc + 1) (.long (x ||| y) :: rest)) : Zk X G nL k1 n1 ws lv pc (.long y :: .long x :: rest) := fun H locs ls hP hD hS hl => lv_lor F.1.1 F.1.2.1 hdg (kk H locs ls hP hD hS hl)
theorem zk_land (F : zFk X G cc own nL fr C0 S0 lo) {x y : Int64}  (hdg : decode cc pc = .ok (.land, 1)) (kk : Zk X G nL k1 n1 ws lv (pc + 1) (.long (x &&& y) :: rest)) : Zk X G nL k1 n1 ws lv pc (.long y :: .long x :: rest) := fun H locs ls hP hD hS hl => lv_land F.1.1 F.1.2.1 hdg (kk H locs ls hP hD hS hl)
theorem zk_i2l (F : zFk X G cc own nL fr C0 S0 lo) {x : Int32} (hdg : decode cc pc = .ok (.i2l, 1)) (kk : Zk X G nL k1 n1 ws lv (pc + 1) (.long x.toInt64 :: rest)) : Zk X G nL k1 n1 ws lv pc (.int x :: rest) := fun H locs ls hP hD hS hl => lv_i2l F.1.1 F.1.2.1 hdg rfl (kk H locs ls hP hD hS hl)
theorem zk_lshl (F : zFk X G cc own nL fr C0 S0 lo) {x : Int64} {y : Int32} (hdg : decode cc pc = .ok (.lshl, 1)) (kk : Zk X G nL k1 n1 ws lv (pc + 1) (.long (x <<< (y.toInt64 &&& 63)) :: rest)) : Zk X G nL k1 n1 ws lv pc (.int y :: .long x :: rest) := fun H locs ls hP hD hS hl => lv_lshl F.1.1 F.1.2.1 hdg rfl (kk H locs ls hP hD hS hl)
theorem zk_lcmp (F : zFk X G cc own nL fr C0 S0 lo) {x y : Int64} (hdg : decode cc pc = .ok (.lcmp, 1)) (kk : Zk X G nL k1 n1 ws lv (pc + 1) (.int (lg_cmp x y) :: rest)) : Zk X G nL k1 n1 ws lv pc (.long y :: .long x :: rest) := fun H locs ls hP hD hS hl => W.lcmp F.1.1 F.1.2.1 hdg (kk H locs ls hP hD hS hl)
theorem zk_iconst (F : zFk X G cc own nL fr C0 S0 lo) {n : Int} (v : Int32) (hdg : decode cc pc = .ok (.iconst n, 1)) (hv : Int32.ofInt n = v) (kk : Zk X G nL k1 n1 ws lv (pc + 1) (.int v :: rest)) : Zk X G nL k1 n1 ws lv pc rest := fun H locs ls hP hD hS hl => lv_iconst F.1.1 F.1.2.1 hdg hv (kk H locs ls hP hD hS hl)
theorem zk_bipush (F : zFk X G cc own nL fr C0 S0 lo) {n : Int} (v : Int32) (hdg : decode cc pc = .ok (.bipush n, 2)) (hv : (Int8.ofInt n).toInt32 = v) (kk : Zk X G nL k1 n1 ws lv (pc + 2) (.int v :: rest)) : Zk X G nL k1 n1 ws lv pc rest := fun H locs ls hP hD hS hl => lv_bipush F.1.1 F.1.2.1 hdg hv (kk H locs ls hP hD hS hl)
theorem zk_sipush (F : zFk X G cc own nL fr C0 S0 lo) {n : Int} (v : Int32) (hdg : decode cc pc = .ok (.sipush n, 3)) (hv : (Int16.ofInt n).toInt32 = v) (kk : Zk X G nL k1 n1 ws lv (pc + 3) (.int v :: rest)) : Zk X G nL k1 n1 ws lv pc rest := fun H locs ls hP hD hS hl => lv_sipush F.1.1 F.1.2.1 hdg hv (kk H locs ls hP hD hS hl)
theorem zk_lconst (F : zFk X G cc own nL fr C0 S0 lo) {n : Fin 2} (v : Int64) (hdg : decode cc pc = .ok (.lconst n, 1)) (hv : Int64.ofNat (n : Nat) = v) (kk : Zk X G nL k1 n1 ws lv (pc + 1) (.long v :: rest)) : Zk X G nL k1 n1 ws lv pc rest := fun H locs ls hP hD hS hl => lv_lconst F.1.1 F.1.2.1 hdg hv (kk H locs ls hP hD hS hl)
theorem zk_ldc (F : zFk X G cc own nL fr C0 S0 lo) {index : Nat} (v : Int32) (hc : Cond.constant own index v ∈ wsL_law) (hdg : decode cc pc = .ok (.ldc index, 2)) (kk : Zk X G nL k1 n1 ws lv (pc + 2) (.int v :: rest)) : Zk X G nL k1 n1 ws lv pc rest := fun H locs ls hP hD hS hl => lv_ldc F.1.1 F.1.2.1 F.1.2.2.2 (F.2.1 _ hc) hdg (kk H locs ls hP hD hS hl)
theorem zk_ldc2 (F : zFk X G cc own nL fr C0 S0 lo) {index : Nat} (v : Int64) (hc : Cond.constantLong own index v ∈ wsL_law) (hdg : decode cc pc = .ok (.ldc2_w index, 3)) (kk : Zk X G nL k1 n1 ws lv (pc + 3) (.long v :: rest)) : Zk X G nL k1 n1 ws lv pc rest := fun H locs ls hP hD hS hl => lv_ldc2 F.1.1 F.1.2.1 F.1.2.2.2 (F.2.1 _ hc) hdg (kk H locs ls hP hD hS hl)
theorem zk_iload_n (F : zFk X G cc own nL fr C0 S0 lo) {k : Fin 4} {i : Nat} {x : Int32} (j : Nat) (hdg : decode cc pc = .ok (.iload_n k, 1)) (hi : (k : Nat) = i) (hk : lv[j]? = some (i, .int x)) (kk : Zk X G nL k1 n1 ws lv (pc + 1) (.int x :: rest)) : Zk X G nL k1 n1 ws lv pc rest := fun H locs ls hP hD hS hl => lv_iload_n F.1.1 F.1.2.1 hdg hi (lv_at hl j hk) (kk H locs ls hP hD hS hl)
theorem zk_iload (F : zFk X G cc own nL fr C0 S0 lo) {i : Nat} {x : Int32} (j : Nat) (hdg : decode cc pc = .ok (.iload i, 2)) (hk : lv[j]? = some (i, .int x)) (kk : Zk X G nL k1 n1 ws lv (pc + 2) (.int x :: rest)) : Zk X G nL k1 n1 ws lv pc rest := fun H locs ls hP hD hS hl => lv_iload F.1.1 F.1.2.1 hdg (lv_at hl j hk) (kk H locs ls hP hD hS hl)
theorem zk_aload_n (F : zFk X G cc own nL fr C0 S0 lo) {k : Fin 4} {i : Nat} {x : Nat} (j : Nat) (hdg : decode cc pc = .ok (.aload_n k, 1)) (hi : (k : Nat) = i) (hk : lv[j]? = some (i, .ref x)) (kk : Zk X G nL k1 n1 ws lv (pc + 1) (.ref x :: rest)) : Zk X G nL k1 n1 ws lv pc rest := fun H locs ls hP hD hS hl => lv_aload_n F.1.1 F.1.2.1 hdg hi (lv_at hl j hk) (kk H locs ls hP hD hS hl)
theorem zk_aload (F : zFk X G cc own nL fr C0 S0 lo) {i : Nat} {x : Nat} (j : Nat) (hdg : decode cc pc = .ok (.aload i, 2)) (hk : lv[j]? = some (i, .ref x)) (kk : Zk X G nL k1 n1 ws lv (pc + 2) (.ref x :: rest)) : Zk X G nL k1 n1 ws lv pc rest := fun H locs ls hP hD hS hl => lv_aload F.1.1 F.1.2.1 hdg (lv_at hl j hk) (kk H locs ls hP hD hS hl)
theorem zk_istore_n (F : zFk X G cc own nL fr C0 S0 lo) {k : Fin 4} {i : Nat} {x : Int32} (lv' : List (Nat × Value)) (hdg : decode cc pc = .ok (.istore_n k, 1)) (hi : (k : Nat) = i) (hn : i < nL) (hl' : (i, Value.int x) :: lv.filter (fun q => !(q.1 == i) && !(q.1 + 1 == i && q.2.category == 2)) = lv') (kk : Zk X G nL k1 n1 ws lv' (pc + 1) rest) : Zk X G nL k1 n1 ws lv pc (.int x :: rest) := fun H locs ls hP hD hS hl => lv_istore_n F.1.1 F.1.2.1 hdg hi hl hn hl' (fun ls' h' => kk H locs ls' hP hD hS h')
theorem zk_istore (F : zFk X G cc own nL fr C0 S0 lo) {i : Nat} {x : Int32} (lv' : List (Nat × Value)) (hdg : decode cc pc = .ok (.istore i, 2)) (hn : i < nL) (hl' : (i, Value.int x) :: lv.filter (fun q => !(q.1 == i) && !(q.1 + 1 == i && q.2.category == 2)) = lv') (kk : Zk X G nL k1 n1 ws lv' (pc + 2) rest) : Zk X G nL k1 n1 ws lv pc (.int x :: rest) := fun H locs ls hP hD hS hl => lv_istore F.1.1 F.1.2.1 hdg hl hn hl' (fun ls' h' => kk H locs ls' hP hD hS h')
theorem zk_astore_n (F : zFk X G cc own nL fr C0 S0 lo) {k : Fin 4} {i : Nat} {x : Nat} (lv' : List (Nat × Value)) (hdg : decode cc pc = .ok (.astore_n k, 1)) (hi : (k : Nat) = i) (hn : i < nL) (hl' : (i, Value.ref x) :: lv.filter (fun q => !(q.1 == i) && !(q.1 + 1 == i && q.2.category == 2)) = lv') (kk : Zk X G nL k1 n1 ws lv' (pc + 1) rest) : Zk X G nL k1 n1 ws lv pc (.ref x :: rest) := fun H locs ls hP hD hS hl => lv_astore_n F.1.1 F.1.2.1 hdg hi hl hn hl' (fun ls' h' => kk H locs ls' hP hD hS h')
theorem zk_astore (F : zFk X G cc own nL fr C0 S0 lo) {i : Nat} {x : Nat} (lv' : List (Nat × Value)) (hdg : decode cc pc = .ok (.astore i, 2)) (hn : i < nL) (hl' : (i, Value.ref x) :: lv.filter (fun q => !(q.1 == i) && !(q.1 + 1 == i && q.2.category == 2)) = lv') (kk : Zk X G nL k1 n1 ws lv' (pc + 2) rest) : Zk X G nL k1 n1 ws lv pc (.ref x :: rest) := fun H locs ls hP hD hS hl => lv_astore F.1.1 F.1.2.1 hdg hl hn hl' (fun ls' h' => kk H locs ls' hP hD hS h')
theorem zk_iinc (F : zFk X G cc own nL fr C0 S0 lo) {i : Nat} {n : Int} {x v : Int32} (lv' : List (Nat × Value)) (hdg : decode cc pc = .ok (.iinc i n, 3)) (k : Nat) (hk : lv[k]? = some (i, .int x)) (hv : x + Int32.ofInt n = v) (hn : i < nL) (hl' : (i, Value.int v) :: lv.filter (fun q => !(q.1 == i) && !(q.1 + 1 == i && q.2.category == 2)) = lv') (kk : Zk X G nL k1 n1 ws lv' (pc + 3) rest) : Zk X G nL k1 n1 ws lv pc rest := fun H locs ls hP hD hS hl => lv_iinc F.1.1 F.1.2.1 hdg hl hk hv hn hl' (fun ls' h' => kk H locs ls' hP hD hS h')
theorem zk_sub (ks : List Nat) (hl' : lv_pick lv ks = lv') (kk : Zk X G nL k1 n1 ws lv' pc st) : Zk X G nL k1 n1 ws lv pc st := fun H locs ls hP hD hS hl => kk H locs ls hP hD hS (lv_sub hl ks hl')
theorem zk_dup (F : zFk X G cc own nL fr C0 S0 lo) {va : Value} (hva : va.category = 1) (hdg : decode cc pc = .ok (.dup, 1)) (kk : Zk X G nL k1 n1 ws lv (pc + 1) (va :: va :: rest)) : Zk X G nL k1 n1 ws lv pc (va :: rest) := fun H locs ls hP hD hS hl => lv_dup F.1.1 F.1.2.1 hdg hva (kk H locs ls hP hD hS hl)
theorem zk_if_eq (F : zFk X G cc own nL fr C0 S0 lo) {x : Int32} {off : Int} (tgt : Nat) {α : Type} {a b out : α} (hdg : decode cc pc = .ok (.ifCond .eq off, 3)) (ht : (pc : Int) + off = (tgt : Int)) (hf : (if x = 0 then a else b) = out) (kt : a = out → x = 0 → Zk X G nL k1 n1 ws lv tgt rest) (kf : b = out → ¬ x = 0 → Zk X G nL k1 n1 ws lv (pc + 3) rest) : Zk X G nL k1 n1 ws lv pc (.int x :: rest) := fun H locs ls hP hD hS hl => lv_if_eq F.1.1 F.1.2.1 hdg ht (fun c => kt (by rw [if_pos c] at hf; exact hf) c H locs ls hP hD hS hl) (fun c => kf (by rw [if_neg c] at hf; exact hf) c H locs ls hP hD hS hl)
theorem zk_if_eq_t (F : zFk X G cc own nL fr C0 S0 lo) {x : Int32} {off : Int} (tgt : Nat) (hdg : decode cc pc = .ok (.ifCond .eq off, 3)) (ht : (pc : Int) + off = (tgt : Int)) (hc : x = 0) (kt : Zk X G nL k1 n1 ws lv tgt rest) : Zk X G nL k1 n1 ws lv pc (.int x :: rest) := fun H locs ls hP hD hS hl => lv_if_eq F.1.1 F.1.2.1 hdg ht (fun _ => kt H locs ls hP hD hS hl) (fun c => absurd hc c)
theorem zk_if_eq_f (F : zFk X G cc own nL fr C0 S0 lo) {x : Int32} {off : Int} (tgt : Nat) (hdg : decode cc pc = .ok (.ifCond .eq off, 3)) (ht : (pc : Int) + off = (tgt : Int)) (hc : ¬ x = 0) (kf : Zk X G nL k1 n1 ws lv (pc + 3) rest) : Zk X G nL k1 n1 ws lv pc (.int x :: rest) := fun H locs ls hP hD hS hl => lv_if_eq F.1.1 F.1.2.1 hdg ht (fun c => absurd c hc) (fun _ => kf H locs ls hP hD hS hl)
theorem zk_icmp_eq (F : zFk X G cc own nL fr C0 S0 lo) {x y : Int32} {off : Int} (tgt : Nat) {α : Type} {a b out : α} (hdg : decode cc pc = .ok (.if_icmp .eq off, 3)) (ht : (pc : Int) + off = (tgt : Int)) (hf : (if x = y then a else b) = out) (kt : a = out → x = y → Zk X G nL k1 n1 ws lv tgt rest) (kf : b = out → ¬ x = y → Zk X G nL k1 n1 ws lv (pc + 3) rest) : Zk X G nL k1 n1 ws lv pc (.int y :: .int x :: rest) := fun H locs ls hP hD hS hl => lv_icmp_eq F.1.1 F.1.2.1 hdg ht (fun c => kt (by rw [if_pos c] at hf; exact hf) c H locs ls hP hD hS hl) (fun c => kf (by rw [if_neg c] at hf; exact hf) c H locs ls hP hD hS hl)
theorem zk_icmp_ge_t (F : zFk X G cc own nL fr C0 S0 lo) {x y : Int32} {off : Int} (tgt : Nat) (hdg : decode cc pc = .ok (.if_icmp .ge off, 3)) (ht : (pc : Int) + off = (tgt : Int)) (hc : y ≤ x) (kt : Zk X G nL k1 n1 ws lv tgt rest) : Zk X G nL k1 n1 ws lv pc (.int y :: .int x :: rest) := fun H locs ls hP hD hS hl => lv_icmp_ge F.1.1 F.1.2.1 hdg ht (fun _ => kt H locs ls hP hD hS hl) (fun c => absurd hc c)
theorem zk_icmp_ge_f (F : zFk X G cc own nL fr C0 S0 lo) {x y : Int32} {off : Int} (tgt : Nat) (hdg : decode cc pc = .ok (.if_icmp .ge off, 3)) (ht : (pc : Int) + off = (tgt : Int)) (hc : ¬ y ≤ x) (kf : Zk X G nL k1 n1 ws lv (pc + 3) rest) : Zk X G nL k1 n1 ws lv pc (.int y :: .int x :: rest) := fun H locs ls hP hD hS hl => lv_icmp_ge F.1.1 F.1.2.1 hdg ht (fun c => absurd c hc) (fun _ => kf H locs ls hP hD hS hl)
theorem zk_icmp_gt (F : zFk X G cc own nL fr C0 S0 lo) {x y : Int32} {off : Int} (tgt : Nat) {α : Type} {a b out : α} (hdg : decode cc pc = .ok (.if_icmp .gt off, 3)) (ht : (pc : Int) + off = (tgt : Int)) (hf : (if y < x then a else b) = out) (kt : a = out → y < x → Zk X G nL k1 n1 ws lv tgt rest) (kf : b = out → ¬ y < x → Zk X G nL k1 n1 ws lv (pc + 3) rest) : Zk X G nL k1 n1 ws lv pc (.int y :: .int x :: rest) := fun H locs ls hP hD hS hl => lv_icmp_gt F.1.1 F.1.2.1 hdg ht (fun c => kt (by rw [if_pos c] at hf; exact hf) c H locs ls hP hD hS hl) (fun c => kf (by rw [if_neg c] at hf; exact hf) c H locs ls hP hD hS hl)
theorem zk_icmp_gt_t (F : zFk X G cc own nL fr C0 S0 lo) {x y : Int32} {off : Int} (tgt : Nat) (hdg : decode cc pc = .ok (.if_icmp .gt off, 3)) (ht : (pc : Int) + off = (tgt : Int)) (hc : y < x) (kt : Zk X G nL k1 n1 ws lv tgt rest) : Zk X G nL k1 n1 ws lv pc (.int y :: .int x :: rest) := fun H locs ls hP hD hS hl => lv_icmp_gt F.1.1 F.1.2.1 hdg ht (fun _ => kt H locs ls hP hD hS hl) (fun c => absurd hc c)
theorem zk_icmp_gt_f (F : zFk X G cc own nL fr C0 S0 lo) {x y : Int32} {off : Int} (tgt : Nat) (hdg : decode cc pc = .ok (.if_icmp .gt off, 3)) (ht : (pc : Int) + off = (tgt : Int)) (hc : ¬ y < x) (kf : Zk X G nL k1 n1 ws lv (pc + 3) rest) : Zk X G nL k1 n1 ws lv pc (.int y :: .int x :: rest) := fun H locs ls hP hD hS hl => lv_icmp_gt F.1.1 F.1.2.1 hdg ht (fun c => absurd c hc) (fun _ => kf H locs ls hP hD hS hl)
theorem zk_goto (F : zFk X G cc own nL fr C0 S0 lo) {off : Int} (tgt : Nat) (hdg : decode cc pc = .ok (.goto off, 3)) (ht : (pc : Int) + off = (tgt : Int)) (kk : Zk X G nL k1 n1 ws lv tgt rest) : Zk X G nL k1 n1 ws lv pc rest := fun H locs ls hP hD hS hl => lv_goto F.1.1 F.1.2.1 hdg ht (kk H locs ls hP hD hS hl)
theorem zk_tabIn (F : zFk X G cc own nL fr C0 S0 lo) {dflt lo1 hi : Int} {offs : Array Int} {len : Nat} {x : Int32} {off : Int} (tgt : Nat) (hdg : decode cc pc = .ok (.tableswitch dflt lo1 hi offs, len)) (h1 : ¬ x.toInt < lo1) (h2 : ¬ hi < x.toInt) (ho : offs[(x.toInt - lo1).toNat]? = some off) (ht : (pc : Int) + off = (tgt : Int)) (kk : Zk X G nL k1 n1 ws lv tgt rest) : Zk X G nL k1 n1 ws lv pc (.int x :: rest) := fun H locs ls hP hD hS hl => lv_tableIn F.1.1 F.1.2.1 hdg h1 h2 ho ht (kk H locs ls hP hD hS hl)
theorem zk_tabOut (F : zFk X G cc own nL fr C0 S0 lo) {dflt lo1 hi : Int} {offs : Array Int} {len : Nat} {x : Int32} (tgt : Nat) (hdg : decode cc pc = .ok (.tableswitch dflt lo1 hi offs, len)) (h : x.toInt < lo1 ∨ hi < x.toInt) (ht : (pc : Int) + dflt = (tgt : Int)) (kk : Zk X G nL k1 n1 ws lv tgt rest) : Zk X G nL k1 n1 ws lv pc (.int x :: rest) := fun H locs ls hP hD hS hl => lv_tableOut F.1.1 F.1.2.1 hdg h ht (kk H locs ls hP hD hS hl)
theorem zk_get (F : zFk X G cc own nL fr C0 S0 lo) (q0 ci k : Nat) {a : Nat} {fs : List Value} {v : Value} {C : String} {T : u_T} {N index : Nat} (hin : ∀ w ∈ u_ws C T N, w ∈ wsL_law) (he : ws[q0]? = some (a, .inr (ci, fs))) (hc : vwCl[ci]? = some (C, T, N)) (hk : k < N) (hlink : Cond.fieldLink own index (T k).1 (T k).2.1 (T k).2.2.1 ∈ wsL_law) (hv : fs[k]? = some v) (hdg : decode cc pc = .ok (.getfield index, 3)) (kk : Zk X G nL k1 n1 ws lv (pc + 3) (v :: rest)) : Zk X G nL k1 n1 ws lv pc (.ref a :: rest) := fun H locs ls hP hD hS hl => va_get (Ts := wsL_law) F.1.1 F.1.2.1 F.2.1 hin F.1.2.2.2 F.2.2.1 hP q0 he hc k hk (F.2.1 _ hlink) (fun _ h => h) hv hdg (kk H locs ls hP hD hS hl)
theorem zk_put (F : zFk X G cc own nL fr C0 S0 lo) (q0 ci k : Nat) {a : Nat} {fs : List Value} {v : Value} {C : String} {T : u_T} {N index : Nat} (ws' : va_W) (hin : ∀ w ∈ u_ws C T N, w ∈ wsL_law) (ty0 : Nat → FieldType) (hty : ∀ k, k < N → parseFieldDescriptor (T k).2.2.1 = some (ty0 k)) (hnm : ∀ a, a < N → ∀ b, b < N → a ≠ b → (T a).2.1 ≠ (T b).2.1) (he : ws[q0]? = some (a, .inr (ci, fs))) (hc : vwCl[ci]? = some (C, T, N)) (hk : k < N) (hlink : Cond.fieldLink own index (T k).1 (T k).2.1 (T k).2.2.1 ∈ wsL_law) (hfin : (T k).2.2.2 = false) (hn : narrow (ty0 k) v = v) (hfit : fits (ty0 k) v = true) (hl0 : k < fs.length) (hw : ws.set q0 (a, .inr (ci, fs.set k v)) = ws') (hdg : decode cc pc = .ok (.putfield index, 3)) (kk : Zk X G nL k1 n1 ws' lv (pc + 3) rest) : Zk X G nL k1 n1 ws lv pc (v :: .ref a :: rest) := fun H locs ls hP hD hS hl => va_put (Ts := wsL_law) F.1.1 F.1.2.1 F.2.1 hin ty0 hty hnm F.1.2.2.2 F.2.2.1 hP hD hS q0 he hc k hk (F.2.1 _ hlink) (fun _ h => h) hfin (hty k hk) hn hfit hl0 hdg (fun H1 locs1 hP hD hS => kk H1 locs1 ls (hw ▸ hP) (hw ▸ hD) hS hl)
theorem zk_iast (F : zFk X G cc own nL fr C0 S0 lo) (q0 : Nat) {a n : Nat} {f : Nat → Int32} {i x : Int32} {α : Type} {kf : (Nat → Int32) → Option α} {out : α} (wsf : (Nat → Int32) → va_W) (he : ws[q0]? = some (a, cI G n f)) (hf : zs f n i x kf = some out) (hw : ∀ g, ws.set q0 (a, cI G n g) = wsf g) (hdg : decode cc pc = .ok (.iastore, 1)) (kk : ∀ g, kf g = some out → Zk X G nL k1 n1 (wsf g) lv (pc + 1) rest) : Zk X G nL k1 n1 ws lv pc (.int x :: .int i :: .ref a :: rest) := fun H locs ls hP hD hS hl => va_iast F.1.1 F.1.2.1 F.2.2.1 hP hD hS q0 0 he rfl (zs_some hf).1 hdg (fun H1 locs1 hP hD hS => kk _ (zs_some hf).2 H1 locs1 ls (hw _ ▸ hP) (hw _ ▸ hD) hS hl)
theorem zk_widen {k2 n2 : Nat} (h1 : k1 ≤ k2) (h2 : n1 ≤ n2) (kk : Zk X G nL k2 n2 ws lv pc st) : Zk X G nL k1 n1 ws lv pc st := fun H locs ls hP hD hS hl => W.widen h1 h2 (kk H locs ls hP hD hS hl)
theorem zk_perm (is : List Nat) (hn : va_nd is = true) (h1 : is.map (fun i => ws[i]?) = ws'.map some) (kk : Zk X G nL k1 n1 ws' lv pc st) : Zk X G nL k1 n1 ws lv pc st := fun H locs ls hP hD hS hl => kk H locs ls (hP.sub is (by
  have h := congrArg (List.filterMap id) h1
  simpa [List.filterMap_map] using h)) (hD.sub is hn h1) hS hl
/-- a row's contents matter within its length alone -/
theorem zcell_congr {cA : ClassId} {n : Nat} {f g : Nat → Int32} (h : ∀ j, j < n → f j = g j) : vp_cell cA (n, .inl f) = vp_cell cA (n, .inl g) := by
  rw [vp_cell_i, vp_cell_i]
  unfold arrV
  congr 1
  congr 1
  funext j
  show Value.int (f j.val) = Value.int (g j.val)
  rw [h j.val j.isLt]
theorem zcell_congrq {cA : ClassId} {n : Nat} {f g : Nat → Option Nat} (h : ∀ j, j < n → f j = g j) : vp_cell cA (n, .inr (.inr (.inr (.inr f)))) = vp_cell cA (n, .inr (.inr (.inr (.inr g)))) := by
  rw [vp_cell_q, vp_cell_q]
  unfold arrV
  congr 1
  congr 1
  funext j
  show va_rf (f j.val) = va_rf (g j.val)
  rw [h j.val j.isLt]
theorem zset_P {q0 a : Nat} {cA : ClassId} {x y : vp_A} {H : Heap} (hP : va_P G.1 vwCl ws H) (he : ws[q0]? = some (a, .inl (cA, x))) (h : vp_cell cA x = vp_cell cA y) : va_P G.1 vwCl (ws.set q0 (a, .inl (cA, y))) H := by
  intro k q hk
  by_cases hkp : k = q0
  · subst hkp
    rw [List.getElem?_set_self (List.getElem?_eq_some_iff.mp he).1] at hk
    cases hk
    have h1 := hP k _ he
    show H[a]? = some (vp_cell cA y)
    rw [← h]
    exact h1
  · rw [List.getElem?_set_ne (Ne.symm hkp)] at hk
    exact hP k q hk
theorem zk_conv (q0 : Nat) {a n : Nat} {cA : ClassId} {f g : Nat → Int32} (he : ws[q0]? = some (a, .inl (cA, n, .inl f))) (h : ∀ j, j < n → f j = g j) (ws' : va_W) (hw : ws.set q0 (a, .inl (cA, n, .inl g)) = ws') (kk : Zk X G nL k1 n1 ws' lv pc st) : Zk X G nL k1 n1 ws lv pc st := fun H locs ls hP hD hS hl => kk H locs ls (hw ▸ zset_P hP he (zcell_congr h)) (hw ▸ hD.set he) hS hl
theorem zk_convq (q0 : Nat) {a n : Nat} {cA : ClassId} {f g : Nat → Option Nat} (he : ws[q0]? = some (a, .inl (cA, n, .inr (.inr (.inr (.inr f)))))) (h : ∀ j, j < n → f j = g j) (ws' : va_W) (hw : ws.set q0 (a, .inl (cA, n, .inr (.inr (.inr (.inr g))))) = ws') (kk : Zk X G nL k1 n1 ws' lv pc st) : Zk X G nL k1 n1 ws lv pc st := fun H locs ls hP hD hS hl => kk H locs ls (hw ▸ zset_P hP he (zcell_congrq h)) (hw ▸ hD.set he) hS hl
theorem zk_objInit (F : zFk X G cc own nL fr C0 S0 lo) {idx a : Nat} (hc : Cond.methodLink own idx objectInit ∈ wsL_law ∧ Cond.instanceMethod objectInit ∈ wsL_law ∧ Cond.code objectInit ⟨#[0xb1]⟩ 1 none ∈ wsL_law) (hfr : 1 ≤ fr) (hlo : (rest.map fun v => v.category).sum + 12 ≤ lo) (hdg : decode cc pc = .ok (.invokespecial idx, 3)) (kk : Zk X G nL k1 n1 ws lv (pc + 3) rest) : Zk X G nL k1 n1 ws lv pc (.ref a :: rest) := by
  intro H locs ls hP hD hS hl
  refine W.objInit F.1.1 F.1.2.1 F.1.2.2.2 (F.2.1 _ hc.1) (F.2.1 _ hc.2.1) (F.2.1 _ hc.2.2) rfl (hl.1.trans F.1.2.2.1.symm) rfl hdg (by rw [F.2.2.2.2.1]; exact hfr) (by rw [F.2.2.2.2.1]; show 2 * 0 + _ + 12 ≤ lo; omega) ?_
  exact W.eq (g2 := F0 (xM X) (pc + 3) ls rest) rfl (kk H locs ls hP hD hS hl)
theorem zk_new (F : zFk X G cc own nL fr C0 S0 lo) (ci : Nat) {C : String} {T : u_T} {N index : Nat} (fs : List Value) (hin : ∀ w ∈ u_ws C T N, w ∈ wsL_law) (ty : Nat → FieldType) (hty : ∀ k, k < N → parseFieldDescriptor (T k).2.2.1 = some (ty k)) (hc : vwCl[ci]? = some (C, T, N)) (hw : Cond.classLink own index C ∈ wsL_law ∧ Cond.instantiable C N ∈ wsL_law ∧ Cond.initialized C ∈ wsL_law) (hfs : ∀ j, j < N → defaultValue (ty j) = vp_V fs j) (hk : k1 + 1 ≤ C0) (hn : n1 + N ≤ S0) (hdg : decode cc pc = .ok (.new index, 3)) (kk : ∀ q : Nat, Zk X G nL (k1 + 1) (n1 + N) (ws ++ [(q, .inr (ci, fs))]) lv (pc + 3) (.ref q :: rest)) : Zk X G nL k1 n1 ws lv pc rest := fun H locs ls hP hD hS hl => va_new (Ts := wsL_law) F.1.1 F.1.2.1 F.2.1 hin ty hty F.1.2.2.2 (F.2.1 _ hw.1) (F.2.1 _ hw.2.1) (F.2.1 _ hw.2.2) F.2.2.1 hP hD hS F.2.2.2.1 hc hfs (by rw [F.2.2.2.2.1]; exact hk) (by rw [F.2.2.2.2.1]; exact hn) hdg (fun q H1 hP hD hS => kk q H1 locs ls hP hD hS hl)
theorem zk_newaI (F : zFk X G cc own nL fr C0 S0 lo) {n : Int32} (N : Nat) (hw : Cond.arrayClass .int ∈ wsL_law) (hn : ¬ n < 0) (hN : n.toNatClampNeg = N) (hbytes : N * componentBytes .int ≤ 536870912) (hk : k1 + 1 ≤ C0) (hs : n1 + N ≤ S0) (hdg : decode cc pc = .ok (.newarray .int, 2)) (kk : ∀ q : Nat, Zk X G nL (k1 + 1) (n1 + N) (ws ++ [(q, cI G N (fun _ => 0))]) lv (pc + 2) (.ref q :: rest)) : Zk X G nL k1 n1 ws lv pc (.int n :: rest) := by
  intro H locs ls hP hD hS hl
  refine va_newaK (atype := .int) F.1.1 F.1.2.1 (F.2.1 _ hw) rfl hdg rfl hn hN hbytes (by rw [F.2.2.2.2.1]; exact hk) (by rw [F.2.2.2.2.1]; exact hs) rfl (fun H1 cA e1 z1 o1 hAr hNm => ?_)
  have hg : (xS X).vm.findClass _ = some (gI G) := (F.2.2.1.2 0 _ rfl).2
  have hcA : cA = gI G := Option.some.inj (hNm.symm.trans hg)
  subst hcA
  refine kk H.size H1 locs ls ((hP.kept fun k x hx => o1 x.1 ((hP k x hx).lt)).app (fun k x hx => ?_)) (hD.push hP rfl (F.2.2.2.1 _ hS.1)) ⟨Nat.le_trans hS.1 (by omega), fun x h1 h2 => (o1 x (Nat.lt_of_lt_of_le h1 hS.1)).trans (hS.2.1 x h1 h2), hS.2.2⟩ hl
  have hz : k < 1 := (List.getElem?_eq_some_iff.mp hx).1
  rw [show k = 0 by omega] at hx
  cases hx
  exact e1
theorem zk_newaB (F : zFk X G cc own nL fr C0 S0 lo) {n : Int32} (N : Nat) (hw : Cond.arrayClass .byte ∈ wsL_law) (hn : ¬ n < 0) (hN : n.toNatClampNeg = N) (hbytes : N * componentBytes .byte ≤ 536870912) (hk : k1 + 1 ≤ C0) (hs : n1 + N ≤ S0) (hdg : decode cc pc = .ok (.newarray .byte, 2)) (kk : ∀ q : Nat, Zk X G nL (k1 + 1) (n1 + N) (ws ++ [(q, cB G N (fun _ => 0))]) lv (pc + 2) (.ref q :: rest)) : Zk X G nL k1 n1 ws lv pc (.int n :: rest) := by
  intro H locs ls hP hD hS hl
  refine va_newaK (atype := .byte) F.1.1 F.1.2.1 (F.2.1 _ hw) rfl hdg rfl hn hN hbytes (by rw [F.2.2.2.2.1]; exact hk) (by rw [F.2.2.2.2.1]; exact hs) rfl (fun H1 cA e1 z1 o1 hAr hNm => ?_)
  have hg : (xS X).vm.findClass _ = some (gB G) := (F.2.2.1.2 1 _ rfl).2
  have hcA : cA = gB G := Option.some.inj (hNm.symm.trans hg)
  subst hcA
  refine kk H.size H1 locs ls ((hP.kept fun k x hx => o1 x.1 ((hP k x hx).lt)).app (fun k x hx => ?_)) (hD.push hP rfl (F.2.2.2.1 _ hS.1)) ⟨Nat.le_trans hS.1 (by omega), fun x h1 h2 => (o1 x (Nat.lt_of_lt_of_le h1 hS.1)).trans (hS.2.1 x h1 h2), hS.2.2⟩ hl
  have hz : k < 1 := (List.getElem?_eq_some_iff.mp hx).1
  rw [show k = 0 by omega] at hx
  cases hx
  exact e1
theorem zk_newaJ (F : zFk X G cc own nL fr C0 S0 lo) {n : Int32} (N : Nat) (hw : Cond.arrayClass .long ∈ wsL_law) (hn : ¬ n < 0) (hN : n.toNatClampNeg = N) (hbytes : N * componentBytes .long ≤ 536870912) (hk : k1 + 1 ≤ C0) (hs : n1 + N ≤ S0) (hdg : decode cc pc = .ok (.newarray .long, 2)) (kk : ∀ q : Nat, Zk X G nL (k1 + 1) (n1 + N) (ws ++ [(q, cJ G N (fun _ => 0))]) lv (pc + 2) (.ref q :: rest)) : Zk X G nL k1 n1 ws lv pc (.int n :: rest) := by
  intro H locs ls hP hD hS hl
  refine va_newaK (atype := .long) F.1.1 F.1.2.1 (F.2.1 _ hw) rfl hdg rfl hn hN hbytes (by rw [F.2.2.2.2.1]; exact hk) (by rw [F.2.2.2.2.1]; exact hs) rfl (fun H1 cA e1 z1 o1 hAr hNm => ?_)
  have hg : (xS X).vm.findClass _ = some (gJ G) := (F.2.2.1.2 2 _ rfl).2
  have hcA : cA = gJ G := Option.some.inj (hNm.symm.trans hg)
  subst hcA
  refine kk H.size H1 locs ls ((hP.kept fun k x hx => o1 x.1 ((hP k x hx).lt)).app (fun k x hx => ?_)) (hD.push hP rfl (F.2.2.2.1 _ hS.1)) ⟨Nat.le_trans hS.1 (by omega), fun x h1 h2 => (o1 x (Nat.lt_of_lt_of_le h1 hS.1)).trans (hS.2.1 x h1 h2), hS.2.2⟩ hl
  have hz : k < 1 := (List.getElem?_eq_some_iff.mp hx).1
  rw [show k = 0 by omega] at hx
  cases hx
  exact e1
theorem zk_newq (F : zFk X G cc own nL fr C0 S0 lo) {n : Int32} {index : Nat} (N : Nat) (hw : Cond.classLink own index "TallerAhead$Line" ∈ wsL_law) (hn : ¬ n < 0) (hN : n.toNatClampNeg = N) (hbytes : N * 4 ≤ 536870912) (hk : k1 + 1 ≤ C0) (hs : n1 + N ≤ S0) (hdg : decode cc pc = .ok (.anewarray index, 3)) (kk : ∀ q : Nat, Zk X G nL (k1 + 1) (n1 + N) (ws ++ [(q, cL G N (fun _ => none))]) lv (pc + 3) (.ref q :: rest)) : Zk X G nL k1 n1 ws lv pc (.int n :: rest) := by
  intro H locs ls hP hD hS hl
  have hov : va_AO "TallerAhead$Line" (xS X) := F.2.2.2.2.2.2.2.2.2.1
  refine va_newq F.1.1 F.1.2.1 F.1.2.2.2 (F.2.1 _ hw) hov F.2.2.1 hP hD hS F.2.2.2.1 hn hN hbytes (by rw [F.2.2.2.2.1]; exact hk) (by rw [F.2.2.2.2.1]; exact hs) hdg (fun q cA H1 hK2 hP hD hS => ?_)
  have h1 : (xS X).vm.findClass ("[" ++ (FieldType.object "TallerAhead$Line").toString) = some (gL G) := by
    obtain ⟨_, _, _, _, _, h⟩ := (F.2.2.1.2 3 _ rfl).2
    exact h
  have h2 : (xS X).vm.findClass ("[" ++ (FieldType.object "TallerAhead$Line").toString) = some cA := by
    obtain ⟨_, _, _, _, _, h⟩ := (hK2.2 6 (cA, .object "TallerAhead$Line") rfl).2
    exact h
  have hcA : cA = gL G := Option.some.inj (h2.symm.trans h1)
  subst hcA
  exact kk q H1 locs ls hP hD hS hl
theorem zk_astq (F : zFk X G cc own nL fr C0 S0 lo) (q0 qk ci : Nat) {a n v : Nat} {r : vw_C} {vs : List Value} {f : Nat → Option Nat} (he : ws[q0]? = some (a, cL G n f)) (hv : ws[qk]? = some (v, .inr (ci, vs))) (hc : vwCl[ci]? = some r) (hr : r.1 = "TallerAhead$Line") {i : Int32} (hin : vp_in i n) (j : Nat) (hj : i.toNatClampNeg = j) (ws' : va_W) (hw : ws.set q0 (a, cL G n (va_up f j (some v))) = ws') (hdg : decode cc pc = .ok (.aastore, 1)) (kk : Zk X G nL k1 n1 ws' lv (pc + 1) rest) : Zk X G nL k1 n1 ws lv pc (.ref v :: .int i :: .ref a :: rest) := by
  subst hj
  exact fun H locs ls hP hD hS hl => va_astq F.1.1 F.1.2.1 F.2.2.1 hP hD hS q0 3 qk ci he (by rw [hr]; rfl) hv hc hin hdg (fun H1 locs1 hP hD hS => kk H1 locs1 ls (hw ▸ hP) (hw ▸ hD) hS hl)
theorem zk_putF (F : zFk X G cc own nL fr C0 S0 lo) (q0 ci k : Nat) {a : Nat} {fs : List Value} {v : Value} {C : String} {T : u_T} {N index : Nat} (ws' : va_W) (hin : ∀ w ∈ u_ws C T N, w ∈ wsL_law) (ty0 : Nat → FieldType) (hty : ∀ k, k < N → parseFieldDescriptor (T k).2.2.1 = some (ty0 k)) (hnm : ∀ a, a < N → ∀ b, b < N → a ≠ b → (T a).2.1 ≠ (T b).2.1) (he : ws[q0]? = some (a, .inr (ci, fs))) (hc : vwCl[ci]? = some (C, T, N)) (hk : k < N) (hlink : Cond.fieldLink own index (T k).1 (T k).2.1 (T k).2.2.1 ∈ wsL_law) (hfin : (T k).2.2.2 = true) (hname : (xT X).name = "<init>") (hdecl : (T k).1 = own) (hn : narrow (ty0 k) v = v) (hfit : fits (ty0 k) v = true) (hl0 : k < fs.length) (hw : ws.set q0 (a, .inr (ci, fs.set k v)) = ws') (hdg : decode cc pc = .ok (.putfield index, 3)) (kk : Zk X G nL k1 n1 ws' lv (pc + 3) rest) : Zk X G nL k1 n1 ws lv pc (v :: .ref a :: rest) := fun H locs ls hP hD hS hl => va_putF (Ts := wsL_law) F.1.1 F.1.2.1 F.2.1 hin ty0 hty hnm F.1.2.2.2 F.2.2.1 hP hD hS q0 he hc k hk (F.2.1 _ hlink) (fun _ h => h) hfin hname hdecl (hty k hk) hn hfit hl0 hdg (fun H1 locs1 hP hD hS => kk H1 locs1 ls (hw ▸ hP) (hw ▸ hD) hS hl)
/-- new T[n][m], the inner rows at r 0, r 1 .. -/
theorem zk_mna (F : zFk X G cc own nL fr C0 S0 lo) {index : Nat} {ty : FieldType} {cy cz : ClassId} {n k : Int32} (N K t0 : Nat) (z : vp_A) (hw : Cond.classLink own index ("[" ++ (FieldType.array ty).toString) ∈ wsL_law ∧ Cond.arrayClass ty ∈ wsL_law) (hov : (Cond.arrayOver (.array ty)).before #[] (xS X) = true) (hcy : (xS X).vm.findClass (FieldType.array ty).toString = some cy) (hcz : (xS X).vm.findClass ("[" ++ (FieldType.array ty).toString) = some cz)
    (hn : ¬ n < 0) (hk : ¬ k < 0) (hN : n.toNatClampNeg = N) (hM : k.toNatClampNeg = K) (hb1 : N * 4 ≤ 536870912) (hb2 : K * componentBytes ty ≤ 536870912) (hb3 : K ≤ 536870912) (hdf : fits ty (defaultValue ty) = true) (hdd : (defaultValue ty).isDefault = true) (hcells : k1 + (1 + N) ≤ C0) (hslots : n1 + (N + N * K) ≤ S0) (hz : ∀ c : ClassId, Jvm.Free.Multi.innerC c K (defaultValue ty) = vp_cell c z) (hdg : decode cc pc = .ok (.multianewarray index 2, 4))
    (kk : ∀ (q : Nat) (r : Nat → Nat), Zk X G nL (k1 + 1 + N) (n1 + N + N * K) (ws ++ [(q, .inl (cz, N, .inr (.inr (.inr (.inr (fun i => some (r i)))))))] ++ (List.range N).map (fun i => (r i, .inl (cy, z)))) lv (pc + 4) (.ref q :: rest)) : Zk X G nL k1 n1 ws lv pc (.int k :: .int n :: rest) := by
  subst hN
  subst hM
  intro H locs ls hP hD hS hl T hT Xs
  obtain ⟨vm₁, cA, comp, -, fA, fC, hO, -, X', step⟩ := Xs.multianewarray2F F.1.1 F.1.2.2.2 (F.2.1 _ hw.1) hov (F.2.1 _ hw.2) (g := F0 (xM X) pc ls (.int k :: .int n :: rest)) rfl (by rw [F.1.2.1]; exact hdg) rfl hn hk hb1 hb2 hb3 hdf hdd (by rw [F.2.2.2.2.1]; exact hcells) (by rw [F.2.2.2.2.1]; exact hslots)
  have ec : some cy = some comp := hcy.symm.trans fC
  cases ec
  have ec2 : some cz = some cA := hcz.symm.trans fA
  cases ec2
  generalize hF : Jvm.Free.Multi.fill (T.setVm vm₁) cz cy n.toNatClampNeg k.toNatClampNeg (defaultValue ty) n.toNatClampNeg = F' at X' step
  have hTh : (T.setVm vm₁).heap = H := hT
  obtain ⟨f1, f2, -, -⟩ := Jvm.Free.Multi.fill_facts (T.setVm vm₁) cz cy n.toNatClampNeg k.toNatClampNeg (defaultValue ty) n.toNatClampNeg
  rw [hF, hTh] at f1 f2
  have hold : ∀ x : Nat, x < H.size → F'.heap[x]? = H[x]? := fun x hx => by
    have := Jvm.Free.Multi.fill_old (T.setVm vm₁) cz cy n.toNatClampNeg k.toNatClampNeg (defaultValue ty) (a := x) (by rw [hTh]; exact hx) n.toNatClampNeg
    rw [hF, hTh] at this
    exact this
  have hrow : ∀ j : Nat, j < n.toNatClampNeg → F'.heap[H.size + 1 + j]? = some (vp_cell cy z) := fun j hj => by
    have := Jvm.Free.Multi.fill_inner (T.setVm vm₁) cz cy n.toNatClampNeg k.toNatClampNeg (defaultValue ty) n.toNatClampNeg j hj
    rw [hF, hTh, hz] at this
    exact this
  have hout : Jvm.Free.Multi.outerC cz n.toNatClampNeg H.size n.toNatClampNeg = vp_cell cz (n.toNatClampNeg, .inr (.inr (.inr (.inr (fun i => some (H.size + 1 + i)))))) := by
    rw [zouter]
    exact zcell_congrq (fun j hj => by rw [if_pos hj])
  rw [hout] at f2
  have hP1 : va_P G.1 vwCl (ws ++ [(H.size, .inl (cz, n.toNatClampNeg, .inr (.inr (.inr (.inr (fun i => some (H.size + 1 + i)))))))]) F'.heap := (hP.kept (fun k9 x hx => hold x.1 ((hP k9 x hx).lt))).app (fun k9 x hx => by
    have h0 : k9 < 1 := (List.getElem?_eq_some_iff.mp hx).1
    rw [show k9 = 0 by omega] at hx
    cases hx
    exact f2)
  have hP2 : va_P G.1 vwCl ((ws ++ [(H.size, .inl (cz, n.toNatClampNeg, .inr (.inr (.inr (.inr (fun i => some (H.size + 1 + i)))))))]) ++ (List.range n.toNatClampNeg).map (fun i => (H.size + 1 + i, .inl (cy, z)))) F'.heap := hP1.app (fun k9 x hx => by
    obtain ⟨i, hi, rfl⟩ := List.mem_map.mp (List.mem_of_getElem? hx)
    exact hrow i (List.mem_range.mp hi))
  have hD1 := hD.push (e := .inl (cz, n.toNatClampNeg, .inr (.inr (.inr (.inr (fun i => some (H.size + 1 + i))))))) hP rfl (F.2.2.2.1 _ hS.1)
  have hD2 : va_D (xF X) ((ws ++ [(H.size, .inl (cz, n.toNatClampNeg, .inr (.inr (.inr (.inr (fun i => some (H.size + 1 + i)))))))]) ++ (List.range n.toNatClampNeg).map (fun i => (H.size + 1 + i, .inl (cy, z)))) := by
    have hle : ∀ (k9 : Nat) (x : Nat × va_E), (ws ++ [(H.size, .inl (cz, n.toNatClampNeg, .inr (.inr (.inr (.inr (fun i => some (H.size + 1 + i)))))))] : va_W)[k9]? = some x → x.1 ≤ H.size := fun k9 x hx => by
      by_cases hl : k9 < ws.length
      · rw [List.getElem?_append_left hl] at hx
        exact Nat.le_of_lt ((hP k9 x hx).lt)
      · rw [List.getElem?_append_right (by omega)] at hx
        have h0 : k9 - ws.length < 1 := (List.getElem?_eq_some_iff.mp hx).1
        rw [show k9 - ws.length = 0 by omega] at hx
        cases hx
        exact Nat.le_refl _
    have hr : ∀ (k9 : Nat) (x : Nat × va_E), ((List.range n.toNatClampNeg).map (fun i => ((H.size + 1 + i, .inl (cy, z)) : Nat × va_E)))[k9]? = some x → x.1 = H.size + 1 + k9 := fun k9 x hx => by
      rw [List.getElem?_map] at hx
      by_cases h9 : k9 < n.toNatClampNeg
      · rw [List.getElem?_range h9] at hx
        cases hx
        rfl
      · have hn0 : (List.range n.toNatClampNeg)[k9]? = none := List.getElem?_eq_none (by rw [List.length_range]; omega)
        rw [hn0] at hx
        cases hx
    refine va_D.app hD1 ⟨fun i j x y hi hj hxy => ?_, fun k9 x hx => ?_⟩ (fun i j x y hi hj hxy => ?_)
    · have := hr _ _ hi
      have := hr _ _ hj
      omega
    · have := hr _ _ hx
      exact F.2.2.2.1 _ (by have := hS.1; omega)
    · have := hle _ _ hi
      have := hr _ _ hj
      omega
  obtain ⟨t, a1, b1⟩ := kk H.size (fun i => H.size + 1 + i) F'.heap locs ls hP2 hD2 ⟨by rw [f1]; have := hS.1; omega, fun x h1 h2 => (hold x (Nat.lt_of_lt_of_le h1 hS.1)).trans (hS.2.1 x h1 h2), hS.2.2⟩ hl F' rfl X'
  refine ⟨t, step t ?_, b1⟩
  have e : T.heap.size = H.size := by rw [hT]
  rw [e]
  exact a1
/-! calls: of a method that makes nothing; of a constructor -/
theorem zk_start (F : zFk X G cc own nL fr C0 S0 lo) {wc : va_W} {H : Heap} {locs : List Loc} (hP : va_P G.1 vwCl ws H) (hD : va_D (xF X) ws) (hS : va_S (xF X) (xS X).heap H locs) (isC : List Nat) (hC : isC.map (fun i => ws[i]?) = wc.map some) (hn : va_nd isC = true) {av : List Value} : ∀ U : State, U.heap = H → (xS X).WarmedH U.vm → zPre G av wc H.size av.toArray U := by
  intro U hU hW
  have hFc := va_free (wc := wc) hD hS F.2.2.2.1 isC hC
  have hf : isC.filterMap (fun i => ws[i]?) = wc := by
    have h := congrArg (List.filterMap id) hC
    simpa [List.filterMap_map] using h
  refine ⟨rfl, by rw [hU], by rw [hU]; exact hP.sub isC hf, va_K.moved hW.alike F.2.2.1, (hD.sub isC hn hC).weaken (fun _ _ _ _ => trivial), ?_⟩
  rw [hU]
  exact (zSt.kept (zSt.moved hW.alike F.2.2.2.2.2) (fun a h1 h2 => hS.2.1 a h1 h2)).narrow hFc
theorem zk_run (F : zFk X G cc own nL fr C0 S0 lo) {wc w1 : va_W} {ret1 : Option FieldType} {v : Option Value} {H : Heap} {locs : List Loc} {ls : Array Slot} (hP : va_P G.1 vwCl ws H) (hD : va_D (xF X) ws) (hS : va_S (xF X) (xS X).heap H locs) (hl : lv_has ls nL lv) (isC : List Nat) (hC : isC.map (fun i => ws[i]?) = wc.map some) (ha : w1.map Prod.fst = wc.map Prod.fst) (hget : ∀ (k : Nat) (q : Nat × va_E), ws'[k]? = some q → (ws[k]? = some q ∧ k ∉ isC) ∨ ∃ j : Nat, isC[j]? = some k ∧ w1[j]? = some q) {a : Array Value}
    (hr : va_Run (xP X) (xL X) (xE X) (xR X) (xS X) (xM X) (xA X) (xB X) (xT X) (xC X) H locs k1 n1 0 0 (F0 (xM X) pc ls st) rest (zq ret1 v G w1 (va_A wc H.size) a) (va_A wc H.size)) (kk : zok ret1 v → Zk X G nL k1 n1 ws' lv (pc + 3) (v.toList ++ rest)) :
    W (xP X) (xL X) (xE X) (xR X) (xS X) (xM X) (xA X) (xB X) (xT X) (xC X) H locs k1 n1 (xQ X) (F0 (xM X) pc ls st) := by
  have hFc := va_free (wc := wc) hD hS F.2.2.2.1 isC hC
  intro T hT Y
  obtain ⟨v1, st₀, t, T', L, h0, Y', hL, e1, e2, ⟨hv, hz, hP1, hF⟩, stp⟩ := hr T hT Y
  have hv : v1 = v := Outcome.returned.inj hv
  subst hv
  rw [← e1] at hP1
  have hk : ∀ q : Nat, q < H.size → ¬ va_A wc H.size q → T'.heap[q]? = H[q]? := fun q h1 h2 => by
    rw [e1, ← h0]
    exact hF.2 q (by rw [h0]; exact h1) h2
  have hsz : H.size ≤ T'.heap.size := by rw [e1, ← h0]; exact hF.1
  obtain ⟨hP2, hD2⟩ := zget_frame hP hD isC hC ha hget hk hP1
  have hS2 : va_S (xF X) (xS X).heap T'.heap (locs ++ L) := ⟨Nat.le_trans hS.1 hsz, fun q h1 h2 => by rw [hk q (Nat.lt_of_lt_of_le h1 hS.1) (fun z => h2 (hFc q z))]; exact hS.2.1 q h1 h2, fun q hq => by
    rcases List.mem_append.mp hq with h | h
    · exact hS.2.2 q h
    · exact hFc _ (hL q h)⟩
  obtain ⟨t2, a1, b1⟩ := kk hz T'.heap (locs ++ L) ls hP2 hD2 hS2 hl T' rfl Y'
  exact ⟨t2, stp t2 a1, b1⟩
theorem zk_callB (F : zFk X G cc own nL fr C0 S0 lo) {y : MethodName} {bytes : ByteArray} {mL : Nat} {ret1 : Option FieldType} {index fr1 lo1 mc ms : Nat} (n : Nat) (hcode : Cond.code y bytes mL ret1 ∈ wsL_law) (hlink : Cond.methodLink own index y ∈ wsL_law) (hini : Cond.initialized y.cls ∈ wsL_law) (hd : y.cls ≠ "java/lang/invoke/MethodHandle" ∧ y.cls ≠ "java/lang/invoke/VarHandle" ∧ (parseMethodDescriptor y.desc).map (fun d => d.parameters.length) = some n) (hR : fr1 + 1 ≤ fr ∧ 8 + (mL + 11) + lo1 ≤ lo) :
    CallB (xR X) (xS X) (xA X) own index y bytes mL ret1 (Cond.code y bytes mL ret1 :: wsL_law) { frames := fr1, cells := mc, slots := ms, locals := lo1 } mc ms n := by
  obtain ⟨hx, h5, h6, h9, h10, h12⟩ := F
  refine callB_of n h5 (fun w h => ?_) rfl rfl rfl (h5 _ hini) (h5 _ hlink) hd (by rw [h10]; exact hR)
  rcases List.mem_cons.mp h with h | h
  · subst h
    exact uw_good _ hcode
  · exact uw_good _ h
theorem zk_callV (F : zFk X G cc own nL fr C0 S0 lo) {y : MethodName} {bytes : ByteArray} {mL : Nat} {ret1 : Option FieldType} {fr1 lo1 index b n : Nat} {wc w1 : va_W} {v : Option Value} {As : List Value} (ci : Nat) {fs : List Value} {T : u_T} {N : Nat} (hM : zM (xL X) y bytes mL ret1 fr1 lo1 G (.ref b :: As) wc v w1) (hc : Cond.code y bytes mL ret1 ∈ wsL_law ∧ Cond.initialized y.cls ∈ wsL_law ∧ Cond.instanceMethod y ∈ wsL_law ∧ Cond.selects y.cls y y ∈ wsL_law) (hlk : Cond.methodLink own index y ∈ wsL_law) (hd : y.cls ≠ "java/lang/invoke/MethodHandle" ∧ y.cls ≠ "java/lang/invoke/VarHandle" ∧ (parseMethodDescriptor y.desc).map (fun d => d.parameters.length) = some n) (hR : fr1 + 1 ≤ fr ∧ 8 + (mL + 11) + lo1 ≤ lo) (hn : As.length = n) (hk : k1 ≤ C0) (hs : n1 ≤ S0)
    (isC : List Nat) (hC : isC.map (fun i => ws[i]?) = wc.map some) (hnd : va_nd isC = true) (q0 : Nat) (hrec : ws[q0]? = some (b, .inr (ci, fs))) (hcl : vwCl[ci]? = some (y.cls, T, N)) (ws' : va_W) (inv : List (Option Nat)) (hlen : inv.length = ws.length) (hchk : zchk isC inv = true) (hw : zmg ws w1 inv = ws') (hst : st = As.reverse ++ .ref b :: rest) (hW : (rest.map fun v => v.category).sum ≤ 8) (hdg : decode cc pc = .ok (.invokevirtual index, 3)) (kk : zok ret1 v → Zk X G nL k1 n1 ws' lv (pc + 3) (v.toList ++ rest)) : Zk X G nL k1 n1 ws lv pc st := by
  intro H locs ls hP hD hS hl
  refine zk_run F hP hD hS hl isC hC hM.1 (fun k q h => zmg_dis hlen hchk (zlen hC hM.1) k q (by rw [hw]; exact h)) (va_runV (As := As) (rest := rest) ⟨F.1.1, F.1.2.1, F.1.2.2.1, F.1.2.2.2, F.2.1⟩ (hM.2 H.size) (C := y.cls) ⟨zk_callB F n hc.1 hlk hc.2.1 hd hR, F.2.1 _ hc.2.2.1, F.2.1 _ hc.2.2.2⟩ ⟨zPre_blind, va_recv F.2.2.1 hP hcl hrec, zk_start F hP hD hS isC hC hnd⟩ rfl hn hl.1 hst (lv_room hW) hdg ⟨by rw [F.2.2.2.2.1]; exact hk, by rw [F.2.2.2.2.1]; exact hs⟩) kk
theorem zk_callS (F : zFk X G cc own nL fr C0 S0 lo) {y : MethodName} {bytes : ByteArray} {mL : Nat} {ret1 : Option FieldType} {fr1 lo1 index n : Nat} {wc w1 : va_W} {v : Option Value} {As : List Value} (hM : zM (xL X) y bytes mL ret1 fr1 lo1 G As wc v w1) (hc : Cond.code y bytes mL ret1 ∈ wsL_law ∧ Cond.initialized y.cls ∈ wsL_law ∧ Cond.static y ∈ wsL_law) (hlk : Cond.methodLink own index y ∈ wsL_law) (hd : y.cls ≠ "java/lang/invoke/MethodHandle" ∧ y.cls ≠ "java/lang/invoke/VarHandle" ∧ (parseMethodDescriptor y.desc).map (fun d => d.parameters.length) = some n) (hR : fr1 + 1 ≤ fr ∧ 8 + (mL + 11) + lo1 ≤ lo) (hn : As.length = n) (hk : k1 ≤ C0) (hs : n1 ≤ S0)
    (isC : List Nat) (hC : isC.map (fun i => ws[i]?) = wc.map some) (hnd : va_nd isC = true) (ws' : va_W) (inv : List (Option Nat)) (hlen : inv.length = ws.length) (hchk : zchk isC inv = true) (hw : zmg ws w1 inv = ws') (hst : st = As.reverse ++ rest) (hW : (rest.map fun v => v.category).sum ≤ 8) (hdg : decode cc pc = .ok (.invokestatic index, 3)) (kk : zok ret1 v → Zk X G nL k1 n1 ws' lv (pc + 3) (v.toList ++ rest)) : Zk X G nL k1 n1 ws lv pc st := by
  intro H locs ls hP hD hS hl
  refine zk_run F hP hD hS hl isC hC hM.1 (fun k q h => zmg_dis hlen hchk (zlen hC hM.1) k q (by rw [hw]; exact h)) (va_runS (As := As) (rest := rest) ⟨F.1.1, F.1.2.1, F.1.2.2.1, F.1.2.2.2, F.2.1⟩ (hM.2 H.size) ⟨zk_callB F n hc.1 hlk hc.2.1 hd hR, F.2.1 _ hc.2.2⟩ ⟨zPre_blind, zk_start F hP hD hS isC hC hnd⟩ rfl hn hl.1 hst (lv_room hW) hdg ⟨by rw [F.2.2.2.2.1]; exact hk, by rw [F.2.2.2.2.1]; exact hs⟩) kk
/-- a constructor's contract: wf q is the world behind it, q the new cells' addresses -/
def zqN (G : zG) (wf : (Nat → Nat) → va_W) (A : Nat → Prop) : Array Value → State → Outcome → State → Prop := fun _ st oc t => oc = .returned none ∧ (∃ q : Nat → Nat, va_P G.1 vwCl (wf q) t.heap ∧ va_D A (wf q)) ∧ va_F A st t
def zN (l : Launch) (y : MethodName) (cc : ByteArray) (mL fr lo mc ms : Nat) (G : zG) (av : List Value) (ws : va_W) (wf : (Nat → Nat) → va_W) : Prop := ∀ sz : Nat, Met l y (Cond.code y cc mL none :: wsL_law) { frames := fr, cells := mc, slots := ms, locals := lo } (zPre G av ws sz) (zqN G wf (va_A ws sz)) mc ms (va_A ws sz)
def zRk (X : zX) (G : zG) (wf : (Nat → Nat) → va_W) (mc ms : Nat) : Prop := (xT X).sig.returnType = none ∧ (xT X).locks = false ∧ (xT X).name = "<init>" ∧ xQ X = MQ (xB X) (zqN G wf (xF X)) (xA X) (xS X) mc ms (xF X)
theorem zN.of {l : Launch} {y : MethodName} {cc : ByteArray} {mL fr lo mc ms : Nat} {G : zG} {av : List Value} {ws : va_W} {wf : (Nat → Nat) → va_W} (lv0 : List (Nat × Value)) {own : String} (ho : y.cls = own) (hnm : y.name = "<init>") (hy : plainFor y = true) (hn : (lg_sl av).length ≤ mL) (hl0 : lv_args 0 av = lv0)
    (k : ∀ X : zX, xL X = l → zFk X G cc own mL fr mc ms lo → zRk X G wf mc ms → Zk X G mL 0 0 ws lv0 0 []) : zN l y cc mL fr lo mc ms G av ws wf := by
  subst hl0
  subst ho
  intro sz
  refine Met.ofWF (cc := cc) (maxL := mL) (ret := none) hy rfl ?_
  intro p e s m args below meth c s₁ B hml hv
  obtain ⟨rfl, hsz, hP, hK, hD0, hSt⟩ := hv
  have hts := atoms_spec (ws := Cond.code y cc mL none :: wsL_law) B.pre
  subst hsz
  have hl := lv_entry av (n := mL) hn
  rw [lg_entry_eq]
  exact k (p, l, e, { frames := fr, cells := mc, slots := ms, locals := lo }, s, m, av.toArray, below, meth, c, va_A ws s.heap.size, MQ below (zqN G wf (va_A ws s.heap.size)) av.toArray s mc ms (va_A ws s.heap.size)) rfl
    ⟨⟨B.exec, B.bytes, hml, findClass_of_methodNamed B.named⟩, fun w h => hts w (List.mem_cons_of_mem _ h), hK, fun q h => Or.inr h, rfl, hSt⟩ ⟨B.returns, B.notSynchronized, (name_of_methodNamed B.named B.method).1.trans hnm, rfl⟩ s.heap [] _ hP hD0.self va_S.rf hl
theorem zk_vret (F : zFk X G cc own nL fr C0 S0 lo) {wf : (Nat → Nat) → va_W} {mc ms : Nat} (Rr : zRk X G wf mc ms) (q : Nat → Nat) (hw : ws = wf q) (hk : k1 ≤ mc) (hs : n1 ≤ ms) (hdg : decode cc pc = .ok (.return_, 1)) : Zk X G nL k1 n1 ws lv pc [] := by
  intro H locs ls hP hD hS hl
  obtain ⟨r1, r2, r3, r4⟩ := Rr
  subst hw
  refine W.widen hk hs ?_
  rw [r4]
  exact W.vret F.1.1 F.1.2.1 r1 (fun t ht hW => ⟨rfl, ⟨q, by rw [ht]; exact hP, hD⟩, hS.F ht⟩) hS.2.2 hdg r2
def zfn (l : List Nat) : Nat → Nat := fun i => l.getD i 0
theorem zk_callI (F : zFk X G cc own nL fr C0 S0 lo) {y : MethodName} {bytes : ByteArray} {mL fr1 lo1 mc ms index b n : Nat} {wc : va_W} {wf : (Nat → Nat) → va_W} {As : List Value} (hM : zN (xL X) y bytes mL fr1 lo1 mc ms G (.ref b :: As) wc wf) (hc : Cond.code y bytes mL none ∈ wsL_law ∧ Cond.initialized y.cls ∈ wsL_law ∧ Cond.instanceMethod y ∈ wsL_law) (hnm : y.name = "<init>") (hlk : Cond.methodLink own index y ∈ wsL_law) (hd : y.cls ≠ "java/lang/invoke/MethodHandle" ∧ y.cls ≠ "java/lang/invoke/VarHandle" ∧ (parseMethodDescriptor y.desc).map (fun d => d.parameters.length) = some n) (hR : fr1 + 1 ≤ fr ∧ 8 + (mL + 11) + lo1 ≤ lo) (hn : As.length = n) (hk : k1 + mc ≤ C0) (hs : n1 + ms ≤ S0)
    (isC isR : List Nat) (wr : va_W) (hC : isC.map (fun i => ws[i]?) = wc.map some) (hRr : isR.map (fun i => ws[i]?) = wr.map some) (hnd : va_nd isC = true) (hndR : va_nd isR = true) (hdis : ∀ i ∈ isR, i ∉ isC) (hst : st = As.reverse ++ .ref b :: rest) (hW : (rest.map fun v => v.category).sum ≤ 8) (hdg : decode cc pc = .ok (.invokespecial index, 3)) (kk : ∀ q : Nat → Nat, Zk X G nL (k1 + mc) (n1 + ms) (wr ++ wf q) lv (pc + 3) rest) : Zk X G nL k1 n1 ws lv pc st := by
  intro H locs ls hP hD hS hl
  have hFc := va_free (wc := wc) hD hS F.2.2.2.1 isC hC
  have hr := va_runI (l := xL X) (As := As) (rest := rest) (g := F0 (xM X) pc ls st) (H := H) (locs := locs) (cells := k1) (slots := n1) (R := xR X) (e := xE X) (below := xB X) (meth := xT X) ⟨F.1.1, F.1.2.1, F.1.2.2.1, F.1.2.2.2, F.2.1⟩ (hM H.size) ⟨zk_callB F n hc.1 hlk hc.2.1 hd hR, hnm, F.2.1 _ hc.2.2⟩ ⟨zPre_blind, zk_start F hP hD hS isC hC hnd⟩ rfl hn hl.1 hst (lv_room hW) hdg ⟨by rw [F.2.2.2.2.1]; exact hk, by rw [F.2.2.2.2.1]; exact hs⟩
  intro T hT Y
  obtain ⟨v1, st₀, t, T', L, h0, Y', hL, e1, e2, ⟨hv, ⟨q, hP1, hD1⟩, hF⟩, stp⟩ := hr T hT Y
  have hv : v1 = none := Outcome.returned.inj hv
  subst hv
  rw [← e1] at hP1
  have hk2 : ∀ q : Nat, q < H.size → ¬ va_A wc H.size q → T'.heap[q]? = H[q]? := fun q h1 h2 => by
    rw [e1, ← h0]
    exact hF.2 q (by rw [h0]; exact h1) h2
  have hsz : H.size ≤ T'.heap.size := by rw [e1, ← h0]; exact hF.1
  obtain ⟨hP2, hD2⟩ := va_join hP hD isC isR hC hRr hndR hdis hk2 hFc hP1 hD1
  have hS2 : va_S (xF X) (xS X).heap T'.heap (locs ++ L) := ⟨Nat.le_trans hS.1 hsz, fun q h1 h2 => by rw [hk2 q (Nat.lt_of_lt_of_le h1 hS.1) (fun z => h2 (hFc q z))]; exact hS.2.1 q h1 h2, fun q hq => by
    rcases List.mem_append.mp hq with h | h
    · exact hS.2.2 q h
    · exact hFc _ (hL q h)⟩
  obtain ⟨t2, a1, b1⟩ := kk q T'.heap (locs ++ L) ls hP2 hD2 hS2 hl T' rfl Y'
  exact ⟨t2, stp t2 a1, b1⟩
theorem zk_iastc (F : zFk X G cc own nL fr C0 S0 lo) (q0 j : Nat) {a n : Nat} {f : Nat → Int32} {i x : Int32} (ws' : va_W) (he : ws[q0]? = some (a, cI G n f)) (hin : vp_in i n) (hj : i.toNatClampNeg = j) (hw : ws.set q0 (a, cI G n (upd f j x)) = ws') (hdg : decode cc pc = .ok (.iastore, 1)) (kk : Zk X G nL k1 n1 ws' lv (pc + 1) rest) : Zk X G nL k1 n1 ws lv pc (.int x :: .int i :: .ref a :: rest) := by
  subst hj
  exact fun H locs ls hP hD hS hl => va_iast F.1.1 F.1.2.1 F.2.2.1 hP hD hS q0 0 he rfl hin hdg (fun H1 locs1 hP hD hS => kk H1 locs1 ls (hw ▸ hP) (hw ▸ hD) hS hl)
/-! the script -/
theorem zk_slen (F : zFk X G cc own nL fr C0 S0 lo) {b L : Nat} {xs : Nat → Int32} (hX : va_X b L xs (xS X) (xS X).heap) (hbl : b < (xS X).heap.size) (hbA : ¬ xF X b) (hdg : decode cc pc = .ok (.arraylength, 1)) (kk : Zk X G nL k1 n1 ws lv (pc + 1) (.int (nI L) :: rest)) : Zk X G nL k1 n1 ws lv pc (.ref b :: rest) := fun H locs ls hP hD hS hl => va_slen F.1.1 F.1.2.1 hX hbl hbA hS hdg (kk H locs ls hP hD hS hl)
theorem zk_sld (F : zFk X G cc own nL fr C0 S0 lo) {b L : Nat} {xs : Nat → Int32} (hX : va_X b L xs (xS X) (xS X).heap) (hbl : b < (xS X).heap.size) (hbA : ¬ xF X b) {i : Int32} (hin : vp_in i L) (v : Int32) (hv : xs i.toNatClampNeg = v) (hdg : decode cc pc = .ok (.iaload, 1)) (kk : Zk X G nL k1 n1 ws lv (pc + 1) (.int v :: rest)) : Zk X G nL k1 n1 ws lv pc (.int i :: .ref b :: rest) := by
  subst hv
  exact fun H locs ls hP hD hS hl => va_sld F.1.1 F.1.2.1 hX hbl hbA hS hin hdg (kk H locs ls hP hD hS hl)
end ZKR
