/-! LAYER (c): the relation at the start (by wip/whole/c/c.py) -/
set_option maxRecDepth 100000 in
theorem qq_init (o_fill : Nat → Int32) (o_rows : Nat → Nat → Int32) (h_fill : f_Arr_fillI 6 (fun _ => 0) (-1) = some o_fill) (h_rows : f_Books_countRows (fun _ _ => 0) = some o_rows) : qq_REL ((0), (0), (fun _ => 0), (0), (fun _ => 0), (0), (0), (0), (fun _ => 0), (0), (0), (0), (0), (0), (fun _ => 0), (fun _ => 0), (fun _ => 0), (fun _ => 0), (fun _ => 0), (0), (0), (fun _ => 0), (fun _ _ => 0), (fun _ => 0), (fun _ => 0), (fun _ => 0), (0), (0), (fun _ => 0), (fun _ => 0), (fun _ => 0), (0), (fun _ => 0), o_fill, (fun _ => 0), (fun _ => 0), (fun _ _ => 0), (0), (fun _ => 0), (0), (fun _ => 0), (0), (fun _ => 0), (fun _ => 0), (fun _ => 0), o_rows, (0), (fun _ => 0), (fun _ => 0), (fun _ => 0), (fun _ => 0), (0), (0), (0), (0), (fun _ => 0), (fun _ => 0)) ((0), (0), (0), (0), ((-1)), (0), (0), (0), (0), (0), (0), (0), (0), (0), (0), (0), (0), (0), (0), (0), (0), (fun _ => 0), (fun _ => 0), (fun _ => 0), (fun _ => 0), (fun _ => 0), (fun _ => 0), (fun _ => 0), (fun _ => 0), (fun _ => 0), (fun _ => 0), (fun _ => 0), (fun _ => 0), (fun _ => 0), (fun _ => 0), (fun _ => 0), (fun _ => 0), (fun _ => 0), (fun _ => 0), (fun _ => 0), (fun _ => 0), (fun _ => 0), (fun _ => 0), (upd (upd (upd (upd (upd (upd (fun _ => 0) 0 (-1)) 1 (-1)) 2 (-1)) 3 (-1)) 4 (-1)) 5 (-1)), (fun _ => 0), (fun _ => 0), (fun _ => 0)) := by
  obtain ⟨w, e, hw⟩ := qq_fillI (N := 6) (by omega) (-nI 1) (fun _ => 0)
  rw [show (-1 : Int32) = -nI 1 from rfl, e] at h_fill
  have e2 : w = o_fill := by injection h_fill
  subst e2
  obtain ⟨o, e3, hR⟩ := qq_countRows
  have e4 : o = o_rows := by
    have e5 := e3.symm.trans h_rows
    injection e5
  subst e4
  refine qq_REL_mk ⟨0, fun _ => 0, fun _ => 0, 0, qq_lw0, ⟨rfl, rfl, (fun i hi => absurd hi (Nat.not_lt_zero i)), (fun i hi => absurd hi (Nat.not_lt_zero i)), ⟨fun p hp => absurd hp (Nat.not_lt_zero p), fun p r hp => absurd hp (Nat.not_lt_zero p)⟩, Nat.zero_le 9, rfl, rfl, (fun i hi => absurd hi (Nat.not_lt_zero i)), (fun i hi => absurd hi (Nat.not_lt_zero i)), ⟨(fun i hi => absurd hi (Nat.not_lt_zero i)), fun i j hi => absurd hi (Nat.not_lt_zero i)⟩, Or.inl ⟨by decide +kernel, rfl⟩, Or.inl ⟨rfl, rfl⟩, fun a s g _ _ _ => Or.inl rfl⟩, ⟨0, 0, rfl, rfl, rfl, by omega, by omega, fun k h1 h2 => absurd h1 (by omega)⟩, fun _ _ => rfl, fun _ _ => rfl, ⟨0, 0, rfl, rfl, rfl, rfl, by omega, by omega, fun _ => 0, fun _ => 0, fun _ => 0, (fun i hi => absurd hi (Nat.not_lt_zero i))⟩, ⟨false, rfl, rfl, fun h => absurd h Bool.false_ne_true⟩, ?_, hR, ⟨0, 0, rfl, rfl, by omega, (fun i hi => absurd hi (Nat.not_lt_zero i)), rfl, rfl, rfl, by omega, rfl⟩, ⟨0, fun _ => 0, rfl, rfl, by omega, (fun i hi => absurd hi (Nat.not_lt_zero i))⟩⟩
  intro d hd
  refine Or.inl ⟨by rw [hw d, if_pos hd], ?_, rfl, rfl⟩
  unfold upd
  (repeat' split) <;> first | rfl | (exfalso; omega)
