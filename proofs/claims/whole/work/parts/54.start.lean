/-! the start out of op_law alone -/
theorem la_ops_of (h : op_law qq_REL) : la_ops qq_REL := ⟨qq_r_person, qq_r_people, qq_r_mend, qq_r_of, qq_r_feed, h, qq_r_disquiet, qq_r_swap, qq_r_enter, qq_r_leave, qq_r_serve, qq_r_grow, qq_r_restore, qq_r_was, qq_r_again, qq_r_book, qq_r_restored, qq_r_ways, qq_r_gap, qq_r_rows, qq_r_rth, qq_r_calm, qq_r_where, qq_r_growth, qq_r_far, qq_r_sorted, qq_r_right, qq_r_mixed, qq_r_image, qq_r_back, qq_r_undo, qq_r_redo, qq_r_body, qq_r_act, qq_r_trace, qq_r_keep, qq_r_row, qq_r_put, qq_r_element, qq_r_shift, qq_r_taken, qq_r_count⟩
theorem whole_start1 (hlaw : op_law qq_REL) {p : Program} {e : Env} {s : State} {m : MethodId} {below : List Frame} {meth : Method} {c : Code} (l : Launch) {b L : Nat} {xs : Nat → Int32} (hL : L ≤ 3072) (C0 : lw_At p s m meth c b L xs) : W p l e room_1 s m #[Value.ref b] below meth c s.heap [] 0 0 (lw_Z below #[Value.ref b] s) (entryFrame m ([Value.ref b] : List Value).toArray 4) := by
  obtain ⟨w, e1, _⟩ := qq_fillI (N := 6) (by omega) (-1) (fun _ => 0)
  obtain ⟨o, e3, _⟩ := qq_countRows
  exact whole_start0 qq_REL (la_ops_of hlaw) w o e1 e3 (qq_init w o e1 e3) l hL C0
