set_option maxHeartbeats 4000000 in
set_option maxRecDepth 100000 in
theorem law_steps {p : Program} {l : Launch} {e : Env} {s : State} {m : MethodId} {below : List Frame} {meth : Method} {c : Code} {D : va_G} {gb : GB} {cI cL : ClassId} {b Ln : Nat} {xs : Nat → Int32} {hx h0 M : Nat} {gv : Nat → GV} {cells slots : Nat} {x3 : Int32} {H : Heap} {locs : List Loc} {ls : Array Slot} {a_refused : Nat → Int32} {a_isWall : Nat → Int32} {a_kind : Nat → Int32} {a_lampCell : Nat → Int32} {a_range : Nat → Int32} {a_lit : Nat → Int32} {a_scenes : Nat → Int32} {a_who : Nat → Int32} {a_cell : Nat → Int32} {a_minuteOf : Nat → Int32} {a_standsAt : Nat → Int32} {i_lampMany : Int32} {i_people : Int32} {i_minute : Int32} {a_tape : Nat → Int32} {a_letter : Nat → Int32} {a_letterAt : Nat → Int32} {a_told : Nat → Int32} {i_taped : Int32} {i_at : Int32} {i_statements : Int32} {a_kept : Nat → Int32} {i_hasImage : Int32} {i_isKeeping : Int32} {i_cursor : Int32} {a_far : Nat → Int32} {a_shut : Nat → Int32} {a_queue : Nat → Int32} {i_queued : Int32} {a_litBy : Nat → Int32} {a_may : Nat → Int32} {a_row : Nat → Int32} {i_rowMany : Int32} (C0 : lC p s m meth c b Ln xs D gb cI cL) (hR : Rel hx h0 gv M a_refused a_isWall a_kind a_lampCell a_range a_lit a_scenes a_who a_cell a_minuteOf a_standsAt i_lampMany i_people i_minute a_tape a_letter a_letterAt a_told i_taped i_at i_statements a_kept i_hasImage i_isKeeping i_cursor a_far a_shut a_queue i_queued a_litBy a_may a_row i_rowMany) (hG : GP D gb M (gW cI cL gv) H) (hS : va_S (gA gb) s.heap H locs) (hl : lv_has ls 4 [(0, .ref b), (1, .ref hx), (2, .ref h0), (3, .int x3)]) (h_1 : vp_in (x3 + 1) Ln) (h_2 : vp_in (x3 + 2) Ln) (hc1 : cells + 94 ≤ 600000) (hc2 : slots + 658 ≤ 7302250) (kk : (∀ (gv2 : Nat → GV) (M2 : Nat) (a_refused : Nat → Int32) (a_isWall : Nat → Int32) (a_kind : Nat → Int32) (a_lampCell : Nat → Int32) (a_range : Nat → Int32) (a_lit : Nat → Int32) (a_scenes : Nat → Int32) (a_who : Nat → Int32) (a_cell : Nat → Int32) (a_minuteOf : Nat → Int32) (a_standsAt : Nat → Int32) (i_lampMany : Int32) (i_people : Int32) (i_minute : Int32) (a_tape : Nat → Int32) (a_letter : Nat → Int32) (a_letterAt : Nat → Int32) (a_told : Nat → Int32) (i_taped : Int32) (i_at : Int32) (i_statements : Int32) (a_kept : Nat → Int32) (i_hasImage : Int32) (i_isKeeping : Int32) (i_cursor : Int32) (a_far : Nat → Int32) (a_shut : Nat → Int32) (a_queue : Nat → Int32) (i_queued : Int32) (a_litBy : Nat → Int32) (a_may : Nat → Int32) (a_row : Nat → Int32) (i_rowMany : Int32) (H : Heap) (locs : List Loc) (ls : Array Slot), Rel hx h0 gv2 M2 a_refused a_isWall a_kind a_lampCell a_range a_lit a_scenes a_who a_cell a_minuteOf a_standsAt i_lampMany i_people i_minute a_tape a_letter a_letterAt a_told i_taped i_at i_statements a_kept i_hasImage i_isKeeping i_cursor a_far a_shut a_queue i_queued a_litBy a_may a_row i_rowMany → GP D gb M2 (gW cI cL gv2) H → va_S (gA gb) s.heap H locs → lv_has ls 4 [(0, .ref b), (1, .ref hx), (2, .ref h0), (3, .int x3)] → W p l e room_1 s m #[Value.ref b] below meth c H locs (cells + 94) (slots + 658) (lw_Z below #[Value.ref b] s) (F0 m 1045 ls []))) : W p l e room_1 s m #[Value.ref b] below meth c H locs cells slots (lw_Z below #[Value.ref b] s) (F0 m 376 ls []) := by
  obtain ⟨hxx, hb, hr, hml, hown, hts0, hX, hbl, hbA, hlocks, hgb, hKn⟩ := C0
  have hK := hKn.1
  have hts : ∀ w ∈ wsL_law, w.before #[Value.ref b] s = true := fun w h => hts0 w (wsL_law_in w h)
  obtain ⟨r, gv', a_refused', a_far', a_shut', a_queue', i_queued', e1, e2, e3, e4⟩ := op_steps hR (xs (x3 + 1).toNatClampNeg) (xs (x3 + 2).toNatClampNeg)
  obtain ⟨fx, hfx⟩ := hR.cell
  refine lv_aload_n hxx hb dL_law_376 rfl (lv_at hl 1 rfl) ?_
  refine lv_aload_n hxx hb dL_law_377 rfl (lv_at hl 0 rfl) ?_
  refine lv_iload_n hxx hb dL_law_378 rfl (lv_at hl 3 rfl) ?_
  refine lv_iconst (v := 1) hxx hb dL_law_379 (by decide) ?_
  refine lv_iadd hxx hb dL_law_380 ?_
  refine va_sld hxx hb hX hbl hbA hS h_1 dL_law_381 ?_
  refine lv_aload_n hxx hb dL_law_382 rfl (lv_at hl 0 rfl) ?_
  refine lv_iload_n hxx hb dL_law_383 rfl (lv_at hl 3 rfl) ?_
  refine lv_iconst (v := 2) hxx hb dL_law_384 (by decide) ?_
  refine lv_iadd hxx hb dL_law_385 ?_
  refine va_sld hxx hb hX hbl hbA hS h_2 dL_law_386 ?_
  refine gp_callI (va_runV (As := [.int (xs (x3 + 1).toNatClampNeg), .int (xs (x3 + 2).toNatClampNeg)]) (rest := []) ⟨hxx, hb, hml, hown, hts⟩ (c_X11_steps (l := l) (D := D) (b := gb) (cI := cI) (cL := cL) e1) (cwV 2 hts gL_law_X11_steps rfl rfl rfl (by decide +kernel) ⟨Nat.le_of_ble_eq_true rfl, Nat.le_of_ble_eq_true rfl⟩) (gp_preV hKn hG (cp_obj hfx) rfl) rfl rfl hl.1 rfl (lv_room (Nat.le_of_ble_eq_true rfl)) dL_law_387 ⟨by show _ ≤ (600000 : Nat); omega, by show _ ≤ (7302250 : Nat); omega⟩) hS (fun H locs hG hS => ?_)
  rw [← e3, mgv_W] at hG
  refine lv_aload_n hxx hb dL_law_390 rfl (lv_at hl 2 rfl) ?_
  refine lv_aload_n hxx hb dL_law_391 rfl (lv_at hl 0 rfl) ?_
  refine lv_iload_n hxx hb dL_law_392 rfl (lv_at hl 3 rfl) ?_
  refine lv_iconst (v := 1) hxx hb dL_law_393 (by decide) ?_
  refine lv_iadd hxx hb dL_law_394 ?_
  refine va_sld hxx hb hX hbl hbA hS h_1 dL_law_395 ?_
  refine lv_aload_n hxx hb dL_law_396 rfl (lv_at hl 0 rfl) ?_
  refine lv_iload_n hxx hb dL_law_397 rfl (lv_at hl 3 rfl) ?_
  refine lv_iconst (v := 2) hxx hb dL_law_398 (by decide) ?_
  refine lv_iadd hxx hb dL_law_399 ?_
  refine va_sld hxx hb hX hbl hbA hS h_2 dL_law_400 ?_
  refine gp_callI (va_runV (As := [.int (xs (x3 + 1).toNatClampNeg), .int (xs (x3 + 2).toNatClampNeg)]) (rest := [.int r]) ⟨hxx, hb, hml, hown, hts⟩ (c_X12_steps (l := l) (D := D) (b := gb) (cI := cI) (cL := cL) e2) (cwV 2 hts gL_law_X12_steps rfl rfl rfl (by decide +kernel) ⟨Nat.le_of_ble_eq_true rfl, Nat.le_of_ble_eq_true rfl⟩) (gp_preV hKn hG mg_o rfl) rfl rfl hl.1 rfl (lv_room (Nat.le_of_ble_eq_true rfl)) dL_law_401 ⟨by show _ ≤ (600000 : Nat); omega, by show _ ≤ (7302250 : Nat); omega⟩) hS (fun H locs hG hS => ?_)
  rw [← mgv_W] at hG
  refine lv_icmp_eq (tgt := 1045) hxx hb dL_law_404 (by decide) (fun _ => ?_) (fun c => absurd rfl c)
  exact W.widen (by omega) (by omega) (kk _ _ _ _ _ _ _ _ _ _ _ _ _ _ _ _ _ _ _ _ _ _ _ _ _ _ _ _ _ _ _ _ _ _ _ _ _ _ e4 hG hS hl)
set_option maxHeartbeats 4000000 in
set_option maxRecDepth 100000 in
theorem law_lights {p : Program} {l : Launch} {e : Env} {s : State} {m : MethodId} {below : List Frame} {meth : Method} {c : Code} {D : va_G} {gb : GB} {cI cL : ClassId} {b Ln : Nat} {xs : Nat → Int32} {hx h0 M : Nat} {gv : Nat → GV} {cells slots : Nat} {x3 : Int32} {H : Heap} {locs : List Loc} {ls : Array Slot} {a_refused : Nat → Int32} {a_isWall : Nat → Int32} {a_kind : Nat → Int32} {a_lampCell : Nat → Int32} {a_range : Nat → Int32} {a_lit : Nat → Int32} {a_scenes : Nat → Int32} {a_who : Nat → Int32} {a_cell : Nat → Int32} {a_minuteOf : Nat → Int32} {a_standsAt : Nat → Int32} {i_lampMany : Int32} {i_people : Int32} {i_minute : Int32} {a_tape : Nat → Int32} {a_letter : Nat → Int32} {a_letterAt : Nat → Int32} {a_told : Nat → Int32} {i_taped : Int32} {i_at : Int32} {i_statements : Int32} {a_kept : Nat → Int32} {i_hasImage : Int32} {i_isKeeping : Int32} {i_cursor : Int32} {a_far : Nat → Int32} {a_shut : Nat → Int32} {a_queue : Nat → Int32} {i_queued : Int32} {a_litBy : Nat → Int32} {a_may : Nat → Int32} {a_row : Nat → Int32} {i_rowMany : Int32} (C0 : lC p s m meth c b Ln xs D gb cI cL) (hR : Rel hx h0 gv M a_refused a_isWall a_kind a_lampCell a_range a_lit a_scenes a_who a_cell a_minuteOf a_standsAt i_lampMany i_people i_minute a_tape a_letter a_letterAt a_told i_taped i_at i_statements a_kept i_hasImage i_isKeeping i_cursor a_far a_shut a_queue i_queued a_litBy a_may a_row i_rowMany) (hG : GP D gb M (gW cI cL gv) H) (hS : va_S (gA gb) s.heap H locs) (hl : lv_has ls 4 [(0, .ref b), (1, .ref hx), (2, .ref h0), (3, .int x3)]) (h_1 : vp_in (x3 + 1) Ln) (h_2 : vp_in (x3 + 2) Ln) (hc1 : cells + 94 ≤ 600000) (hc2 : slots + 658 ≤ 7302250) (kk : (∀ (gv2 : Nat → GV) (M2 : Nat) (a_refused : Nat → Int32) (a_isWall : Nat → Int32) (a_kind : Nat → Int32) (a_lampCell : Nat → Int32) (a_range : Nat → Int32) (a_lit : Nat → Int32) (a_scenes : Nat → Int32) (a_who : Nat → Int32) (a_cell : Nat → Int32) (a_minuteOf : Nat → Int32) (a_standsAt : Nat → Int32) (i_lampMany : Int32) (i_people : Int32) (i_minute : Int32) (a_tape : Nat → Int32) (a_letter : Nat → Int32) (a_letterAt : Nat → Int32) (a_told : Nat → Int32) (i_taped : Int32) (i_at : Int32) (i_statements : Int32) (a_kept : Nat → Int32) (i_hasImage : Int32) (i_isKeeping : Int32) (i_cursor : Int32) (a_far : Nat → Int32) (a_shut : Nat → Int32) (a_queue : Nat → Int32) (i_queued : Int32) (a_litBy : Nat → Int32) (a_may : Nat → Int32) (a_row : Nat → Int32) (i_rowMany : Int32) (H : Heap) (locs : List Loc) (ls : Array Slot), Rel hx h0 gv2 M2 a_refused a_isWall a_kind a_lampCell a_range a_lit a_scenes a_who a_cell a_minuteOf a_standsAt i_lampMany i_people i_minute a_tape a_letter a_letterAt a_told i_taped i_at i_statements a_kept i_hasImage i_isKeeping i_cursor a_far a_shut a_queue i_queued a_litBy a_may a_row i_rowMany → GP D gb M2 (gW cI cL gv2) H → va_S (gA gb) s.heap H locs → lv_has ls 4 [(0, .ref b), (1, .ref hx), (2, .ref h0), (3, .int x3)] → W p l e room_1 s m #[Value.ref b] below meth c H locs (cells + 94) (slots + 658) (lw_Z below #[Value.ref b] s) (F0 m 1045 ls []))) : W p l e room_1 s m #[Value.ref b] below meth c H locs cells slots (lw_Z below #[Value.ref b] s) (F0 m 409 ls []) := by
  obtain ⟨hxx, hb, hr, hml, hown, hts0, hX, hbl, hbA, hlocks, hgb, hKn⟩ := C0
  have hK := hKn.1
  have hts : ∀ w ∈ wsL_law, w.before #[Value.ref b] s = true := fun w h => hts0 w (wsL_law_in w h)
  obtain ⟨r, gv', a_refused', a_far', a_shut', a_queue', i_queued', a_litBy', e1, e2, e3, e4⟩ := op_lights hR (xs (x3 + 1).toNatClampNeg) (xs (x3 + 2).toNatClampNeg)
  obtain ⟨fx, hfx⟩ := hR.cell
  refine lv_aload_n hxx hb dL_law_409 rfl (lv_at hl 1 rfl) ?_
  refine lv_aload_n hxx hb dL_law_410 rfl (lv_at hl 0 rfl) ?_
  refine lv_iload_n hxx hb dL_law_411 rfl (lv_at hl 3 rfl) ?_
  refine lv_iconst (v := 1) hxx hb dL_law_412 (by decide) ?_
  refine lv_iadd hxx hb dL_law_413 ?_
  refine va_sld hxx hb hX hbl hbA hS h_1 dL_law_414 ?_
  refine lv_aload_n hxx hb dL_law_415 rfl (lv_at hl 0 rfl) ?_
  refine lv_iload_n hxx hb dL_law_416 rfl (lv_at hl 3 rfl) ?_
  refine lv_iconst (v := 2) hxx hb dL_law_417 (by decide) ?_
  refine lv_iadd hxx hb dL_law_418 ?_
  refine va_sld hxx hb hX hbl hbA hS h_2 dL_law_419 ?_
  refine gp_callI (va_runV (As := [.int (xs (x3 + 1).toNatClampNeg), .int (xs (x3 + 2).toNatClampNeg)]) (rest := []) ⟨hxx, hb, hml, hown, hts⟩ (c_X11_lights (l := l) (D := D) (b := gb) (cI := cI) (cL := cL) e1) (cwV 2 hts gL_law_X11_lights rfl rfl rfl (by decide +kernel) ⟨Nat.le_of_ble_eq_true rfl, Nat.le_of_ble_eq_true rfl⟩) (gp_preV hKn hG (cp_obj hfx) rfl) rfl rfl hl.1 rfl (lv_room (Nat.le_of_ble_eq_true rfl)) dL_law_420 ⟨by show _ ≤ (600000 : Nat); omega, by show _ ≤ (7302250 : Nat); omega⟩) hS (fun H locs hG hS => ?_)
  rw [← e3, mgv_W] at hG
  refine lv_aload_n hxx hb dL_law_423 rfl (lv_at hl 2 rfl) ?_
  refine lv_aload_n hxx hb dL_law_424 rfl (lv_at hl 0 rfl) ?_
  refine lv_iload_n hxx hb dL_law_425 rfl (lv_at hl 3 rfl) ?_
  refine lv_iconst (v := 1) hxx hb dL_law_426 (by decide) ?_
  refine lv_iadd hxx hb dL_law_427 ?_
  refine va_sld hxx hb hX hbl hbA hS h_1 dL_law_428 ?_
  refine lv_aload_n hxx hb dL_law_429 rfl (lv_at hl 0 rfl) ?_
  refine lv_iload_n hxx hb dL_law_430 rfl (lv_at hl 3 rfl) ?_
  refine lv_iconst (v := 2) hxx hb dL_law_431 (by decide) ?_
  refine lv_iadd hxx hb dL_law_432 ?_
  refine va_sld hxx hb hX hbl hbA hS h_2 dL_law_433 ?_
  refine gp_callI (va_runV (As := [.int (xs (x3 + 1).toNatClampNeg), .int (xs (x3 + 2).toNatClampNeg)]) (rest := [.int r]) ⟨hxx, hb, hml, hown, hts⟩ (c_X12_lights (l := l) (D := D) (b := gb) (cI := cI) (cL := cL) e2) (cwV 2 hts gL_law_X12_lights rfl rfl rfl (by decide +kernel) ⟨Nat.le_of_ble_eq_true rfl, Nat.le_of_ble_eq_true rfl⟩) (gp_preV hKn hG mg_o rfl) rfl rfl hl.1 rfl (lv_room (Nat.le_of_ble_eq_true rfl)) dL_law_434 ⟨by show _ ≤ (600000 : Nat); omega, by show _ ≤ (7302250 : Nat); omega⟩) hS (fun H locs hG hS => ?_)
  rw [← mgv_W] at hG
  refine lv_icmp_eq (tgt := 1045) hxx hb dL_law_437 (by decide) (fun _ => ?_) (fun c => absurd rfl c)
  exact W.widen (by omega) (by omega) (kk _ _ _ _ _ _ _ _ _ _ _ _ _ _ _ _ _ _ _ _ _ _ _ _ _ _ _ _ _ _ _ _ _ _ _ _ _ _ e4 hG hS hl)
set_option maxHeartbeats 4000000 in
set_option maxRecDepth 100000 in
theorem law_shown {p : Program} {l : Launch} {e : Env} {s : State} {m : MethodId} {below : List Frame} {meth : Method} {c : Code} {D : va_G} {gb : GB} {cI cL : ClassId} {b Ln : Nat} {xs : Nat → Int32} {hx h0 M : Nat} {gv : Nat → GV} {cells slots : Nat} {x3 : Int32} {H : Heap} {locs : List Loc} {ls : Array Slot} {a_refused : Nat → Int32} {a_isWall : Nat → Int32} {a_kind : Nat → Int32} {a_lampCell : Nat → Int32} {a_range : Nat → Int32} {a_lit : Nat → Int32} {a_scenes : Nat → Int32} {a_who : Nat → Int32} {a_cell : Nat → Int32} {a_minuteOf : Nat → Int32} {a_standsAt : Nat → Int32} {i_lampMany : Int32} {i_people : Int32} {i_minute : Int32} {a_tape : Nat → Int32} {a_letter : Nat → Int32} {a_letterAt : Nat → Int32} {a_told : Nat → Int32} {i_taped : Int32} {i_at : Int32} {i_statements : Int32} {a_kept : Nat → Int32} {i_hasImage : Int32} {i_isKeeping : Int32} {i_cursor : Int32} {a_far : Nat → Int32} {a_shut : Nat → Int32} {a_queue : Nat → Int32} {i_queued : Int32} {a_litBy : Nat → Int32} {a_may : Nat → Int32} {a_row : Nat → Int32} {i_rowMany : Int32} (C0 : lC p s m meth c b Ln xs D gb cI cL) (hR : Rel hx h0 gv M a_refused a_isWall a_kind a_lampCell a_range a_lit a_scenes a_who a_cell a_minuteOf a_standsAt i_lampMany i_people i_minute a_tape a_letter a_letterAt a_told i_taped i_at i_statements a_kept i_hasImage i_isKeeping i_cursor a_far a_shut a_queue i_queued a_litBy a_may a_row i_rowMany) (hG : GP D gb M (gW cI cL gv) H) (hS : va_S (gA gb) s.heap H locs) (hl : lv_has ls 4 [(0, .ref b), (1, .ref hx), (2, .ref h0), (3, .int x3)]) (h_1 : vp_in (x3 + 1) Ln) (h_2 : vp_in (x3 + 2) Ln) (h_3 : vp_in (x3 + 3) Ln) (hc1 : cells + 94 ≤ 600000) (hc2 : slots + 658 ≤ 7302250) (kk : (∀ (gv2 : Nat → GV) (M2 : Nat) (a_refused : Nat → Int32) (a_isWall : Nat → Int32) (a_kind : Nat → Int32) (a_lampCell : Nat → Int32) (a_range : Nat → Int32) (a_lit : Nat → Int32) (a_scenes : Nat → Int32) (a_who : Nat → Int32) (a_cell : Nat → Int32) (a_minuteOf : Nat → Int32) (a_standsAt : Nat → Int32) (i_lampMany : Int32) (i_people : Int32) (i_minute : Int32) (a_tape : Nat → Int32) (a_letter : Nat → Int32) (a_letterAt : Nat → Int32) (a_told : Nat → Int32) (i_taped : Int32) (i_at : Int32) (i_statements : Int32) (a_kept : Nat → Int32) (i_hasImage : Int32) (i_isKeeping : Int32) (i_cursor : Int32) (a_far : Nat → Int32) (a_shut : Nat → Int32) (a_queue : Nat → Int32) (i_queued : Int32) (a_litBy : Nat → Int32) (a_may : Nat → Int32) (a_row : Nat → Int32) (i_rowMany : Int32) (H : Heap) (locs : List Loc) (ls : Array Slot), Rel hx h0 gv2 M2 a_refused a_isWall a_kind a_lampCell a_range a_lit a_scenes a_who a_cell a_minuteOf a_standsAt i_lampMany i_people i_minute a_tape a_letter a_letterAt a_told i_taped i_at i_statements a_kept i_hasImage i_isKeeping i_cursor a_far a_shut a_queue i_queued a_litBy a_may a_row i_rowMany → GP D gb M2 (gW cI cL gv2) H → va_S (gA gb) s.heap H locs → lv_has ls 4 [(0, .ref b), (1, .ref hx), (2, .ref h0), (3, .int x3)] → W p l e room_1 s m #[Value.ref b] below meth c H locs (cells + 94) (slots + 658) (lw_Z below #[Value.ref b] s) (F0 m 1045 ls []))) : W p l e room_1 s m #[Value.ref b] below meth c H locs cells slots (lw_Z below #[Value.ref b] s) (F0 m 442 ls []) := by
  obtain ⟨hxx, hb, hr, hml, hown, hts0, hX, hbl, hbA, hlocks, hgb, hKn⟩ := C0
  have hK := hKn.1
  have hts : ∀ w ∈ wsL_law, w.before #[Value.ref b] s = true := fun w h => hts0 w (wsL_law_in w h)
  obtain ⟨r, gv', a_refused', e1, e2, e3, e4⟩ := op_shown hR (xs (x3 + 1).toNatClampNeg) (xs (x3 + 2).toNatClampNeg) (xs (x3 + 3).toNatClampNeg)
  obtain ⟨fx, hfx⟩ := hR.cell
  refine lv_aload_n hxx hb dL_law_442 rfl (lv_at hl 1 rfl) ?_
  refine lv_aload_n hxx hb dL_law_443 rfl (lv_at hl 0 rfl) ?_
  refine lv_iload_n hxx hb dL_law_444 rfl (lv_at hl 3 rfl) ?_
  refine lv_iconst (v := 1) hxx hb dL_law_445 (by decide) ?_
  refine lv_iadd hxx hb dL_law_446 ?_
  refine va_sld hxx hb hX hbl hbA hS h_1 dL_law_447 ?_
  refine lv_aload_n hxx hb dL_law_448 rfl (lv_at hl 0 rfl) ?_
  refine lv_iload_n hxx hb dL_law_449 rfl (lv_at hl 3 rfl) ?_
  refine lv_iconst (v := 2) hxx hb dL_law_450 (by decide) ?_
  refine lv_iadd hxx hb dL_law_451 ?_
  refine va_sld hxx hb hX hbl hbA hS h_2 dL_law_452 ?_
  refine lv_aload_n hxx hb dL_law_453 rfl (lv_at hl 0 rfl) ?_
  refine lv_iload_n hxx hb dL_law_454 rfl (lv_at hl 3 rfl) ?_
  refine lv_iconst (v := 3) hxx hb dL_law_455 (by decide) ?_
  refine lv_iadd hxx hb dL_law_456 ?_
  refine va_sld hxx hb hX hbl hbA hS h_3 dL_law_457 ?_
  refine gp_callI (va_runV (As := [.int (xs (x3 + 1).toNatClampNeg), .int (xs (x3 + 2).toNatClampNeg), .int (xs (x3 + 3).toNatClampNeg)]) (rest := []) ⟨hxx, hb, hml, hown, hts⟩ (c_X11_shown (l := l) (D := D) (b := gb) (cI := cI) (cL := cL) e1) (cwV 3 hts gL_law_X11_shown rfl rfl rfl (by decide +kernel) ⟨Nat.le_of_ble_eq_true rfl, Nat.le_of_ble_eq_true rfl⟩) (gp_preV hKn hG (cp_obj hfx) rfl) rfl rfl hl.1 rfl (lv_room (Nat.le_of_ble_eq_true rfl)) dL_law_458 ⟨by show _ ≤ (600000 : Nat); omega, by show _ ≤ (7302250 : Nat); omega⟩) hS (fun H locs hG hS => ?_)
  rw [← e3, mgv_W] at hG
  refine lv_aload_n hxx hb dL_law_461 rfl (lv_at hl 2 rfl) ?_
  refine lv_aload_n hxx hb dL_law_462 rfl (lv_at hl 0 rfl) ?_
  refine lv_iload_n hxx hb dL_law_463 rfl (lv_at hl 3 rfl) ?_
  refine lv_iconst (v := 1) hxx hb dL_law_464 (by decide) ?_
  refine lv_iadd hxx hb dL_law_465 ?_
  refine va_sld hxx hb hX hbl hbA hS h_1 dL_law_466 ?_
  refine lv_aload_n hxx hb dL_law_467 rfl (lv_at hl 0 rfl) ?_
  refine lv_iload_n hxx hb dL_law_468 rfl (lv_at hl 3 rfl) ?_
  refine lv_iconst (v := 2) hxx hb dL_law_469 (by decide) ?_
  refine lv_iadd hxx hb dL_law_470 ?_
  refine va_sld hxx hb hX hbl hbA hS h_2 dL_law_471 ?_
  refine lv_aload_n hxx hb dL_law_472 rfl (lv_at hl 0 rfl) ?_
  refine lv_iload_n hxx hb dL_law_473 rfl (lv_at hl 3 rfl) ?_
  refine lv_iconst (v := 3) hxx hb dL_law_474 (by decide) ?_
  refine lv_iadd hxx hb dL_law_475 ?_
  refine va_sld hxx hb hX hbl hbA hS h_3 dL_law_476 ?_
  refine gp_callI (va_runV (As := [.int (xs (x3 + 1).toNatClampNeg), .int (xs (x3 + 2).toNatClampNeg), .int (xs (x3 + 3).toNatClampNeg)]) (rest := [.int r]) ⟨hxx, hb, hml, hown, hts⟩ (c_X12_shown (l := l) (D := D) (b := gb) (cI := cI) (cL := cL) e2) (cwV 3 hts gL_law_X12_shown rfl rfl rfl (by decide +kernel) ⟨Nat.le_of_ble_eq_true rfl, Nat.le_of_ble_eq_true rfl⟩) (gp_preV hKn hG mg_o rfl) rfl rfl hl.1 rfl (lv_room (Nat.le_of_ble_eq_true rfl)) dL_law_477 ⟨by show _ ≤ (600000 : Nat); omega, by show _ ≤ (7302250 : Nat); omega⟩) hS (fun H locs hG hS => ?_)
  rw [← mgv_W] at hG
  refine lv_icmp_eq (tgt := 1045) hxx hb dL_law_480 (by decide) (fun _ => ?_) (fun c => absurd rfl c)
  exact W.widen (by omega) (by omega) (kk _ _ _ _ _ _ _ _ _ _ _ _ _ _ _ _ _ _ _ _ _ _ _ _ _ _ _ _ _ _ _ _ _ _ _ _ _ _ e4 hG hS hl)
set_option maxHeartbeats 4000000 in
set_option maxRecDepth 100000 in
theorem law_seen {p : Program} {l : Launch} {e : Env} {s : State} {m : MethodId} {below : List Frame} {meth : Method} {c : Code} {D : va_G} {gb : GB} {cI cL : ClassId} {b Ln : Nat} {xs : Nat → Int32} {hx h0 M : Nat} {gv : Nat → GV} {cells slots : Nat} {x3 : Int32} {H : Heap} {locs : List Loc} {ls : Array Slot} {a_refused : Nat → Int32} {a_isWall : Nat → Int32} {a_kind : Nat → Int32} {a_lampCell : Nat → Int32} {a_range : Nat → Int32} {a_lit : Nat → Int32} {a_scenes : Nat → Int32} {a_who : Nat → Int32} {a_cell : Nat → Int32} {a_minuteOf : Nat → Int32} {a_standsAt : Nat → Int32} {i_lampMany : Int32} {i_people : Int32} {i_minute : Int32} {a_tape : Nat → Int32} {a_letter : Nat → Int32} {a_letterAt : Nat → Int32} {a_told : Nat → Int32} {i_taped : Int32} {i_at : Int32} {i_statements : Int32} {a_kept : Nat → Int32} {i_hasImage : Int32} {i_isKeeping : Int32} {i_cursor : Int32} {a_far : Nat → Int32} {a_shut : Nat → Int32} {a_queue : Nat → Int32} {i_queued : Int32} {a_litBy : Nat → Int32} {a_may : Nat → Int32} {a_row : Nat → Int32} {i_rowMany : Int32} (C0 : lC p s m meth c b Ln xs D gb cI cL) (hR : Rel hx h0 gv M a_refused a_isWall a_kind a_lampCell a_range a_lit a_scenes a_who a_cell a_minuteOf a_standsAt i_lampMany i_people i_minute a_tape a_letter a_letterAt a_told i_taped i_at i_statements a_kept i_hasImage i_isKeeping i_cursor a_far a_shut a_queue i_queued a_litBy a_may a_row i_rowMany) (hG : GP D gb M (gW cI cL gv) H) (hS : va_S (gA gb) s.heap H locs) (hl : lv_has ls 4 [(0, .ref b), (1, .ref hx), (2, .ref h0), (3, .int x3)]) (h_1 : vp_in (x3 + 1) Ln) (hc1 : cells + 94 ≤ 600000) (hc2 : slots + 658 ≤ 7302250) (kk : (∀ (gv2 : Nat → GV) (M2 : Nat) (a_refused : Nat → Int32) (a_isWall : Nat → Int32) (a_kind : Nat → Int32) (a_lampCell : Nat → Int32) (a_range : Nat → Int32) (a_lit : Nat → Int32) (a_scenes : Nat → Int32) (a_who : Nat → Int32) (a_cell : Nat → Int32) (a_minuteOf : Nat → Int32) (a_standsAt : Nat → Int32) (i_lampMany : Int32) (i_people : Int32) (i_minute : Int32) (a_tape : Nat → Int32) (a_letter : Nat → Int32) (a_letterAt : Nat → Int32) (a_told : Nat → Int32) (i_taped : Int32) (i_at : Int32) (i_statements : Int32) (a_kept : Nat → Int32) (i_hasImage : Int32) (i_isKeeping : Int32) (i_cursor : Int32) (a_far : Nat → Int32) (a_shut : Nat → Int32) (a_queue : Nat → Int32) (i_queued : Int32) (a_litBy : Nat → Int32) (a_may : Nat → Int32) (a_row : Nat → Int32) (i_rowMany : Int32) (H : Heap) (locs : List Loc) (ls : Array Slot), Rel hx h0 gv2 M2 a_refused a_isWall a_kind a_lampCell a_range a_lit a_scenes a_who a_cell a_minuteOf a_standsAt i_lampMany i_people i_minute a_tape a_letter a_letterAt a_told i_taped i_at i_statements a_kept i_hasImage i_isKeeping i_cursor a_far a_shut a_queue i_queued a_litBy a_may a_row i_rowMany → GP D gb M2 (gW cI cL gv2) H → va_S (gA gb) s.heap H locs → lv_has ls 4 [(0, .ref b), (1, .ref hx), (2, .ref h0), (3, .int x3)] → W p l e room_1 s m #[Value.ref b] below meth c H locs (cells + 94) (slots + 658) (lw_Z below #[Value.ref b] s) (F0 m 1045 ls []))) : W p l e room_1 s m #[Value.ref b] below meth c H locs cells slots (lw_Z below #[Value.ref b] s) (F0 m 485 ls []) := by
  obtain ⟨hxx, hb, hr, hml, hown, hts0, hX, hbl, hbA, hlocks, hgb, hKn⟩ := C0
  have hK := hKn.1
  have hts : ∀ w ∈ wsL_law, w.before #[Value.ref b] s = true := fun w h => hts0 w (wsL_law_in w h)
  obtain ⟨r, gv', a_refused', e1, e2, e3, e4⟩ := op_seen hR (xs (x3 + 1).toNatClampNeg)
  obtain ⟨fx, hfx⟩ := hR.cell
  refine lv_aload_n hxx hb dL_law_485 rfl (lv_at hl 1 rfl) ?_
  refine lv_aload_n hxx hb dL_law_486 rfl (lv_at hl 0 rfl) ?_
  refine lv_iload_n hxx hb dL_law_487 rfl (lv_at hl 3 rfl) ?_
  refine lv_iconst (v := 1) hxx hb dL_law_488 (by decide) ?_
  refine lv_iadd hxx hb dL_law_489 ?_
  refine va_sld hxx hb hX hbl hbA hS h_1 dL_law_490 ?_
  refine gp_callI (va_runV (As := [.int (xs (x3 + 1).toNatClampNeg)]) (rest := []) ⟨hxx, hb, hml, hown, hts⟩ (c_X11_seen (l := l) (D := D) (b := gb) (cI := cI) (cL := cL) e1) (cwV 1 hts gL_law_X11_seen rfl rfl rfl (by decide +kernel) ⟨Nat.le_of_ble_eq_true rfl, Nat.le_of_ble_eq_true rfl⟩) (gp_preV hKn hG (cp_obj hfx) rfl) rfl rfl hl.1 rfl (lv_room (Nat.le_of_ble_eq_true rfl)) dL_law_491 ⟨by show _ ≤ (600000 : Nat); omega, by show _ ≤ (7302250 : Nat); omega⟩) hS (fun H locs hG hS => ?_)
  rw [← e3, mgv_W] at hG
  refine lv_aload_n hxx hb dL_law_494 rfl (lv_at hl 2 rfl) ?_
  refine lv_aload_n hxx hb dL_law_495 rfl (lv_at hl 0 rfl) ?_
  refine lv_iload_n hxx hb dL_law_496 rfl (lv_at hl 3 rfl) ?_
  refine lv_iconst (v := 1) hxx hb dL_law_497 (by decide) ?_
  refine lv_iadd hxx hb dL_law_498 ?_
  refine va_sld hxx hb hX hbl hbA hS h_1 dL_law_499 ?_
  refine gp_callI (va_runV (As := [.int (xs (x3 + 1).toNatClampNeg)]) (rest := [.int r]) ⟨hxx, hb, hml, hown, hts⟩ (c_X12_seen (l := l) (D := D) (b := gb) (cI := cI) (cL := cL) e2) (cwV 1 hts gL_law_X12_seen rfl rfl rfl (by decide +kernel) ⟨Nat.le_of_ble_eq_true rfl, Nat.le_of_ble_eq_true rfl⟩) (gp_preV hKn hG mg_o rfl) rfl rfl hl.1 rfl (lv_room (Nat.le_of_ble_eq_true rfl)) dL_law_500 ⟨by show _ ≤ (600000 : Nat); omega, by show _ ≤ (7302250 : Nat); omega⟩) hS (fun H locs hG hS => ?_)
  rw [← mgv_W] at hG
  refine lv_icmp_eq (tgt := 1045) hxx hb dL_law_503 (by decide) (fun _ => ?_) (fun c => absurd rfl c)
  exact W.widen (by omega) (by omega) (kk _ _ _ _ _ _ _ _ _ _ _ _ _ _ _ _ _ _ _ _ _ _ _ _ _ _ _ _ _ _ _ _ _ _ _ _ _ _ e4 hG hS hl)
set_option maxHeartbeats 4000000 in
set_option maxRecDepth 100000 in
theorem law_by {p : Program} {l : Launch} {e : Env} {s : State} {m : MethodId} {below : List Frame} {meth : Method} {c : Code} {D : va_G} {gb : GB} {cI cL : ClassId} {b Ln : Nat} {xs : Nat → Int32} {hx h0 M : Nat} {gv : Nat → GV} {cells slots : Nat} {x3 : Int32} {H : Heap} {locs : List Loc} {ls : Array Slot} {a_refused : Nat → Int32} {a_isWall : Nat → Int32} {a_kind : Nat → Int32} {a_lampCell : Nat → Int32} {a_range : Nat → Int32} {a_lit : Nat → Int32} {a_scenes : Nat → Int32} {a_who : Nat → Int32} {a_cell : Nat → Int32} {a_minuteOf : Nat → Int32} {a_standsAt : Nat → Int32} {i_lampMany : Int32} {i_people : Int32} {i_minute : Int32} {a_tape : Nat → Int32} {a_letter : Nat → Int32} {a_letterAt : Nat → Int32} {a_told : Nat → Int32} {i_taped : Int32} {i_at : Int32} {i_statements : Int32} {a_kept : Nat → Int32} {i_hasImage : Int32} {i_isKeeping : Int32} {i_cursor : Int32} {a_far : Nat → Int32} {a_shut : Nat → Int32} {a_queue : Nat → Int32} {i_queued : Int32} {a_litBy : Nat → Int32} {a_may : Nat → Int32} {a_row : Nat → Int32} {i_rowMany : Int32} (C0 : lC p s m meth c b Ln xs D gb cI cL) (hR : Rel hx h0 gv M a_refused a_isWall a_kind a_lampCell a_range a_lit a_scenes a_who a_cell a_minuteOf a_standsAt i_lampMany i_people i_minute a_tape a_letter a_letterAt a_told i_taped i_at i_statements a_kept i_hasImage i_isKeeping i_cursor a_far a_shut a_queue i_queued a_litBy a_may a_row i_rowMany) (hG : GP D gb M (gW cI cL gv) H) (hS : va_S (gA gb) s.heap H locs) (hl : lv_has ls 4 [(0, .ref b), (1, .ref hx), (2, .ref h0), (3, .int x3)]) (h_1 : vp_in (x3 + 1) Ln) (h_2 : vp_in (x3 + 2) Ln) (hc1 : cells + 94 ≤ 600000) (hc2 : slots + 658 ≤ 7302250) (kk : (∀ (gv2 : Nat → GV) (M2 : Nat) (a_refused : Nat → Int32) (a_isWall : Nat → Int32) (a_kind : Nat → Int32) (a_lampCell : Nat → Int32) (a_range : Nat → Int32) (a_lit : Nat → Int32) (a_scenes : Nat → Int32) (a_who : Nat → Int32) (a_cell : Nat → Int32) (a_minuteOf : Nat → Int32) (a_standsAt : Nat → Int32) (i_lampMany : Int32) (i_people : Int32) (i_minute : Int32) (a_tape : Nat → Int32) (a_letter : Nat → Int32) (a_letterAt : Nat → Int32) (a_told : Nat → Int32) (i_taped : Int32) (i_at : Int32) (i_statements : Int32) (a_kept : Nat → Int32) (i_hasImage : Int32) (i_isKeeping : Int32) (i_cursor : Int32) (a_far : Nat → Int32) (a_shut : Nat → Int32) (a_queue : Nat → Int32) (i_queued : Int32) (a_litBy : Nat → Int32) (a_may : Nat → Int32) (a_row : Nat → Int32) (i_rowMany : Int32) (H : Heap) (locs : List Loc) (ls : Array Slot), Rel hx h0 gv2 M2 a_refused a_isWall a_kind a_lampCell a_range a_lit a_scenes a_who a_cell a_minuteOf a_standsAt i_lampMany i_people i_minute a_tape a_letter a_letterAt a_told i_taped i_at i_statements a_kept i_hasImage i_isKeeping i_cursor a_far a_shut a_queue i_queued a_litBy a_may a_row i_rowMany → GP D gb M2 (gW cI cL gv2) H → va_S (gA gb) s.heap H locs → lv_has ls 4 [(0, .ref b), (1, .ref hx), (2, .ref h0), (3, .int x3)] → W p l e room_1 s m #[Value.ref b] below meth c H locs (cells + 94) (slots + 658) (lw_Z below #[Value.ref b] s) (F0 m 1045 ls []))) : W p l e room_1 s m #[Value.ref b] below meth c H locs cells slots (lw_Z below #[Value.ref b] s) (F0 m 508 ls []) := by
  obtain ⟨hxx, hb, hr, hml, hown, hts0, hX, hbl, hbA, hlocks, hgb, hKn⟩ := C0
  have hK := hKn.1
  have hts : ∀ w ∈ wsL_law, w.before #[Value.ref b] s = true := fun w h => hts0 w (wsL_law_in w h)
  obtain ⟨r, gv', a_refused', e1, e2, e3, e4⟩ := op_by hR (xs (x3 + 1).toNatClampNeg) (xs (x3 + 2).toNatClampNeg)
  obtain ⟨fx, hfx⟩ := hR.cell
  refine lv_aload_n hxx hb dL_law_508 rfl (lv_at hl 1 rfl) ?_
  refine lv_aload_n hxx hb dL_law_509 rfl (lv_at hl 0 rfl) ?_
  refine lv_iload_n hxx hb dL_law_510 rfl (lv_at hl 3 rfl) ?_
  refine lv_iconst (v := 1) hxx hb dL_law_511 (by decide) ?_
  refine lv_iadd hxx hb dL_law_512 ?_
  refine va_sld hxx hb hX hbl hbA hS h_1 dL_law_513 ?_
  refine lv_aload_n hxx hb dL_law_514 rfl (lv_at hl 0 rfl) ?_
  refine lv_iload_n hxx hb dL_law_515 rfl (lv_at hl 3 rfl) ?_
  refine lv_iconst (v := 2) hxx hb dL_law_516 (by decide) ?_
  refine lv_iadd hxx hb dL_law_517 ?_
  refine va_sld hxx hb hX hbl hbA hS h_2 dL_law_518 ?_
  refine gp_callI (va_runV (As := [.int (xs (x3 + 1).toNatClampNeg), .int (xs (x3 + 2).toNatClampNeg)]) (rest := []) ⟨hxx, hb, hml, hown, hts⟩ (c_X11_by (l := l) (D := D) (b := gb) (cI := cI) (cL := cL) e1) (cwV 2 hts gL_law_X11_by rfl rfl rfl (by decide +kernel) ⟨Nat.le_of_ble_eq_true rfl, Nat.le_of_ble_eq_true rfl⟩) (gp_preV hKn hG (cp_obj hfx) rfl) rfl rfl hl.1 rfl (lv_room (Nat.le_of_ble_eq_true rfl)) dL_law_519 ⟨by show _ ≤ (600000 : Nat); omega, by show _ ≤ (7302250 : Nat); omega⟩) hS (fun H locs hG hS => ?_)
  rw [← e3, mgv_W] at hG
  refine lv_aload_n hxx hb dL_law_522 rfl (lv_at hl 2 rfl) ?_
  refine lv_aload_n hxx hb dL_law_523 rfl (lv_at hl 0 rfl) ?_
  refine lv_iload_n hxx hb dL_law_524 rfl (lv_at hl 3 rfl) ?_
  refine lv_iconst (v := 1) hxx hb dL_law_525 (by decide) ?_
  refine lv_iadd hxx hb dL_law_526 ?_
  refine va_sld hxx hb hX hbl hbA hS h_1 dL_law_527 ?_
  refine lv_aload_n hxx hb dL_law_528 rfl (lv_at hl 0 rfl) ?_
  refine lv_iload_n hxx hb dL_law_529 rfl (lv_at hl 3 rfl) ?_
  refine lv_iconst (v := 2) hxx hb dL_law_530 (by decide) ?_
  refine lv_iadd hxx hb dL_law_531 ?_
  refine va_sld hxx hb hX hbl hbA hS h_2 dL_law_532 ?_
  refine gp_callI (va_runV (As := [.int (xs (x3 + 1).toNatClampNeg), .int (xs (x3 + 2).toNatClampNeg)]) (rest := [.int r]) ⟨hxx, hb, hml, hown, hts⟩ (c_X12_by (l := l) (D := D) (b := gb) (cI := cI) (cL := cL) e2) (cwV 2 hts gL_law_X12_by rfl rfl rfl (by decide +kernel) ⟨Nat.le_of_ble_eq_true rfl, Nat.le_of_ble_eq_true rfl⟩) (gp_preV hKn hG mg_o rfl) rfl rfl hl.1 rfl (lv_room (Nat.le_of_ble_eq_true rfl)) dL_law_533 ⟨by show _ ≤ (600000 : Nat); omega, by show _ ≤ (7302250 : Nat); omega⟩) hS (fun H locs hG hS => ?_)
  rw [← mgv_W] at hG
  refine lv_icmp_eq (tgt := 1045) hxx hb dL_law_536 (by decide) (fun _ => ?_) (fun c => absurd rfl c)
  exact W.widen (by omega) (by omega) (kk _ _ _ _ _ _ _ _ _ _ _ _ _ _ _ _ _ _ _ _ _ _ _ _ _ _ _ _ _ _ _ _ _ _ _ _ _ _ e4 hG hS hl)
set_option maxHeartbeats 4000000 in
set_option maxRecDepth 100000 in
theorem law_unlit {p : Program} {l : Launch} {e : Env} {s : State} {m : MethodId} {below : List Frame} {meth : Method} {c : Code} {D : va_G} {gb : GB} {cI cL : ClassId} {b Ln : Nat} {xs : Nat → Int32} {hx h0 M : Nat} {gv : Nat → GV} {cells slots : Nat} {x3 : Int32} {H : Heap} {locs : List Loc} {ls : Array Slot} {a_refused : Nat → Int32} {a_isWall : Nat → Int32} {a_kind : Nat → Int32} {a_lampCell : Nat → Int32} {a_range : Nat → Int32} {a_lit : Nat → Int32} {a_scenes : Nat → Int32} {a_who : Nat → Int32} {a_cell : Nat → Int32} {a_minuteOf : Nat → Int32} {a_standsAt : Nat → Int32} {i_lampMany : Int32} {i_people : Int32} {i_minute : Int32} {a_tape : Nat → Int32} {a_letter : Nat → Int32} {a_letterAt : Nat → Int32} {a_told : Nat → Int32} {i_taped : Int32} {i_at : Int32} {i_statements : Int32} {a_kept : Nat → Int32} {i_hasImage : Int32} {i_isKeeping : Int32} {i_cursor : Int32} {a_far : Nat → Int32} {a_shut : Nat → Int32} {a_queue : Nat → Int32} {i_queued : Int32} {a_litBy : Nat → Int32} {a_may : Nat → Int32} {a_row : Nat → Int32} {i_rowMany : Int32} (C0 : lC p s m meth c b Ln xs D gb cI cL) (hR : Rel hx h0 gv M a_refused a_isWall a_kind a_lampCell a_range a_lit a_scenes a_who a_cell a_minuteOf a_standsAt i_lampMany i_people i_minute a_tape a_letter a_letterAt a_told i_taped i_at i_statements a_kept i_hasImage i_isKeeping i_cursor a_far a_shut a_queue i_queued a_litBy a_may a_row i_rowMany) (hG : GP D gb M (gW cI cL gv) H) (hS : va_S (gA gb) s.heap H locs) (hl : lv_has ls 4 [(0, .ref b), (1, .ref hx), (2, .ref h0), (3, .int x3)]) (h_1 : vp_in (x3 + 1) Ln) (h_2 : vp_in (x3 + 2) Ln) (h_3 : vp_in (x3 + 3) Ln) (hc1 : cells + 94 ≤ 600000) (hc2 : slots + 658 ≤ 7302250) (kk : (∀ (gv2 : Nat → GV) (M2 : Nat) (a_refused : Nat → Int32) (a_isWall : Nat → Int32) (a_kind : Nat → Int32) (a_lampCell : Nat → Int32) (a_range : Nat → Int32) (a_lit : Nat → Int32) (a_scenes : Nat → Int32) (a_who : Nat → Int32) (a_cell : Nat → Int32) (a_minuteOf : Nat → Int32) (a_standsAt : Nat → Int32) (i_lampMany : Int32) (i_people : Int32) (i_minute : Int32) (a_tape : Nat → Int32) (a_letter : Nat → Int32) (a_letterAt : Nat → Int32) (a_told : Nat → Int32) (i_taped : Int32) (i_at : Int32) (i_statements : Int32) (a_kept : Nat → Int32) (i_hasImage : Int32) (i_isKeeping : Int32) (i_cursor : Int32) (a_far : Nat → Int32) (a_shut : Nat → Int32) (a_queue : Nat → Int32) (i_queued : Int32) (a_litBy : Nat → Int32) (a_may : Nat → Int32) (a_row : Nat → Int32) (i_rowMany : Int32) (H : Heap) (locs : List Loc) (ls : Array Slot), Rel hx h0 gv2 M2 a_refused a_isWall a_kind a_lampCell a_range a_lit a_scenes a_who a_cell a_minuteOf a_standsAt i_lampMany i_people i_minute a_tape a_letter a_letterAt a_told i_taped i_at i_statements a_kept i_hasImage i_isKeeping i_cursor a_far a_shut a_queue i_queued a_litBy a_may a_row i_rowMany → GP D gb M2 (gW cI cL gv2) H → va_S (gA gb) s.heap H locs → lv_has ls 4 [(0, .ref b), (1, .ref hx), (2, .ref h0), (3, .int x3)] → W p l e room_1 s m #[Value.ref b] below meth c H locs (cells + 94) (slots + 658) (lw_Z below #[Value.ref b] s) (F0 m 1045 ls []))) : W p l e room_1 s m #[Value.ref b] below meth c H locs cells slots (lw_Z below #[Value.ref b] s) (F0 m 541 ls []) := by
  obtain ⟨hxx, hb, hr, hml, hown, hts0, hX, hbl, hbA, hlocks, hgb, hKn⟩ := C0
  have hK := hKn.1
  have hts : ∀ w ∈ wsL_law, w.before #[Value.ref b] s = true := fun w h => hts0 w (wsL_law_in w h)
  obtain ⟨r, gv', a_refused', a_far', a_shut', a_queue', i_queued', a_litBy', e1, e2, e3, e4⟩ := op_unlit hR (xs (x3 + 1).toNatClampNeg) (xs (x3 + 2).toNatClampNeg) (xs (x3 + 3).toNatClampNeg)
  obtain ⟨fx, hfx⟩ := hR.cell
  refine lv_aload_n hxx hb dL_law_541 rfl (lv_at hl 1 rfl) ?_
  refine lv_aload_n hxx hb dL_law_542 rfl (lv_at hl 0 rfl) ?_
  refine lv_iload_n hxx hb dL_law_543 rfl (lv_at hl 3 rfl) ?_
  refine lv_iconst (v := 1) hxx hb dL_law_544 (by decide) ?_
  refine lv_iadd hxx hb dL_law_545 ?_
  refine va_sld hxx hb hX hbl hbA hS h_1 dL_law_546 ?_
  refine lv_aload_n hxx hb dL_law_547 rfl (lv_at hl 0 rfl) ?_
  refine lv_iload_n hxx hb dL_law_548 rfl (lv_at hl 3 rfl) ?_
  refine lv_iconst (v := 2) hxx hb dL_law_549 (by decide) ?_
  refine lv_iadd hxx hb dL_law_550 ?_
  refine va_sld hxx hb hX hbl hbA hS h_2 dL_law_551 ?_
  refine lv_aload_n hxx hb dL_law_552 rfl (lv_at hl 0 rfl) ?_
  refine lv_iload_n hxx hb dL_law_553 rfl (lv_at hl 3 rfl) ?_
  refine lv_iconst (v := 3) hxx hb dL_law_554 (by decide) ?_
  refine lv_iadd hxx hb dL_law_555 ?_
  refine va_sld hxx hb hX hbl hbA hS h_3 dL_law_556 ?_
  refine gp_callI (va_runV (As := [.int (xs (x3 + 1).toNatClampNeg), .int (xs (x3 + 2).toNatClampNeg), .int (xs (x3 + 3).toNatClampNeg)]) (rest := []) ⟨hxx, hb, hml, hown, hts⟩ (c_X11_unlit (l := l) (D := D) (b := gb) (cI := cI) (cL := cL) e1) (cwV 3 hts gL_law_X11_unlit rfl rfl rfl (by decide +kernel) ⟨Nat.le_of_ble_eq_true rfl, Nat.le_of_ble_eq_true rfl⟩) (gp_preV hKn hG (cp_obj hfx) rfl) rfl rfl hl.1 rfl (lv_room (Nat.le_of_ble_eq_true rfl)) dL_law_557 ⟨by show _ ≤ (600000 : Nat); omega, by show _ ≤ (7302250 : Nat); omega⟩) hS (fun H locs hG hS => ?_)
  rw [← e3, mgv_W] at hG
  refine lv_aload_n hxx hb dL_law_560 rfl (lv_at hl 2 rfl) ?_
  refine lv_aload_n hxx hb dL_law_561 rfl (lv_at hl 0 rfl) ?_
  refine lv_iload_n hxx hb dL_law_562 rfl (lv_at hl 3 rfl) ?_
  refine lv_iconst (v := 1) hxx hb dL_law_563 (by decide) ?_
  refine lv_iadd hxx hb dL_law_564 ?_
  refine va_sld hxx hb hX hbl hbA hS h_1 dL_law_565 ?_
  refine lv_aload_n hxx hb dL_law_566 rfl (lv_at hl 0 rfl) ?_
  refine lv_iload_n hxx hb dL_law_567 rfl (lv_at hl 3 rfl) ?_
  refine lv_iconst (v := 2) hxx hb dL_law_568 (by decide) ?_
  refine lv_iadd hxx hb dL_law_569 ?_
  refine va_sld hxx hb hX hbl hbA hS h_2 dL_law_570 ?_
  refine lv_aload_n hxx hb dL_law_571 rfl (lv_at hl 0 rfl) ?_
  refine lv_iload_n hxx hb dL_law_572 rfl (lv_at hl 3 rfl) ?_
  refine lv_iconst (v := 3) hxx hb dL_law_573 (by decide) ?_
  refine lv_iadd hxx hb dL_law_574 ?_
  refine va_sld hxx hb hX hbl hbA hS h_3 dL_law_575 ?_
  refine gp_callI (va_runV (As := [.int (xs (x3 + 1).toNatClampNeg), .int (xs (x3 + 2).toNatClampNeg), .int (xs (x3 + 3).toNatClampNeg)]) (rest := [.int r]) ⟨hxx, hb, hml, hown, hts⟩ (c_X12_unlit (l := l) (D := D) (b := gb) (cI := cI) (cL := cL) e2) (cwV 3 hts gL_law_X12_unlit rfl rfl rfl (by decide +kernel) ⟨Nat.le_of_ble_eq_true rfl, Nat.le_of_ble_eq_true rfl⟩) (gp_preV hKn hG mg_o rfl) rfl rfl hl.1 rfl (lv_room (Nat.le_of_ble_eq_true rfl)) dL_law_576 ⟨by show _ ≤ (600000 : Nat); omega, by show _ ≤ (7302250 : Nat); omega⟩) hS (fun H locs hG hS => ?_)
  rw [← mgv_W] at hG
  refine lv_icmp_eq (tgt := 1045) hxx hb dL_law_579 (by decide) (fun _ => ?_) (fun c => absurd rfl c)
  exact W.widen (by omega) (by omega) (kk _ _ _ _ _ _ _ _ _ _ _ _ _ _ _ _ _ _ _ _ _ _ _ _ _ _ _ _ _ _ _ _ _ _ _ _ _ _ e4 hG hS hl)
set_option maxHeartbeats 4000000 in
set_option maxRecDepth 100000 in
theorem law_forget {p : Program} {l : Launch} {e : Env} {s : State} {m : MethodId} {below : List Frame} {meth : Method} {c : Code} {D : va_G} {gb : GB} {cI cL : ClassId} {b Ln : Nat} {xs : Nat → Int32} {hx h0 M : Nat} {gv : Nat → GV} {cells slots : Nat} {x3 : Int32} {H : Heap} {locs : List Loc} {ls : Array Slot} {a_refused : Nat → Int32} {a_isWall : Nat → Int32} {a_kind : Nat → Int32} {a_lampCell : Nat → Int32} {a_range : Nat → Int32} {a_lit : Nat → Int32} {a_scenes : Nat → Int32} {a_who : Nat → Int32} {a_cell : Nat → Int32} {a_minuteOf : Nat → Int32} {a_standsAt : Nat → Int32} {i_lampMany : Int32} {i_people : Int32} {i_minute : Int32} {a_tape : Nat → Int32} {a_letter : Nat → Int32} {a_letterAt : Nat → Int32} {a_told : Nat → Int32} {i_taped : Int32} {i_at : Int32} {i_statements : Int32} {a_kept : Nat → Int32} {i_hasImage : Int32} {i_isKeeping : Int32} {i_cursor : Int32} {a_far : Nat → Int32} {a_shut : Nat → Int32} {a_queue : Nat → Int32} {i_queued : Int32} {a_litBy : Nat → Int32} {a_may : Nat → Int32} {a_row : Nat → Int32} {i_rowMany : Int32} (C0 : lC p s m meth c b Ln xs D gb cI cL) (hR : Rel hx h0 gv M a_refused a_isWall a_kind a_lampCell a_range a_lit a_scenes a_who a_cell a_minuteOf a_standsAt i_lampMany i_people i_minute a_tape a_letter a_letterAt a_told i_taped i_at i_statements a_kept i_hasImage i_isKeeping i_cursor a_far a_shut a_queue i_queued a_litBy a_may a_row i_rowMany) (hG : GP D gb M (gW cI cL gv) H) (hS : va_S (gA gb) s.heap H locs) (hl : lv_has ls 4 [(0, .ref b), (1, .ref hx), (2, .ref h0), (3, .int x3)]) (h_1 : vp_in (x3 + 1) Ln) (h_2 : vp_in (x3 + 2) Ln) (hc1 : cells + 94 ≤ 600000) (hc2 : slots + 658 ≤ 7302250) (kk : (∀ (gv2 : Nat → GV) (M2 : Nat) (a_refused : Nat → Int32) (a_isWall : Nat → Int32) (a_kind : Nat → Int32) (a_lampCell : Nat → Int32) (a_range : Nat → Int32) (a_lit : Nat → Int32) (a_scenes : Nat → Int32) (a_who : Nat → Int32) (a_cell : Nat → Int32) (a_minuteOf : Nat → Int32) (a_standsAt : Nat → Int32) (i_lampMany : Int32) (i_people : Int32) (i_minute : Int32) (a_tape : Nat → Int32) (a_letter : Nat → Int32) (a_letterAt : Nat → Int32) (a_told : Nat → Int32) (i_taped : Int32) (i_at : Int32) (i_statements : Int32) (a_kept : Nat → Int32) (i_hasImage : Int32) (i_isKeeping : Int32) (i_cursor : Int32) (a_far : Nat → Int32) (a_shut : Nat → Int32) (a_queue : Nat → Int32) (i_queued : Int32) (a_litBy : Nat → Int32) (a_may : Nat → Int32) (a_row : Nat → Int32) (i_rowMany : Int32) (H : Heap) (locs : List Loc) (ls : Array Slot), Rel hx h0 gv2 M2 a_refused a_isWall a_kind a_lampCell a_range a_lit a_scenes a_who a_cell a_minuteOf a_standsAt i_lampMany i_people i_minute a_tape a_letter a_letterAt a_told i_taped i_at i_statements a_kept i_hasImage i_isKeeping i_cursor a_far a_shut a_queue i_queued a_litBy a_may a_row i_rowMany → GP D gb M2 (gW cI cL gv2) H → va_S (gA gb) s.heap H locs → lv_has ls 4 [(0, .ref b), (1, .ref hx), (2, .ref h0), (3, .int x3)] → W p l e room_1 s m #[Value.ref b] below meth c H locs (cells + 94) (slots + 658) (lw_Z below #[Value.ref b] s) (F0 m 1045 ls []))) : W p l e room_1 s m #[Value.ref b] below meth c H locs cells slots (lw_Z below #[Value.ref b] s) (F0 m 584 ls []) := by
  obtain ⟨hxx, hb, hr, hml, hown, hts0, hX, hbl, hbA, hlocks, hgb, hKn⟩ := C0
  have hK := hKn.1
  have hts : ∀ w ∈ wsL_law, w.before #[Value.ref b] s = true := fun w h => hts0 w (wsL_law_in w h)
  obtain ⟨r, gv', a_refused', e1, e2, e3, e4⟩ := op_forget hR (xs (x3 + 1).toNatClampNeg) (xs (x3 + 2).toNatClampNeg)
  obtain ⟨fx, hfx⟩ := hR.cell
  refine lv_aload_n hxx hb dL_law_584 rfl (lv_at hl 1 rfl) ?_
  refine lv_aload_n hxx hb dL_law_585 rfl (lv_at hl 0 rfl) ?_
  refine lv_iload_n hxx hb dL_law_586 rfl (lv_at hl 3 rfl) ?_
  refine lv_iconst (v := 1) hxx hb dL_law_587 (by decide) ?_
  refine lv_iadd hxx hb dL_law_588 ?_
  refine va_sld hxx hb hX hbl hbA hS h_1 dL_law_589 ?_
  refine lv_aload_n hxx hb dL_law_590 rfl (lv_at hl 0 rfl) ?_
  refine lv_iload_n hxx hb dL_law_591 rfl (lv_at hl 3 rfl) ?_
  refine lv_iconst (v := 2) hxx hb dL_law_592 (by decide) ?_
  refine lv_iadd hxx hb dL_law_593 ?_
  refine va_sld hxx hb hX hbl hbA hS h_2 dL_law_594 ?_
  refine gp_callI (va_runV (As := [.int (xs (x3 + 1).toNatClampNeg), .int (xs (x3 + 2).toNatClampNeg)]) (rest := []) ⟨hxx, hb, hml, hown, hts⟩ (c_X11_forget (l := l) (D := D) (b := gb) (cI := cI) (cL := cL) e1) (cwV 2 hts gL_law_X11_forget rfl rfl rfl (by decide +kernel) ⟨Nat.le_of_ble_eq_true rfl, Nat.le_of_ble_eq_true rfl⟩) (gp_preV hKn hG (cp_obj hfx) rfl) rfl rfl hl.1 rfl (lv_room (Nat.le_of_ble_eq_true rfl)) dL_law_595 ⟨by show _ ≤ (600000 : Nat); omega, by show _ ≤ (7302250 : Nat); omega⟩) hS (fun H locs hG hS => ?_)
  rw [← e3, mgv_W] at hG
  refine lv_aload_n hxx hb dL_law_598 rfl (lv_at hl 2 rfl) ?_
  refine lv_aload_n hxx hb dL_law_599 rfl (lv_at hl 0 rfl) ?_
  refine lv_iload_n hxx hb dL_law_600 rfl (lv_at hl 3 rfl) ?_
  refine lv_iconst (v := 1) hxx hb dL_law_601 (by decide) ?_
  refine lv_iadd hxx hb dL_law_602 ?_
  refine va_sld hxx hb hX hbl hbA hS h_1 dL_law_603 ?_
  refine lv_aload_n hxx hb dL_law_604 rfl (lv_at hl 0 rfl) ?_
  refine lv_iload_n hxx hb dL_law_605 rfl (lv_at hl 3 rfl) ?_
  refine lv_iconst (v := 2) hxx hb dL_law_606 (by decide) ?_
  refine lv_iadd hxx hb dL_law_607 ?_
  refine va_sld hxx hb hX hbl hbA hS h_2 dL_law_608 ?_
  refine gp_callI (va_runV (As := [.int (xs (x3 + 1).toNatClampNeg), .int (xs (x3 + 2).toNatClampNeg)]) (rest := [.int r]) ⟨hxx, hb, hml, hown, hts⟩ (c_X12_forget (l := l) (D := D) (b := gb) (cI := cI) (cL := cL) e2) (cwV 2 hts gL_law_X12_forget rfl rfl rfl (by decide +kernel) ⟨Nat.le_of_ble_eq_true rfl, Nat.le_of_ble_eq_true rfl⟩) (gp_preV hKn hG mg_o rfl) rfl rfl hl.1 rfl (lv_room (Nat.le_of_ble_eq_true rfl)) dL_law_609 ⟨by show _ ≤ (600000 : Nat); omega, by show _ ≤ (7302250 : Nat); omega⟩) hS (fun H locs hG hS => ?_)
  rw [← mgv_W] at hG
  refine lv_icmp_eq (tgt := 1045) hxx hb dL_law_612 (by decide) (fun _ => ?_) (fun c => absurd rfl c)
  exact W.widen (by omega) (by omega) (kk _ _ _ _ _ _ _ _ _ _ _ _ _ _ _ _ _ _ _ _ _ _ _ _ _ _ _ _ _ _ _ _ _ _ _ _ _ _ e4 hG hS hl)
set_option maxHeartbeats 4000000 in
set_option maxRecDepth 100000 in
theorem law_knows {p : Program} {l : Launch} {e : Env} {s : State} {m : MethodId} {below : List Frame} {meth : Method} {c : Code} {D : va_G} {gb : GB} {cI cL : ClassId} {b Ln : Nat} {xs : Nat → Int32} {hx h0 M : Nat} {gv : Nat → GV} {cells slots : Nat} {x3 : Int32} {H : Heap} {locs : List Loc} {ls : Array Slot} {a_refused : Nat → Int32} {a_isWall : Nat → Int32} {a_kind : Nat → Int32} {a_lampCell : Nat → Int32} {a_range : Nat → Int32} {a_lit : Nat → Int32} {a_scenes : Nat → Int32} {a_who : Nat → Int32} {a_cell : Nat → Int32} {a_minuteOf : Nat → Int32} {a_standsAt : Nat → Int32} {i_lampMany : Int32} {i_people : Int32} {i_minute : Int32} {a_tape : Nat → Int32} {a_letter : Nat → Int32} {a_letterAt : Nat → Int32} {a_told : Nat → Int32} {i_taped : Int32} {i_at : Int32} {i_statements : Int32} {a_kept : Nat → Int32} {i_hasImage : Int32} {i_isKeeping : Int32} {i_cursor : Int32} {a_far : Nat → Int32} {a_shut : Nat → Int32} {a_queue : Nat → Int32} {i_queued : Int32} {a_litBy : Nat → Int32} {a_may : Nat → Int32} {a_row : Nat → Int32} {i_rowMany : Int32} (C0 : lC p s m meth c b Ln xs D gb cI cL) (hR : Rel hx h0 gv M a_refused a_isWall a_kind a_lampCell a_range a_lit a_scenes a_who a_cell a_minuteOf a_standsAt i_lampMany i_people i_minute a_tape a_letter a_letterAt a_told i_taped i_at i_statements a_kept i_hasImage i_isKeeping i_cursor a_far a_shut a_queue i_queued a_litBy a_may a_row i_rowMany) (hG : GP D gb M (gW cI cL gv) H) (hS : va_S (gA gb) s.heap H locs) (hl : lv_has ls 4 [(0, .ref b), (1, .ref hx), (2, .ref h0), (3, .int x3)]) (h_1 : vp_in (x3 + 1) Ln) (h_2 : vp_in (x3 + 2) Ln) (h_3 : vp_in (x3 + 3) Ln) (hc1 : cells + 94 ≤ 600000) (hc2 : slots + 658 ≤ 7302250) (kk : (∀ (gv2 : Nat → GV) (M2 : Nat) (a_refused : Nat → Int32) (a_isWall : Nat → Int32) (a_kind : Nat → Int32) (a_lampCell : Nat → Int32) (a_range : Nat → Int32) (a_lit : Nat → Int32) (a_scenes : Nat → Int32) (a_who : Nat → Int32) (a_cell : Nat → Int32) (a_minuteOf : Nat → Int32) (a_standsAt : Nat → Int32) (i_lampMany : Int32) (i_people : Int32) (i_minute : Int32) (a_tape : Nat → Int32) (a_letter : Nat → Int32) (a_letterAt : Nat → Int32) (a_told : Nat → Int32) (i_taped : Int32) (i_at : Int32) (i_statements : Int32) (a_kept : Nat → Int32) (i_hasImage : Int32) (i_isKeeping : Int32) (i_cursor : Int32) (a_far : Nat → Int32) (a_shut : Nat → Int32) (a_queue : Nat → Int32) (i_queued : Int32) (a_litBy : Nat → Int32) (a_may : Nat → Int32) (a_row : Nat → Int32) (i_rowMany : Int32) (H : Heap) (locs : List Loc) (ls : Array Slot), Rel hx h0 gv2 M2 a_refused a_isWall a_kind a_lampCell a_range a_lit a_scenes a_who a_cell a_minuteOf a_standsAt i_lampMany i_people i_minute a_tape a_letter a_letterAt a_told i_taped i_at i_statements a_kept i_hasImage i_isKeeping i_cursor a_far a_shut a_queue i_queued a_litBy a_may a_row i_rowMany → GP D gb M2 (gW cI cL gv2) H → va_S (gA gb) s.heap H locs → lv_has ls 4 [(0, .ref b), (1, .ref hx), (2, .ref h0), (3, .int x3)] → W p l e room_1 s m #[Value.ref b] below meth c H locs (cells + 94) (slots + 658) (lw_Z below #[Value.ref b] s) (F0 m 1045 ls []))) : W p l e room_1 s m #[Value.ref b] below meth c H locs cells slots (lw_Z below #[Value.ref b] s) (F0 m 617 ls []) := by
  obtain ⟨hxx, hb, hr, hml, hown, hts0, hX, hbl, hbA, hlocks, hgb, hKn⟩ := C0
  have hK := hKn.1
  have hts : ∀ w ∈ wsL_law, w.before #[Value.ref b] s = true := fun w h => hts0 w (wsL_law_in w h)
  obtain ⟨r, gv', a_refused', a_far', a_shut', a_queue', i_queued', a_litBy', e1, e2, e3, e4⟩ := op_knows hR (xs (x3 + 1).toNatClampNeg) (xs (x3 + 2).toNatClampNeg) (xs (x3 + 3).toNatClampNeg)
  obtain ⟨fx, hfx⟩ := hR.cell
  refine lv_aload_n hxx hb dL_law_617 rfl (lv_at hl 1 rfl) ?_
  refine lv_aload_n hxx hb dL_law_618 rfl (lv_at hl 0 rfl) ?_
  refine lv_iload_n hxx hb dL_law_619 rfl (lv_at hl 3 rfl) ?_
  refine lv_iconst (v := 1) hxx hb dL_law_620 (by decide) ?_
  refine lv_iadd hxx hb dL_law_621 ?_
  refine va_sld hxx hb hX hbl hbA hS h_1 dL_law_622 ?_
  refine lv_aload_n hxx hb dL_law_623 rfl (lv_at hl 0 rfl) ?_
  refine lv_iload_n hxx hb dL_law_624 rfl (lv_at hl 3 rfl) ?_
  refine lv_iconst (v := 2) hxx hb dL_law_625 (by decide) ?_
  refine lv_iadd hxx hb dL_law_626 ?_
  refine va_sld hxx hb hX hbl hbA hS h_2 dL_law_627 ?_
  refine lv_aload_n hxx hb dL_law_628 rfl (lv_at hl 0 rfl) ?_
  refine lv_iload_n hxx hb dL_law_629 rfl (lv_at hl 3 rfl) ?_
  refine lv_iconst (v := 3) hxx hb dL_law_630 (by decide) ?_
  refine lv_iadd hxx hb dL_law_631 ?_
  refine va_sld hxx hb hX hbl hbA hS h_3 dL_law_632 ?_
  refine gp_callI (va_runV (As := [.int (xs (x3 + 1).toNatClampNeg), .int (xs (x3 + 2).toNatClampNeg), .int (xs (x3 + 3).toNatClampNeg)]) (rest := []) ⟨hxx, hb, hml, hown, hts⟩ (c_X11_knows (l := l) (D := D) (b := gb) (cI := cI) (cL := cL) e1) (cwV 3 hts gL_law_X11_knows rfl rfl rfl (by decide +kernel) ⟨Nat.le_of_ble_eq_true rfl, Nat.le_of_ble_eq_true rfl⟩) (gp_preV hKn hG (cp_obj hfx) rfl) rfl rfl hl.1 rfl (lv_room (Nat.le_of_ble_eq_true rfl)) dL_law_633 ⟨by show _ ≤ (600000 : Nat); omega, by show _ ≤ (7302250 : Nat); omega⟩) hS (fun H locs hG hS => ?_)
  rw [← e3, mgv_W] at hG
  refine lv_aload_n hxx hb dL_law_636 rfl (lv_at hl 2 rfl) ?_
  refine lv_aload_n hxx hb dL_law_637 rfl (lv_at hl 0 rfl) ?_
  refine lv_iload_n hxx hb dL_law_638 rfl (lv_at hl 3 rfl) ?_
  refine lv_iconst (v := 1) hxx hb dL_law_639 (by decide) ?_
  refine lv_iadd hxx hb dL_law_640 ?_
  refine va_sld hxx hb hX hbl hbA hS h_1 dL_law_641 ?_
  refine lv_aload_n hxx hb dL_law_642 rfl (lv_at hl 0 rfl) ?_
  refine lv_iload_n hxx hb dL_law_643 rfl (lv_at hl 3 rfl) ?_
  refine lv_iconst (v := 2) hxx hb dL_law_644 (by decide) ?_
  refine lv_iadd hxx hb dL_law_645 ?_
  refine va_sld hxx hb hX hbl hbA hS h_2 dL_law_646 ?_
  refine lv_aload_n hxx hb dL_law_647 rfl (lv_at hl 0 rfl) ?_
  refine lv_iload_n hxx hb dL_law_648 rfl (lv_at hl 3 rfl) ?_
  refine lv_iconst (v := 3) hxx hb dL_law_649 (by decide) ?_
  refine lv_iadd hxx hb dL_law_650 ?_
  refine va_sld hxx hb hX hbl hbA hS h_3 dL_law_651 ?_
  refine gp_callI (va_runV (As := [.int (xs (x3 + 1).toNatClampNeg), .int (xs (x3 + 2).toNatClampNeg), .int (xs (x3 + 3).toNatClampNeg)]) (rest := [.int r]) ⟨hxx, hb, hml, hown, hts⟩ (c_X12_knows (l := l) (D := D) (b := gb) (cI := cI) (cL := cL) e2) (cwV 3 hts gL_law_X12_knows rfl rfl rfl (by decide +kernel) ⟨Nat.le_of_ble_eq_true rfl, Nat.le_of_ble_eq_true rfl⟩) (gp_preV hKn hG mg_o rfl) rfl rfl hl.1 rfl (lv_room (Nat.le_of_ble_eq_true rfl)) dL_law_652 ⟨by show _ ≤ (600000 : Nat); omega, by show _ ≤ (7302250 : Nat); omega⟩) hS (fun H locs hG hS => ?_)
  rw [← mgv_W] at hG
  refine lv_icmp_eq (tgt := 1045) hxx hb dL_law_655 (by decide) (fun _ => ?_) (fun c => absurd rfl c)
  exact W.widen (by omega) (by omega) (kk _ _ _ _ _ _ _ _ _ _ _ _ _ _ _ _ _ _ _ _ _ _ _ _ _ _ _ _ _ _ _ _ _ _ _ _ _ _ e4 hG hS hl)
