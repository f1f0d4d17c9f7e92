set_option maxHeartbeats 4000000 in
set_option maxRecDepth 100000 in
theorem law_known {p : Program} {l : Launch} {e : Env} {s : State} {m : MethodId} {below : List Frame} {meth : Method} {c : Code} {D : va_G} {gb : GB} {cI cL : ClassId} {b Ln : Nat} {xs : Nat → Int32} {hx h0 M : Nat} {gv : Nat → GV} {cells slots : Nat} {x3 : Int32} {H : Heap} {locs : List Loc} {ls : Array Slot} {a_refused : Nat → Int32} {a_isWall : Nat → Int32} {a_kind : Nat → Int32} {a_lampCell : Nat → Int32} {a_range : Nat → Int32} {a_lit : Nat → Int32} {a_scenes : Nat → Int32} {a_who : Nat → Int32} {a_cell : Nat → Int32} {a_minuteOf : Nat → Int32} {a_standsAt : Nat → Int32} {i_lampMany : Int32} {i_people : Int32} {i_minute : Int32} {a_tape : Nat → Int32} {a_letter : Nat → Int32} {a_letterAt : Nat → Int32} {a_told : Nat → Int32} {i_taped : Int32} {i_at : Int32} {i_statements : Int32} {a_kept : Nat → Int32} {i_hasImage : Int32} {i_isKeeping : Int32} {i_cursor : Int32} {a_far : Nat → Int32} {a_shut : Nat → Int32} {a_queue : Nat → Int32} {i_queued : Int32} {a_litBy : Nat → Int32} {a_may : Nat → Int32} {a_row : Nat → Int32} {i_rowMany : Int32} (C0 : lC p s m meth c b Ln xs D gb cI cL) (hR : Rel hx h0 gv M a_refused a_isWall a_kind a_lampCell a_range a_lit a_scenes a_who a_cell a_minuteOf a_standsAt i_lampMany i_people i_minute a_tape a_letter a_letterAt a_told i_taped i_at i_statements a_kept i_hasImage i_isKeeping i_cursor a_far a_shut a_queue i_queued a_litBy a_may a_row i_rowMany) (hG : GP D gb M (gW cI cL gv) H) (hS : va_S (gA gb) s.heap H locs) (hl : lv_has ls 4 [(0, .ref b), (1, .ref hx), (2, .ref h0), (3, .int x3)]) (h_1 : vp_in (x3 + 1) Ln) (hc1 : cells + 94 ≤ 600000) (hc2 : slots + 658 ≤ 7302250) (kk : (∀ (gv2 : Nat → GV) (M2 : Nat) (a_refused : Nat → Int32) (a_isWall : Nat → Int32) (a_kind : Nat → Int32) (a_lampCell : Nat → Int32) (a_range : Nat → Int32) (a_lit : Nat → Int32) (a_scenes : Nat → Int32) (a_who : Nat → Int32) (a_cell : Nat → Int32) (a_minuteOf : Nat → Int32) (a_standsAt : Nat → Int32) (i_lampMany : Int32) (i_people : Int32) (i_minute : Int32) (a_tape : Nat → Int32) (a_letter : Nat → Int32) (a_letterAt : Nat → Int32) (a_told : Nat → Int32) (i_taped : Int32) (i_at : Int32) (i_statements : Int32) (a_kept : Nat → Int32) (i_hasImage : Int32) (i_isKeeping : Int32) (i_cursor : Int32) (a_far : Nat → Int32) (a_shut : Nat → Int32) (a_queue : Nat → Int32) (i_queued : Int32) (a_litBy : Nat → Int32) (a_may : Nat → Int32) (a_row : Nat → Int32) (i_rowMany : Int32) (H : Heap) (locs : List Loc) (ls : Array Slot), Rel hx h0 gv2 M2 a_refused a_isWall a_kind a_lampCell a_range a_lit a_scenes a_who a_cell a_minuteOf a_standsAt i_lampMany i_people i_minute a_tape a_letter a_letterAt a_told i_taped i_at i_statements a_kept i_hasImage i_isKeeping i_cursor a_far a_shut a_queue i_queued a_litBy a_may a_row i_rowMany → GP D gb M2 (gW cI cL gv2) H → va_S (gA gb) s.heap H locs → lv_has ls 4 [(0, .ref b), (1, .ref hx), (2, .ref h0), (3, .int x3)] → W p l e room_1 s m #[Value.ref b] below meth c H locs (cells + 94) (slots + 658) (lw_Z below #[Value.ref b] s) (F0 m 1045 ls []))) : W p l e room_1 s m #[Value.ref b] below meth c H locs cells slots (lw_Z below #[Value.ref b] s) (F0 m 660 ls []) := by
  obtain ⟨hxx, hb, hr, hml, hown, hts0, hX, hbl, hbA, hlocks, hgb, hKn⟩ := C0
  have hK := hKn.1
  have hts : ∀ w ∈ wsL_law, w.before #[Value.ref b] s = true := fun w h => hts0 w (wsL_law_in w h)
  obtain ⟨r, gv', a_refused', a_far', a_shut', a_queue', i_queued', a_litBy', e1, e2, e3, e4⟩ := op_known hR (xs (x3 + 1).toNatClampNeg)
  obtain ⟨fx, hfx⟩ := hR.cell
  refine lv_aload_n hxx hb dL_law_660 rfl (lv_at hl 1 rfl) ?_
  refine lv_aload_n hxx hb dL_law_661 rfl (lv_at hl 0 rfl) ?_
  refine lv_iload_n hxx hb dL_law_662 rfl (lv_at hl 3 rfl) ?_
  refine lv_iconst (v := 1) hxx hb dL_law_663 (by decide) ?_
  refine lv_iadd hxx hb dL_law_664 ?_
  refine va_sld hxx hb hX hbl hbA hS h_1 dL_law_665 ?_
  refine gp_callI (va_runV (As := [.int (xs (x3 + 1).toNatClampNeg)]) (rest := []) ⟨hxx, hb, hml, hown, hts⟩ (c_X11_known (l := l) (D := D) (b := gb) (cI := cI) (cL := cL) e1) (cwV 1 hts gL_law_X11_known rfl rfl rfl (by decide +kernel) ⟨Nat.le_of_ble_eq_true rfl, Nat.le_of_ble_eq_true rfl⟩) (gp_preV hKn hG (cp_obj hfx) rfl) rfl rfl hl.1 rfl (lv_room (Nat.le_of_ble_eq_true rfl)) dL_law_666 ⟨by show _ ≤ (600000 : Nat); omega, by show _ ≤ (7302250 : Nat); omega⟩) hS (fun H locs hG hS => ?_)
  rw [← e3, mgv_W] at hG
  refine lv_aload_n hxx hb dL_law_669 rfl (lv_at hl 2 rfl) ?_
  refine lv_aload_n hxx hb dL_law_670 rfl (lv_at hl 0 rfl) ?_
  refine lv_iload_n hxx hb dL_law_671 rfl (lv_at hl 3 rfl) ?_
  refine lv_iconst (v := 1) hxx hb dL_law_672 (by decide) ?_
  refine lv_iadd hxx hb dL_law_673 ?_
  refine va_sld hxx hb hX hbl hbA hS h_1 dL_law_674 ?_
  refine gp_callI (va_runV (As := [.int (xs (x3 + 1).toNatClampNeg)]) (rest := [.int r]) ⟨hxx, hb, hml, hown, hts⟩ (c_X12_known (l := l) (D := D) (b := gb) (cI := cI) (cL := cL) e2) (cwV 1 hts gL_law_X12_known rfl rfl rfl (by decide +kernel) ⟨Nat.le_of_ble_eq_true rfl, Nat.le_of_ble_eq_true rfl⟩) (gp_preV hKn hG mg_o rfl) rfl rfl hl.1 rfl (lv_room (Nat.le_of_ble_eq_true rfl)) dL_law_675 ⟨by show _ ≤ (600000 : Nat); omega, by show _ ≤ (7302250 : Nat); omega⟩) hS (fun H locs hG hS => ?_)
  rw [← mgv_W] at hG
  refine lv_icmp_eq (tgt := 1045) hxx hb dL_law_678 (by decide) (fun _ => ?_) (fun c => absurd rfl c)
  exact W.widen (by omega) (by omega) (kk _ _ _ _ _ _ _ _ _ _ _ _ _ _ _ _ _ _ _ _ _ _ _ _ _ _ _ _ _ _ _ _ _ _ _ _ _ _ e4 hG hS hl)
set_option maxHeartbeats 4000000 in
set_option maxRecDepth 100000 in
theorem law_allKnow {p : Program} {l : Launch} {e : Env} {s : State} {m : MethodId} {below : List Frame} {meth : Method} {c : Code} {D : va_G} {gb : GB} {cI cL : ClassId} {b Ln : Nat} {xs : Nat → Int32} {hx h0 M : Nat} {gv : Nat → GV} {cells slots : Nat} {x3 : Int32} {H : Heap} {locs : List Loc} {ls : Array Slot} {a_refused : Nat → Int32} {a_isWall : Nat → Int32} {a_kind : Nat → Int32} {a_lampCell : Nat → Int32} {a_range : Nat → Int32} {a_lit : Nat → Int32} {a_scenes : Nat → Int32} {a_who : Nat → Int32} {a_cell : Nat → Int32} {a_minuteOf : Nat → Int32} {a_standsAt : Nat → Int32} {i_lampMany : Int32} {i_people : Int32} {i_minute : Int32} {a_tape : Nat → Int32} {a_letter : Nat → Int32} {a_letterAt : Nat → Int32} {a_told : Nat → Int32} {i_taped : Int32} {i_at : Int32} {i_statements : Int32} {a_kept : Nat → Int32} {i_hasImage : Int32} {i_isKeeping : Int32} {i_cursor : Int32} {a_far : Nat → Int32} {a_shut : Nat → Int32} {a_queue : Nat → Int32} {i_queued : Int32} {a_litBy : Nat → Int32} {a_may : Nat → Int32} {a_row : Nat → Int32} {i_rowMany : Int32} (C0 : lC p s m meth c b Ln xs D gb cI cL) (hR : Rel hx h0 gv M a_refused a_isWall a_kind a_lampCell a_range a_lit a_scenes a_who a_cell a_minuteOf a_standsAt i_lampMany i_people i_minute a_tape a_letter a_letterAt a_told i_taped i_at i_statements a_kept i_hasImage i_isKeeping i_cursor a_far a_shut a_queue i_queued a_litBy a_may a_row i_rowMany) (hG : GP D gb M (gW cI cL gv) H) (hS : va_S (gA gb) s.heap H locs) (hl : lv_has ls 4 [(0, .ref b), (1, .ref hx), (2, .ref h0), (3, .int x3)]) (hc1 : cells + 94 ≤ 600000) (hc2 : slots + 658 ≤ 7302250) (kk : (∀ (gv2 : Nat → GV) (M2 : Nat) (a_refused : Nat → Int32) (a_isWall : Nat → Int32) (a_kind : Nat → Int32) (a_lampCell : Nat → Int32) (a_range : Nat → Int32) (a_lit : Nat → Int32) (a_scenes : Nat → Int32) (a_who : Nat → Int32) (a_cell : Nat → Int32) (a_minuteOf : Nat → Int32) (a_standsAt : Nat → Int32) (i_lampMany : Int32) (i_people : Int32) (i_minute : Int32) (a_tape : Nat → Int32) (a_letter : Nat → Int32) (a_letterAt : Nat → Int32) (a_told : Nat → Int32) (i_taped : Int32) (i_at : Int32) (i_statements : Int32) (a_kept : Nat → Int32) (i_hasImage : Int32) (i_isKeeping : Int32) (i_cursor : Int32) (a_far : Nat → Int32) (a_shut : Nat → Int32) (a_queue : Nat → Int32) (i_queued : Int32) (a_litBy : Nat → Int32) (a_may : Nat → Int32) (a_row : Nat → Int32) (i_rowMany : Int32) (H : Heap) (locs : List Loc) (ls : Array Slot), Rel hx h0 gv2 M2 a_refused a_isWall a_kind a_lampCell a_range a_lit a_scenes a_who a_cell a_minuteOf a_standsAt i_lampMany i_people i_minute a_tape a_letter a_letterAt a_told i_taped i_at i_statements a_kept i_hasImage i_isKeeping i_cursor a_far a_shut a_queue i_queued a_litBy a_may a_row i_rowMany → GP D gb M2 (gW cI cL gv2) H → va_S (gA gb) s.heap H locs → lv_has ls 4 [(0, .ref b), (1, .ref hx), (2, .ref h0), (3, .int x3)] → W p l e room_1 s m #[Value.ref b] below meth c H locs (cells + 94) (slots + 658) (lw_Z below #[Value.ref b] s) (F0 m 1045 ls []))) : W p l e room_1 s m #[Value.ref b] below meth c H locs cells slots (lw_Z below #[Value.ref b] s) (F0 m 683 ls []) := by
  obtain ⟨hxx, hb, hr, hml, hown, hts0, hX, hbl, hbA, hlocks, hgb, hKn⟩ := C0
  have hK := hKn.1
  have hts : ∀ w ∈ wsL_law, w.before #[Value.ref b] s = true := fun w h => hts0 w (wsL_law_in w h)
  obtain ⟨r, a_far', a_shut', a_queue', i_queued', a_litBy', e1, e2, e3, e4⟩ := op_allKnow hR
  obtain ⟨fx, hfx⟩ := hR.cell
  refine lv_aload_n hxx hb dL_law_683 rfl (lv_at hl 1 rfl) ?_
  refine gp_callI (va_runV (As := []) (rest := []) ⟨hxx, hb, hml, hown, hts⟩ (c_X11_allKnow (l := l) (D := D) (b := gb) (cI := cI) (cL := cL) e1) (cwV 0 hts gL_law_X11_allKnow rfl rfl rfl (by decide +kernel) ⟨Nat.le_of_ble_eq_true rfl, Nat.le_of_ble_eq_true rfl⟩) (gp_preV hKn hG (cp_obj hfx) rfl) rfl rfl hl.1 rfl (lv_room (Nat.le_of_ble_eq_true rfl)) dL_law_684 ⟨by show _ ≤ (600000 : Nat); omega, by show _ ≤ (7302250 : Nat); omega⟩) hS (fun H locs hG hS => ?_)
  rw [← e3, mgv_W] at hG
  refine lv_aload_n hxx hb dL_law_687 rfl (lv_at hl 2 rfl) ?_
  refine gp_callI (va_runV (As := []) (rest := [.int r]) ⟨hxx, hb, hml, hown, hts⟩ (c_X12_allKnow (l := l) (D := D) (b := gb) (cI := cI) (cL := cL) e2) (cwV 0 hts gL_law_X12_allKnow rfl rfl rfl (by decide +kernel) ⟨Nat.le_of_ble_eq_true rfl, Nat.le_of_ble_eq_true rfl⟩) (gp_preV hKn hG mg_o rfl) rfl rfl hl.1 rfl (lv_room (Nat.le_of_ble_eq_true rfl)) dL_law_688 ⟨by show _ ≤ (600000 : Nat); omega, by show _ ≤ (7302250 : Nat); omega⟩) hS (fun H locs hG hS => ?_)
  rw [← mgv_W] at hG
  refine lv_icmp_eq (tgt := 1045) hxx hb dL_law_691 (by decide) (fun _ => ?_) (fun c => absurd rfl c)
  exact W.widen (by omega) (by omega) (kk _ _ _ _ _ _ _ _ _ _ _ _ _ _ _ _ _ _ _ _ _ _ _ _ _ _ _ _ _ _ _ _ _ _ _ _ _ _ e4 hG hS hl)
set_option maxHeartbeats 4000000 in
set_option maxRecDepth 100000 in
theorem law_whereAt {p : Program} {l : Launch} {e : Env} {s : State} {m : MethodId} {below : List Frame} {meth : Method} {c : Code} {D : va_G} {gb : GB} {cI cL : ClassId} {b Ln : Nat} {xs : Nat → Int32} {hx h0 M : Nat} {gv : Nat → GV} {cells slots : Nat} {x3 : Int32} {H : Heap} {locs : List Loc} {ls : Array Slot} {a_refused : Nat → Int32} {a_isWall : Nat → Int32} {a_kind : Nat → Int32} {a_lampCell : Nat → Int32} {a_range : Nat → Int32} {a_lit : Nat → Int32} {a_scenes : Nat → Int32} {a_who : Nat → Int32} {a_cell : Nat → Int32} {a_minuteOf : Nat → Int32} {a_standsAt : Nat → Int32} {i_lampMany : Int32} {i_people : Int32} {i_minute : Int32} {a_tape : Nat → Int32} {a_letter : Nat → Int32} {a_letterAt : Nat → Int32} {a_told : Nat → Int32} {i_taped : Int32} {i_at : Int32} {i_statements : Int32} {a_kept : Nat → Int32} {i_hasImage : Int32} {i_isKeeping : Int32} {i_cursor : Int32} {a_far : Nat → Int32} {a_shut : Nat → Int32} {a_queue : Nat → Int32} {i_queued : Int32} {a_litBy : Nat → Int32} {a_may : Nat → Int32} {a_row : Nat → Int32} {i_rowMany : Int32} (C0 : lC p s m meth c b Ln xs D gb cI cL) (hR : Rel hx h0 gv M a_refused a_isWall a_kind a_lampCell a_range a_lit a_scenes a_who a_cell a_minuteOf a_standsAt i_lampMany i_people i_minute a_tape a_letter a_letterAt a_told i_taped i_at i_statements a_kept i_hasImage i_isKeeping i_cursor a_far a_shut a_queue i_queued a_litBy a_may a_row i_rowMany) (hG : GP D gb M (gW cI cL gv) H) (hS : va_S (gA gb) s.heap H locs) (hl : lv_has ls 4 [(0, .ref b), (1, .ref hx), (2, .ref h0), (3, .int x3)]) (h_1 : vp_in (x3 + 1) Ln) (h_2 : vp_in (x3 + 2) Ln) (h_3 : vp_in (x3 + 3) Ln) (hc1 : cells + 94 ≤ 600000) (hc2 : slots + 658 ≤ 7302250) (kk : (∀ (gv2 : Nat → GV) (M2 : Nat) (a_refused : Nat → Int32) (a_isWall : Nat → Int32) (a_kind : Nat → Int32) (a_lampCell : Nat → Int32) (a_range : Nat → Int32) (a_lit : Nat → Int32) (a_scenes : Nat → Int32) (a_who : Nat → Int32) (a_cell : Nat → Int32) (a_minuteOf : Nat → Int32) (a_standsAt : Nat → Int32) (i_lampMany : Int32) (i_people : Int32) (i_minute : Int32) (a_tape : Nat → Int32) (a_letter : Nat → Int32) (a_letterAt : Nat → Int32) (a_told : Nat → Int32) (i_taped : Int32) (i_at : Int32) (i_statements : Int32) (a_kept : Nat → Int32) (i_hasImage : Int32) (i_isKeeping : Int32) (i_cursor : Int32) (a_far : Nat → Int32) (a_shut : Nat → Int32) (a_queue : Nat → Int32) (i_queued : Int32) (a_litBy : Nat → Int32) (a_may : Nat → Int32) (a_row : Nat → Int32) (i_rowMany : Int32) (H : Heap) (locs : List Loc) (ls : Array Slot), Rel hx h0 gv2 M2 a_refused a_isWall a_kind a_lampCell a_range a_lit a_scenes a_who a_cell a_minuteOf a_standsAt i_lampMany i_people i_minute a_tape a_letter a_letterAt a_told i_taped i_at i_statements a_kept i_hasImage i_isKeeping i_cursor a_far a_shut a_queue i_queued a_litBy a_may a_row i_rowMany → GP D gb M2 (gW cI cL gv2) H → va_S (gA gb) s.heap H locs → lv_has ls 4 [(0, .ref b), (1, .ref hx), (2, .ref h0), (3, .int x3)] → W p l e room_1 s m #[Value.ref b] below meth c H locs (cells + 94) (slots + 658) (lw_Z below #[Value.ref b] s) (F0 m 1045 ls []))) : W p l e room_1 s m #[Value.ref b] below meth c H locs cells slots (lw_Z below #[Value.ref b] s) (F0 m 696 ls []) := by
  obtain ⟨hxx, hb, hr, hml, hown, hts0, hX, hbl, hbA, hlocks, hgb, hKn⟩ := C0
  have hK := hKn.1
  have hts : ∀ w ∈ wsL_law, w.before #[Value.ref b] s = true := fun w h => hts0 w (wsL_law_in w h)
  obtain ⟨r, gv', a_refused', a_far', a_shut', a_queue', i_queued', a_litBy', a_may', e1, e2, e3, e4⟩ := op_whereAt hR (xs (x3 + 1).toNatClampNeg) (xs (x3 + 2).toNatClampNeg) (xs (x3 + 3).toNatClampNeg)
  obtain ⟨fx, hfx⟩ := hR.cell
  refine lv_aload_n hxx hb dL_law_696 rfl (lv_at hl 1 rfl) ?_
  refine lv_aload_n hxx hb dL_law_697 rfl (lv_at hl 0 rfl) ?_
  refine lv_iload_n hxx hb dL_law_698 rfl (lv_at hl 3 rfl) ?_
  refine lv_iconst (v := 1) hxx hb dL_law_699 (by decide) ?_
  refine lv_iadd hxx hb dL_law_700 ?_
  refine va_sld hxx hb hX hbl hbA hS h_1 dL_law_701 ?_
  refine lv_aload_n hxx hb dL_law_702 rfl (lv_at hl 0 rfl) ?_
  refine lv_iload_n hxx hb dL_law_703 rfl (lv_at hl 3 rfl) ?_
  refine lv_iconst (v := 2) hxx hb dL_law_704 (by decide) ?_
  refine lv_iadd hxx hb dL_law_705 ?_
  refine va_sld hxx hb hX hbl hbA hS h_2 dL_law_706 ?_
  refine lv_aload_n hxx hb dL_law_707 rfl (lv_at hl 0 rfl) ?_
  refine lv_iload_n hxx hb dL_law_708 rfl (lv_at hl 3 rfl) ?_
  refine lv_iconst (v := 3) hxx hb dL_law_709 (by decide) ?_
  refine lv_iadd hxx hb dL_law_710 ?_
  refine va_sld hxx hb hX hbl hbA hS h_3 dL_law_711 ?_
  refine gp_callI (va_runV (As := [.int (xs (x3 + 1).toNatClampNeg), .int (xs (x3 + 2).toNatClampNeg), .int (xs (x3 + 3).toNatClampNeg)]) (rest := []) ⟨hxx, hb, hml, hown, hts⟩ (c_X11_whereAt (l := l) (D := D) (b := gb) (cI := cI) (cL := cL) e1) (cwV 3 hts gL_law_X11_whereAt rfl rfl rfl (by decide +kernel) ⟨Nat.le_of_ble_eq_true rfl, Nat.le_of_ble_eq_true rfl⟩) (gp_preV hKn hG (cp_obj hfx) rfl) rfl rfl hl.1 rfl (lv_room (Nat.le_of_ble_eq_true rfl)) dL_law_712 ⟨by show _ ≤ (600000 : Nat); omega, by show _ ≤ (7302250 : Nat); omega⟩) hS (fun H locs hG hS => ?_)
  rw [← e3, mgv_W] at hG
  refine lv_aload_n hxx hb dL_law_715 rfl (lv_at hl 2 rfl) ?_
  refine lv_aload_n hxx hb dL_law_716 rfl (lv_at hl 0 rfl) ?_
  refine lv_iload_n hxx hb dL_law_717 rfl (lv_at hl 3 rfl) ?_
  refine lv_iconst (v := 1) hxx hb dL_law_718 (by decide) ?_
  refine lv_iadd hxx hb dL_law_719 ?_
  refine va_sld hxx hb hX hbl hbA hS h_1 dL_law_720 ?_
  refine lv_aload_n hxx hb dL_law_721 rfl (lv_at hl 0 rfl) ?_
  refine lv_iload_n hxx hb dL_law_722 rfl (lv_at hl 3 rfl) ?_
  refine lv_iconst (v := 2) hxx hb dL_law_723 (by decide) ?_
  refine lv_iadd hxx hb dL_law_724 ?_
  refine va_sld hxx hb hX hbl hbA hS h_2 dL_law_725 ?_
  refine lv_aload_n hxx hb dL_law_726 rfl (lv_at hl 0 rfl) ?_
  refine lv_iload_n hxx hb dL_law_727 rfl (lv_at hl 3 rfl) ?_
  refine lv_iconst (v := 3) hxx hb dL_law_728 (by decide) ?_
  refine lv_iadd hxx hb dL_law_729 ?_
  refine va_sld hxx hb hX hbl hbA hS h_3 dL_law_730 ?_
  refine gp_callI (va_runV (As := [.int (xs (x3 + 1).toNatClampNeg), .int (xs (x3 + 2).toNatClampNeg), .int (xs (x3 + 3).toNatClampNeg)]) (rest := [.int r]) ⟨hxx, hb, hml, hown, hts⟩ (c_X12_whereAt (l := l) (D := D) (b := gb) (cI := cI) (cL := cL) e2) (cwV 3 hts gL_law_X12_whereAt rfl rfl rfl (by decide +kernel) ⟨Nat.le_of_ble_eq_true rfl, Nat.le_of_ble_eq_true rfl⟩) (gp_preV hKn hG mg_o rfl) rfl rfl hl.1 rfl (lv_room (Nat.le_of_ble_eq_true rfl)) dL_law_731 ⟨by show _ ≤ (600000 : Nat); omega, by show _ ≤ (7302250 : Nat); omega⟩) hS (fun H locs hG hS => ?_)
  rw [← mgv_W] at hG
  refine lv_icmp_eq (tgt := 1045) hxx hb dL_law_734 (by decide) (fun _ => ?_) (fun c => absurd rfl c)
  exact W.widen (by omega) (by omega) (kk _ _ _ _ _ _ _ _ _ _ _ _ _ _ _ _ _ _ _ _ _ _ _ _ _ _ _ _ _ _ _ _ _ _ _ _ _ _ e4 hG hS hl)
set_option maxHeartbeats 4000000 in
set_option maxRecDepth 100000 in
theorem law_next {p : Program} {l : Launch} {e : Env} {s : State} {m : MethodId} {below : List Frame} {meth : Method} {c : Code} {D : va_G} {gb : GB} {cI cL : ClassId} {b Ln : Nat} {xs : Nat → Int32} {hx h0 M : Nat} {gv : Nat → GV} {cells slots : Nat} {x3 : Int32} {H : Heap} {locs : List Loc} {ls : Array Slot} {a_refused : Nat → Int32} {a_isWall : Nat → Int32} {a_kind : Nat → Int32} {a_lampCell : Nat → Int32} {a_range : Nat → Int32} {a_lit : Nat → Int32} {a_scenes : Nat → Int32} {a_who : Nat → Int32} {a_cell : Nat → Int32} {a_minuteOf : Nat → Int32} {a_standsAt : Nat → Int32} {i_lampMany : Int32} {i_people : Int32} {i_minute : Int32} {a_tape : Nat → Int32} {a_letter : Nat → Int32} {a_letterAt : Nat → Int32} {a_told : Nat → Int32} {i_taped : Int32} {i_at : Int32} {i_statements : Int32} {a_kept : Nat → Int32} {i_hasImage : Int32} {i_isKeeping : Int32} {i_cursor : Int32} {a_far : Nat → Int32} {a_shut : Nat → Int32} {a_queue : Nat → Int32} {i_queued : Int32} {a_litBy : Nat → Int32} {a_may : Nat → Int32} {a_row : Nat → Int32} {i_rowMany : Int32} (C0 : lC p s m meth c b Ln xs D gb cI cL) (hR : Rel hx h0 gv M a_refused a_isWall a_kind a_lampCell a_range a_lit a_scenes a_who a_cell a_minuteOf a_standsAt i_lampMany i_people i_minute a_tape a_letter a_letterAt a_told i_taped i_at i_statements a_kept i_hasImage i_isKeeping i_cursor a_far a_shut a_queue i_queued a_litBy a_may a_row i_rowMany) (hG : GP D gb M (gW cI cL gv) H) (hS : va_S (gA gb) s.heap H locs) (hl : lv_has ls 4 [(0, .ref b), (1, .ref hx), (2, .ref h0), (3, .int x3)]) (h_1 : vp_in (x3 + 1) Ln) (h_2 : vp_in (x3 + 2) Ln) (hc1 : cells + 94 ≤ 600000) (hc2 : slots + 658 ≤ 7302250) (kk : (∀ (gv2 : Nat → GV) (M2 : Nat) (a_refused : Nat → Int32) (a_isWall : Nat → Int32) (a_kind : Nat → Int32) (a_lampCell : Nat → Int32) (a_range : Nat → Int32) (a_lit : Nat → Int32) (a_scenes : Nat → Int32) (a_who : Nat → Int32) (a_cell : Nat → Int32) (a_minuteOf : Nat → Int32) (a_standsAt : Nat → Int32) (i_lampMany : Int32) (i_people : Int32) (i_minute : Int32) (a_tape : Nat → Int32) (a_letter : Nat → Int32) (a_letterAt : Nat → Int32) (a_told : Nat → Int32) (i_taped : Int32) (i_at : Int32) (i_statements : Int32) (a_kept : Nat → Int32) (i_hasImage : Int32) (i_isKeeping : Int32) (i_cursor : Int32) (a_far : Nat → Int32) (a_shut : Nat → Int32) (a_queue : Nat → Int32) (i_queued : Int32) (a_litBy : Nat → Int32) (a_may : Nat → Int32) (a_row : Nat → Int32) (i_rowMany : Int32) (H : Heap) (locs : List Loc) (ls : Array Slot), Rel hx h0 gv2 M2 a_refused a_isWall a_kind a_lampCell a_range a_lit a_scenes a_who a_cell a_minuteOf a_standsAt i_lampMany i_people i_minute a_tape a_letter a_letterAt a_told i_taped i_at i_statements a_kept i_hasImage i_isKeeping i_cursor a_far a_shut a_queue i_queued a_litBy a_may a_row i_rowMany → GP D gb M2 (gW cI cL gv2) H → va_S (gA gb) s.heap H locs → lv_has ls 4 [(0, .ref b), (1, .ref hx), (2, .ref h0), (3, .int x3)] → W p l e room_1 s m #[Value.ref b] below meth c H locs (cells + 94) (slots + 658) (lw_Z below #[Value.ref b] s) (F0 m 1045 ls []))) : W p l e room_1 s m #[Value.ref b] below meth c H locs cells slots (lw_Z below #[Value.ref b] s) (F0 m 739 ls []) := by
  obtain ⟨hxx, hb, hr, hml, hown, hts0, hX, hbl, hbA, hlocks, hgb, hKn⟩ := C0
  have hK := hKn.1
  have hts : ∀ w ∈ wsL_law, w.before #[Value.ref b] s = true := fun w h => hts0 w (wsL_law_in w h)
  obtain ⟨r, gv', a_refused', a_far', a_shut', a_queue', i_queued', a_litBy', a_may', e1, e2, e3, e4⟩ := op_next hR (xs (x3 + 1).toNatClampNeg) (xs (x3 + 2).toNatClampNeg)
  obtain ⟨fx, hfx⟩ := hR.cell
  refine lv_aload_n hxx hb dL_law_739 rfl (lv_at hl 1 rfl) ?_
  refine lv_aload_n hxx hb dL_law_740 rfl (lv_at hl 0 rfl) ?_
  refine lv_iload_n hxx hb dL_law_741 rfl (lv_at hl 3 rfl) ?_
  refine lv_iconst (v := 1) hxx hb dL_law_742 (by decide) ?_
  refine lv_iadd hxx hb dL_law_743 ?_
  refine va_sld hxx hb hX hbl hbA hS h_1 dL_law_744 ?_
  refine lv_aload_n hxx hb dL_law_745 rfl (lv_at hl 0 rfl) ?_
  refine lv_iload_n hxx hb dL_law_746 rfl (lv_at hl 3 rfl) ?_
  refine lv_iconst (v := 2) hxx hb dL_law_747 (by decide) ?_
  refine lv_iadd hxx hb dL_law_748 ?_
  refine va_sld hxx hb hX hbl hbA hS h_2 dL_law_749 ?_
  refine gp_callI (va_runV (As := [.int (xs (x3 + 1).toNatClampNeg), .int (xs (x3 + 2).toNatClampNeg)]) (rest := []) ⟨hxx, hb, hml, hown, hts⟩ (c_X11_next (l := l) (D := D) (b := gb) (cI := cI) (cL := cL) e1) (cwV 2 hts gL_law_X11_next rfl rfl rfl (by decide +kernel) ⟨Nat.le_of_ble_eq_true rfl, Nat.le_of_ble_eq_true rfl⟩) (gp_preV hKn hG (cp_obj hfx) rfl) rfl rfl hl.1 rfl (lv_room (Nat.le_of_ble_eq_true rfl)) dL_law_750 ⟨by show _ ≤ (600000 : Nat); omega, by show _ ≤ (7302250 : Nat); omega⟩) hS (fun H locs hG hS => ?_)
  rw [← e3, mgv_W] at hG
  refine lv_aload_n hxx hb dL_law_753 rfl (lv_at hl 2 rfl) ?_
  refine lv_aload_n hxx hb dL_law_754 rfl (lv_at hl 0 rfl) ?_
  refine lv_iload_n hxx hb dL_law_755 rfl (lv_at hl 3 rfl) ?_
  refine lv_iconst (v := 1) hxx hb dL_law_756 (by decide) ?_
  refine lv_iadd hxx hb dL_law_757 ?_
  refine va_sld hxx hb hX hbl hbA hS h_1 dL_law_758 ?_
  refine lv_aload_n hxx hb dL_law_759 rfl (lv_at hl 0 rfl) ?_
  refine lv_iload_n hxx hb dL_law_760 rfl (lv_at hl 3 rfl) ?_
  refine lv_iconst (v := 2) hxx hb dL_law_761 (by decide) ?_
  refine lv_iadd hxx hb dL_law_762 ?_
  refine va_sld hxx hb hX hbl hbA hS h_2 dL_law_763 ?_
  refine gp_callI (va_runV (As := [.int (xs (x3 + 1).toNatClampNeg), .int (xs (x3 + 2).toNatClampNeg)]) (rest := [.int r]) ⟨hxx, hb, hml, hown, hts⟩ (c_X12_next (l := l) (D := D) (b := gb) (cI := cI) (cL := cL) e2) (cwV 2 hts gL_law_X12_next rfl rfl rfl (by decide +kernel) ⟨Nat.le_of_ble_eq_true rfl, Nat.le_of_ble_eq_true rfl⟩) (gp_preV hKn hG mg_o rfl) rfl rfl hl.1 rfl (lv_room (Nat.le_of_ble_eq_true rfl)) dL_law_764 ⟨by show _ ≤ (600000 : Nat); omega, by show _ ≤ (7302250 : Nat); omega⟩) hS (fun H locs hG hS => ?_)
  rw [← mgv_W] at hG
  refine lv_icmp_eq (tgt := 1045) hxx hb dL_law_767 (by decide) (fun _ => ?_) (fun c => absurd rfl c)
  exact W.widen (by omega) (by omega) (kk _ _ _ _ _ _ _ _ _ _ _ _ _ _ _ _ _ _ _ _ _ _ _ _ _ _ _ _ _ _ _ _ _ _ _ _ _ _ e4 hG hS hl)
set_option maxHeartbeats 4000000 in
set_option maxRecDepth 100000 in
theorem law_fewest {p : Program} {l : Launch} {e : Env} {s : State} {m : MethodId} {below : List Frame} {meth : Method} {c : Code} {D : va_G} {gb : GB} {cI cL : ClassId} {b Ln : Nat} {xs : Nat → Int32} {hx h0 M : Nat} {gv : Nat → GV} {cells slots : Nat} {x3 : Int32} {H : Heap} {locs : List Loc} {ls : Array Slot} {a_refused : Nat → Int32} {a_isWall : Nat → Int32} {a_kind : Nat → Int32} {a_lampCell : Nat → Int32} {a_range : Nat → Int32} {a_lit : Nat → Int32} {a_scenes : Nat → Int32} {a_who : Nat → Int32} {a_cell : Nat → Int32} {a_minuteOf : Nat → Int32} {a_standsAt : Nat → Int32} {i_lampMany : Int32} {i_people : Int32} {i_minute : Int32} {a_tape : Nat → Int32} {a_letter : Nat → Int32} {a_letterAt : Nat → Int32} {a_told : Nat → Int32} {i_taped : Int32} {i_at : Int32} {i_statements : Int32} {a_kept : Nat → Int32} {i_hasImage : Int32} {i_isKeeping : Int32} {i_cursor : Int32} {a_far : Nat → Int32} {a_shut : Nat → Int32} {a_queue : Nat → Int32} {i_queued : Int32} {a_litBy : Nat → Int32} {a_may : Nat → Int32} {a_row : Nat → Int32} {i_rowMany : Int32} (C0 : lC p s m meth c b Ln xs D gb cI cL) (hR : Rel hx h0 gv M a_refused a_isWall a_kind a_lampCell a_range a_lit a_scenes a_who a_cell a_minuteOf a_standsAt i_lampMany i_people i_minute a_tape a_letter a_letterAt a_told i_taped i_at i_statements a_kept i_hasImage i_isKeeping i_cursor a_far a_shut a_queue i_queued a_litBy a_may a_row i_rowMany) (hG : GP D gb M (gW cI cL gv) H) (hS : va_S (gA gb) s.heap H locs) (hl : lv_has ls 4 [(0, .ref b), (1, .ref hx), (2, .ref h0), (3, .int x3)]) (hc1 : cells + 94 ≤ 600000) (hc2 : slots + 658 ≤ 7302250) (kk : (∀ (gv2 : Nat → GV) (M2 : Nat) (a_refused : Nat → Int32) (a_isWall : Nat → Int32) (a_kind : Nat → Int32) (a_lampCell : Nat → Int32) (a_range : Nat → Int32) (a_lit : Nat → Int32) (a_scenes : Nat → Int32) (a_who : Nat → Int32) (a_cell : Nat → Int32) (a_minuteOf : Nat → Int32) (a_standsAt : Nat → Int32) (i_lampMany : Int32) (i_people : Int32) (i_minute : Int32) (a_tape : Nat → Int32) (a_letter : Nat → Int32) (a_letterAt : Nat → Int32) (a_told : Nat → Int32) (i_taped : Int32) (i_at : Int32) (i_statements : Int32) (a_kept : Nat → Int32) (i_hasImage : Int32) (i_isKeeping : Int32) (i_cursor : Int32) (a_far : Nat → Int32) (a_shut : Nat → Int32) (a_queue : Nat → Int32) (i_queued : Int32) (a_litBy : Nat → Int32) (a_may : Nat → Int32) (a_row : Nat → Int32) (i_rowMany : Int32) (H : Heap) (locs : List Loc) (ls : Array Slot), Rel hx h0 gv2 M2 a_refused a_isWall a_kind a_lampCell a_range a_lit a_scenes a_who a_cell a_minuteOf a_standsAt i_lampMany i_people i_minute a_tape a_letter a_letterAt a_told i_taped i_at i_statements a_kept i_hasImage i_isKeeping i_cursor a_far a_shut a_queue i_queued a_litBy a_may a_row i_rowMany → GP D gb M2 (gW cI cL gv2) H → va_S (gA gb) s.heap H locs → lv_has ls 4 [(0, .ref b), (1, .ref hx), (2, .ref h0), (3, .int x3)] → W p l e room_1 s m #[Value.ref b] below meth c H locs (cells + 94) (slots + 658) (lw_Z below #[Value.ref b] s) (F0 m 1045 ls []))) : W p l e room_1 s m #[Value.ref b] below meth c H locs cells slots (lw_Z below #[Value.ref b] s) (F0 m 772 ls []) := by
  obtain ⟨hxx, hb, hr, hml, hown, hts0, hX, hbl, hbA, hlocks, hgb, hKn⟩ := C0
  have hK := hKn.1
  have hts : ∀ w ∈ wsL_law, w.before #[Value.ref b] s = true := fun w h => hts0 w (wsL_law_in w h)
  obtain ⟨r, gv', a_refused', a_far', a_shut', a_queue', i_queued', a_litBy', e1, e2, e3, e4⟩ := op_fewest hR
  obtain ⟨fx, hfx⟩ := hR.cell
  refine lv_aload_n hxx hb dL_law_772 rfl (lv_at hl 1 rfl) ?_
  refine gp_callI (va_runV (As := []) (rest := []) ⟨hxx, hb, hml, hown, hts⟩ (c_X11_fewest (l := l) (D := D) (b := gb) (cI := cI) (cL := cL) e1) (cwV 0 hts gL_law_X11_fewest rfl rfl rfl (by decide +kernel) ⟨Nat.le_of_ble_eq_true rfl, Nat.le_of_ble_eq_true rfl⟩) (gp_preV hKn hG (cp_obj hfx) rfl) rfl rfl hl.1 rfl (lv_room (Nat.le_of_ble_eq_true rfl)) dL_law_773 ⟨by show _ ≤ (600000 : Nat); omega, by show _ ≤ (7302250 : Nat); omega⟩) hS (fun H locs hG hS => ?_)
  rw [← e3, mgv_W] at hG
  refine lv_aload_n hxx hb dL_law_776 rfl (lv_at hl 2 rfl) ?_
  refine gp_callI (va_runV (As := []) (rest := [.int r]) ⟨hxx, hb, hml, hown, hts⟩ (c_X12_fewest (l := l) (D := D) (b := gb) (cI := cI) (cL := cL) e2) (cwV 0 hts gL_law_X12_fewest rfl rfl rfl (by decide +kernel) ⟨Nat.le_of_ble_eq_true rfl, Nat.le_of_ble_eq_true rfl⟩) (gp_preV hKn hG mg_o rfl) rfl rfl hl.1 rfl (lv_room (Nat.le_of_ble_eq_true rfl)) dL_law_777 ⟨by show _ ≤ (600000 : Nat); omega, by show _ ≤ (7302250 : Nat); omega⟩) hS (fun H locs hG hS => ?_)
  rw [← mgv_W] at hG
  refine lv_icmp_eq (tgt := 1045) hxx hb dL_law_780 (by decide) (fun _ => ?_) (fun c => absurd rfl c)
  exact W.widen (by omega) (by omega) (kk _ _ _ _ _ _ _ _ _ _ _ _ _ _ _ _ _ _ _ _ _ _ _ _ _ _ _ _ _ _ _ _ _ _ _ _ _ _ e4 hG hS hl)
set_option maxHeartbeats 4000000 in
set_option maxRecDepth 100000 in
theorem law_oneMore {p : Program} {l : Launch} {e : Env} {s : State} {m : MethodId} {below : List Frame} {meth : Method} {c : Code} {D : va_G} {gb : GB} {cI cL : ClassId} {b Ln : Nat} {xs : Nat → Int32} {hx h0 M : Nat} {gv : Nat → GV} {cells slots : Nat} {x3 : Int32} {H : Heap} {locs : List Loc} {ls : Array Slot} {a_refused : Nat → Int32} {a_isWall : Nat → Int32} {a_kind : Nat → Int32} {a_lampCell : Nat → Int32} {a_range : Nat → Int32} {a_lit : Nat → Int32} {a_scenes : Nat → Int32} {a_who : Nat → Int32} {a_cell : Nat → Int32} {a_minuteOf : Nat → Int32} {a_standsAt : Nat → Int32} {i_lampMany : Int32} {i_people : Int32} {i_minute : Int32} {a_tape : Nat → Int32} {a_letter : Nat → Int32} {a_letterAt : Nat → Int32} {a_told : Nat → Int32} {i_taped : Int32} {i_at : Int32} {i_statements : Int32} {a_kept : Nat → Int32} {i_hasImage : Int32} {i_isKeeping : Int32} {i_cursor : Int32} {a_far : Nat → Int32} {a_shut : Nat → Int32} {a_queue : Nat → Int32} {i_queued : Int32} {a_litBy : Nat → Int32} {a_may : Nat → Int32} {a_row : Nat → Int32} {i_rowMany : Int32} (C0 : lC p s m meth c b Ln xs D gb cI cL) (hR : Rel hx h0 gv M a_refused a_isWall a_kind a_lampCell a_range a_lit a_scenes a_who a_cell a_minuteOf a_standsAt i_lampMany i_people i_minute a_tape a_letter a_letterAt a_told i_taped i_at i_statements a_kept i_hasImage i_isKeeping i_cursor a_far a_shut a_queue i_queued a_litBy a_may a_row i_rowMany) (hG : GP D gb M (gW cI cL gv) H) (hS : va_S (gA gb) s.heap H locs) (hl : lv_has ls 4 [(0, .ref b), (1, .ref hx), (2, .ref h0), (3, .int x3)]) (h_1 : vp_in (x3 + 1) Ln) (h_2 : vp_in (x3 + 2) Ln) (hc1 : cells + 94 ≤ 600000) (hc2 : slots + 658 ≤ 7302250) (kk : (∀ (gv2 : Nat → GV) (M2 : Nat) (a_refused : Nat → Int32) (a_isWall : Nat → Int32) (a_kind : Nat → Int32) (a_lampCell : Nat → Int32) (a_range : Nat → Int32) (a_lit : Nat → Int32) (a_scenes : Nat → Int32) (a_who : Nat → Int32) (a_cell : Nat → Int32) (a_minuteOf : Nat → Int32) (a_standsAt : Nat → Int32) (i_lampMany : Int32) (i_people : Int32) (i_minute : Int32) (a_tape : Nat → Int32) (a_letter : Nat → Int32) (a_letterAt : Nat → Int32) (a_told : Nat → Int32) (i_taped : Int32) (i_at : Int32) (i_statements : Int32) (a_kept : Nat → Int32) (i_hasImage : Int32) (i_isKeeping : Int32) (i_cursor : Int32) (a_far : Nat → Int32) (a_shut : Nat → Int32) (a_queue : Nat → Int32) (i_queued : Int32) (a_litBy : Nat → Int32) (a_may : Nat → Int32) (a_row : Nat → Int32) (i_rowMany : Int32) (H : Heap) (locs : List Loc) (ls : Array Slot), Rel hx h0 gv2 M2 a_refused a_isWall a_kind a_lampCell a_range a_lit a_scenes a_who a_cell a_minuteOf a_standsAt i_lampMany i_people i_minute a_tape a_letter a_letterAt a_told i_taped i_at i_statements a_kept i_hasImage i_isKeeping i_cursor a_far a_shut a_queue i_queued a_litBy a_may a_row i_rowMany → GP D gb M2 (gW cI cL gv2) H → va_S (gA gb) s.heap H locs → lv_has ls 4 [(0, .ref b), (1, .ref hx), (2, .ref h0), (3, .int x3)] → W p l e room_1 s m #[Value.ref b] below meth c H locs (cells + 94) (slots + 658) (lw_Z below #[Value.ref b] s) (F0 m 1045 ls []))) : W p l e room_1 s m #[Value.ref b] below meth c H locs cells slots (lw_Z below #[Value.ref b] s) (F0 m 785 ls []) := by
  obtain ⟨hxx, hb, hr, hml, hown, hts0, hX, hbl, hbA, hlocks, hgb, hKn⟩ := C0
  have hK := hKn.1
  have hts : ∀ w ∈ wsL_law, w.before #[Value.ref b] s = true := fun w h => hts0 w (wsL_law_in w h)
  obtain ⟨r, gv', a_refused', a_far', a_shut', a_queue', i_queued', a_litBy', e1, e2, e3, e4⟩ := op_oneMore hR (xs (x3 + 1).toNatClampNeg) (xs (x3 + 2).toNatClampNeg)
  obtain ⟨fx, hfx⟩ := hR.cell
  refine lv_aload_n hxx hb dL_law_785 rfl (lv_at hl 1 rfl) ?_
  refine lv_aload_n hxx hb dL_law_786 rfl (lv_at hl 0 rfl) ?_
  refine lv_iload_n hxx hb dL_law_787 rfl (lv_at hl 3 rfl) ?_
  refine lv_iconst (v := 1) hxx hb dL_law_788 (by decide) ?_
  refine lv_iadd hxx hb dL_law_789 ?_
  refine va_sld hxx hb hX hbl hbA hS h_1 dL_law_790 ?_
  refine lv_aload_n hxx hb dL_law_791 rfl (lv_at hl 0 rfl) ?_
  refine lv_iload_n hxx hb dL_law_792 rfl (lv_at hl 3 rfl) ?_
  refine lv_iconst (v := 2) hxx hb dL_law_793 (by decide) ?_
  refine lv_iadd hxx hb dL_law_794 ?_
  refine va_sld hxx hb hX hbl hbA hS h_2 dL_law_795 ?_
  refine gp_callI (va_runV (As := [.int (xs (x3 + 1).toNatClampNeg), .int (xs (x3 + 2).toNatClampNeg)]) (rest := []) ⟨hxx, hb, hml, hown, hts⟩ (c_X11_oneMore (l := l) (D := D) (b := gb) (cI := cI) (cL := cL) e1) (cwV 2 hts gL_law_X11_oneMore rfl rfl rfl (by decide +kernel) ⟨Nat.le_of_ble_eq_true rfl, Nat.le_of_ble_eq_true rfl⟩) (gp_preV hKn hG (cp_obj hfx) rfl) rfl rfl hl.1 rfl (lv_room (Nat.le_of_ble_eq_true rfl)) dL_law_796 ⟨by show _ ≤ (600000 : Nat); omega, by show _ ≤ (7302250 : Nat); omega⟩) hS (fun H locs hG hS => ?_)
  rw [← e3, mgv_W] at hG
  refine lv_aload_n hxx hb dL_law_799 rfl (lv_at hl 2 rfl) ?_
  refine lv_aload_n hxx hb dL_law_800 rfl (lv_at hl 0 rfl) ?_
  refine lv_iload_n hxx hb dL_law_801 rfl (lv_at hl 3 rfl) ?_
  refine lv_iconst (v := 1) hxx hb dL_law_802 (by decide) ?_
  refine lv_iadd hxx hb dL_law_803 ?_
  refine va_sld hxx hb hX hbl hbA hS h_1 dL_law_804 ?_
  refine lv_aload_n hxx hb dL_law_805 rfl (lv_at hl 0 rfl) ?_
  refine lv_iload_n hxx hb dL_law_806 rfl (lv_at hl 3 rfl) ?_
  refine lv_iconst (v := 2) hxx hb dL_law_807 (by decide) ?_
  refine lv_iadd hxx hb dL_law_808 ?_
  refine va_sld hxx hb hX hbl hbA hS h_2 dL_law_809 ?_
  refine gp_callI (va_runV (As := [.int (xs (x3 + 1).toNatClampNeg), .int (xs (x3 + 2).toNatClampNeg)]) (rest := [.int r]) ⟨hxx, hb, hml, hown, hts⟩ (c_X12_oneMore (l := l) (D := D) (b := gb) (cI := cI) (cL := cL) e2) (cwV 2 hts gL_law_X12_oneMore rfl rfl rfl (by decide +kernel) ⟨Nat.le_of_ble_eq_true rfl, Nat.le_of_ble_eq_true rfl⟩) (gp_preV hKn hG mg_o rfl) rfl rfl hl.1 rfl (lv_room (Nat.le_of_ble_eq_true rfl)) dL_law_810 ⟨by show _ ≤ (600000 : Nat); omega, by show _ ≤ (7302250 : Nat); omega⟩) hS (fun H locs hG hS => ?_)
  rw [← mgv_W] at hG
  refine lv_icmp_eq (tgt := 1045) hxx hb dL_law_813 (by decide) (fun _ => ?_) (fun c => absurd rfl c)
  exact W.widen (by omega) (by omega) (kk _ _ _ _ _ _ _ _ _ _ _ _ _ _ _ _ _ _ _ _ _ _ _ _ _ _ _ _ _ _ _ _ _ _ _ _ _ _ e4 hG hS hl)
set_option maxHeartbeats 4000000 in
set_option maxRecDepth 100000 in
theorem law_two {p : Program} {l : Launch} {e : Env} {s : State} {m : MethodId} {below : List Frame} {meth : Method} {c : Code} {D : va_G} {gb : GB} {cI cL : ClassId} {b Ln : Nat} {xs : Nat → Int32} {hx h0 M : Nat} {gv : Nat → GV} {cells slots : Nat} {x3 : Int32} {H : Heap} {locs : List Loc} {ls : Array Slot} {a_refused : Nat → Int32} {a_isWall : Nat → Int32} {a_kind : Nat → Int32} {a_lampCell : Nat → Int32} {a_range : Nat → Int32} {a_lit : Nat → Int32} {a_scenes : Nat → Int32} {a_who : Nat → Int32} {a_cell : Nat → Int32} {a_minuteOf : Nat → Int32} {a_standsAt : Nat → Int32} {i_lampMany : Int32} {i_people : Int32} {i_minute : Int32} {a_tape : Nat → Int32} {a_letter : Nat → Int32} {a_letterAt : Nat → Int32} {a_told : Nat → Int32} {i_taped : Int32} {i_at : Int32} {i_statements : Int32} {a_kept : Nat → Int32} {i_hasImage : Int32} {i_isKeeping : Int32} {i_cursor : Int32} {a_far : Nat → Int32} {a_shut : Nat → Int32} {a_queue : Nat → Int32} {i_queued : Int32} {a_litBy : Nat → Int32} {a_may : Nat → Int32} {a_row : Nat → Int32} {i_rowMany : Int32} (C0 : lC p s m meth c b Ln xs D gb cI cL) (hR : Rel hx h0 gv M a_refused a_isWall a_kind a_lampCell a_range a_lit a_scenes a_who a_cell a_minuteOf a_standsAt i_lampMany i_people i_minute a_tape a_letter a_letterAt a_told i_taped i_at i_statements a_kept i_hasImage i_isKeeping i_cursor a_far a_shut a_queue i_queued a_litBy a_may a_row i_rowMany) (hG : GP D gb M (gW cI cL gv) H) (hS : va_S (gA gb) s.heap H locs) (hl : lv_has ls 4 [(0, .ref b), (1, .ref hx), (2, .ref h0), (3, .int x3)]) (h_1 : vp_in (x3 + 1) Ln) (h_2 : vp_in (x3 + 2) Ln) (hc1 : cells + 94 ≤ 600000) (hc2 : slots + 658 ≤ 7302250) (kk : (∀ (gv2 : Nat → GV) (M2 : Nat) (a_refused : Nat → Int32) (a_isWall : Nat → Int32) (a_kind : Nat → Int32) (a_lampCell : Nat → Int32) (a_range : Nat → Int32) (a_lit : Nat → Int32) (a_scenes : Nat → Int32) (a_who : Nat → Int32) (a_cell : Nat → Int32) (a_minuteOf : Nat → Int32) (a_standsAt : Nat → Int32) (i_lampMany : Int32) (i_people : Int32) (i_minute : Int32) (a_tape : Nat → Int32) (a_letter : Nat → Int32) (a_letterAt : Nat → Int32) (a_told : Nat → Int32) (i_taped : Int32) (i_at : Int32) (i_statements : Int32) (a_kept : Nat → Int32) (i_hasImage : Int32) (i_isKeeping : Int32) (i_cursor : Int32) (a_far : Nat → Int32) (a_shut : Nat → Int32) (a_queue : Nat → Int32) (i_queued : Int32) (a_litBy : Nat → Int32) (a_may : Nat → Int32) (a_row : Nat → Int32) (i_rowMany : Int32) (H : Heap) (locs : List Loc) (ls : Array Slot), Rel hx h0 gv2 M2 a_refused a_isWall a_kind a_lampCell a_range a_lit a_scenes a_who a_cell a_minuteOf a_standsAt i_lampMany i_people i_minute a_tape a_letter a_letterAt a_told i_taped i_at i_statements a_kept i_hasImage i_isKeeping i_cursor a_far a_shut a_queue i_queued a_litBy a_may a_row i_rowMany → GP D gb M2 (gW cI cL gv2) H → va_S (gA gb) s.heap H locs → lv_has ls 4 [(0, .ref b), (1, .ref hx), (2, .ref h0), (3, .int x3)] → W p l e room_1 s m #[Value.ref b] below meth c H locs (cells + 94) (slots + 658) (lw_Z below #[Value.ref b] s) (F0 m 1045 ls []))) : W p l e room_1 s m #[Value.ref b] below meth c H locs cells slots (lw_Z below #[Value.ref b] s) (F0 m 818 ls []) := by
  obtain ⟨hxx, hb, hr, hml, hown, hts0, hX, hbl, hbA, hlocks, hgb, hKn⟩ := C0
  have hK := hKn.1
  have hts : ∀ w ∈ wsL_law, w.before #[Value.ref b] s = true := fun w h => hts0 w (wsL_law_in w h)
  obtain ⟨r, gv', a_refused', e1, e2, e3, e4⟩ := op_two hR (xs (x3 + 1).toNatClampNeg) (xs (x3 + 2).toNatClampNeg)
  obtain ⟨fx, hfx⟩ := hR.cell
  refine lv_aload_n hxx hb dL_law_818 rfl (lv_at hl 1 rfl) ?_
  refine lv_aload_n hxx hb dL_law_819 rfl (lv_at hl 0 rfl) ?_
  refine lv_iload_n hxx hb dL_law_820 rfl (lv_at hl 3 rfl) ?_
  refine lv_iconst (v := 1) hxx hb dL_law_821 (by decide) ?_
  refine lv_iadd hxx hb dL_law_822 ?_
  refine va_sld hxx hb hX hbl hbA hS h_1 dL_law_823 ?_
  refine lv_aload_n hxx hb dL_law_824 rfl (lv_at hl 0 rfl) ?_
  refine lv_iload_n hxx hb dL_law_825 rfl (lv_at hl 3 rfl) ?_
  refine lv_iconst (v := 2) hxx hb dL_law_826 (by decide) ?_
  refine lv_iadd hxx hb dL_law_827 ?_
  refine va_sld hxx hb hX hbl hbA hS h_2 dL_law_828 ?_
  refine gp_callI (va_runV (As := [.int (xs (x3 + 1).toNatClampNeg), .int (xs (x3 + 2).toNatClampNeg)]) (rest := []) ⟨hxx, hb, hml, hown, hts⟩ (c_X11_two (l := l) (D := D) (b := gb) (cI := cI) (cL := cL) e1) (cwV 2 hts gL_law_X11_two rfl rfl rfl (by decide +kernel) ⟨Nat.le_of_ble_eq_true rfl, Nat.le_of_ble_eq_true rfl⟩) (gp_preV hKn hG (cp_obj hfx) rfl) rfl rfl hl.1 rfl (lv_room (Nat.le_of_ble_eq_true rfl)) dL_law_829 ⟨by show _ ≤ (600000 : Nat); omega, by show _ ≤ (7302250 : Nat); omega⟩) hS (fun H locs hG hS => ?_)
  rw [← e3, mgv_W] at hG
  refine lv_aload_n hxx hb dL_law_832 rfl (lv_at hl 2 rfl) ?_
  refine lv_aload_n hxx hb dL_law_833 rfl (lv_at hl 0 rfl) ?_
  refine lv_iload_n hxx hb dL_law_834 rfl (lv_at hl 3 rfl) ?_
  refine lv_iconst (v := 1) hxx hb dL_law_835 (by decide) ?_
  refine lv_iadd hxx hb dL_law_836 ?_
  refine va_sld hxx hb hX hbl hbA hS h_1 dL_law_837 ?_
  refine lv_aload_n hxx hb dL_law_838 rfl (lv_at hl 0 rfl) ?_
  refine lv_iload_n hxx hb dL_law_839 rfl (lv_at hl 3 rfl) ?_
  refine lv_iconst (v := 2) hxx hb dL_law_840 (by decide) ?_
  refine lv_iadd hxx hb dL_law_841 ?_
  refine va_sld hxx hb hX hbl hbA hS h_2 dL_law_842 ?_
  refine gp_callI (va_runV (As := [.int (xs (x3 + 1).toNatClampNeg), .int (xs (x3 + 2).toNatClampNeg)]) (rest := [.int r]) ⟨hxx, hb, hml, hown, hts⟩ (c_X12_two (l := l) (D := D) (b := gb) (cI := cI) (cL := cL) e2) (cwV 2 hts gL_law_X12_two rfl rfl rfl (by decide +kernel) ⟨Nat.le_of_ble_eq_true rfl, Nat.le_of_ble_eq_true rfl⟩) (gp_preV hKn hG mg_o rfl) rfl rfl hl.1 rfl (lv_room (Nat.le_of_ble_eq_true rfl)) dL_law_843 ⟨by show _ ≤ (600000 : Nat); omega, by show _ ≤ (7302250 : Nat); omega⟩) hS (fun H locs hG hS => ?_)
  rw [← mgv_W] at hG
  refine lv_icmp_eq (tgt := 1045) hxx hb dL_law_846 (by decide) (fun _ => ?_) (fun c => absurd rfl c)
  exact W.widen (by omega) (by omega) (kk _ _ _ _ _ _ _ _ _ _ _ _ _ _ _ _ _ _ _ _ _ _ _ _ _ _ _ _ _ _ _ _ _ _ _ _ _ _ e4 hG hS hl)
set_option maxHeartbeats 4000000 in
set_option maxRecDepth 100000 in
theorem law_swap {p : Program} {l : Launch} {e : Env} {s : State} {m : MethodId} {below : List Frame} {meth : Method} {c : Code} {D : va_G} {gb : GB} {cI cL : ClassId} {b Ln : Nat} {xs : Nat → Int32} {hx h0 M : Nat} {gv : Nat → GV} {cells slots : Nat} {x3 : Int32} {H : Heap} {locs : List Loc} {ls : Array Slot} {a_refused : Nat → Int32} {a_isWall : Nat → Int32} {a_kind : Nat → Int32} {a_lampCell : Nat → Int32} {a_range : Nat → Int32} {a_lit : Nat → Int32} {a_scenes : Nat → Int32} {a_who : Nat → Int32} {a_cell : Nat → Int32} {a_minuteOf : Nat → Int32} {a_standsAt : Nat → Int32} {i_lampMany : Int32} {i_people : Int32} {i_minute : Int32} {a_tape : Nat → Int32} {a_letter : Nat → Int32} {a_letterAt : Nat → Int32} {a_told : Nat → Int32} {i_taped : Int32} {i_at : Int32} {i_statements : Int32} {a_kept : Nat → Int32} {i_hasImage : Int32} {i_isKeeping : Int32} {i_cursor : Int32} {a_far : Nat → Int32} {a_shut : Nat → Int32} {a_queue : Nat → Int32} {i_queued : Int32} {a_litBy : Nat → Int32} {a_may : Nat → Int32} {a_row : Nat → Int32} {i_rowMany : Int32} (C0 : lC p s m meth c b Ln xs D gb cI cL) (hR : Rel hx h0 gv M a_refused a_isWall a_kind a_lampCell a_range a_lit a_scenes a_who a_cell a_minuteOf a_standsAt i_lampMany i_people i_minute a_tape a_letter a_letterAt a_told i_taped i_at i_statements a_kept i_hasImage i_isKeeping i_cursor a_far a_shut a_queue i_queued a_litBy a_may a_row i_rowMany) (hG : GP D gb M (gW cI cL gv) H) (hS : va_S (gA gb) s.heap H locs) (hl : lv_has ls 4 [(0, .ref b), (1, .ref hx), (2, .ref h0), (3, .int x3)]) (h_1 : vp_in (x3 + 1) Ln) (h_2 : vp_in (x3 + 2) Ln) (hc1 : cells + 94 ≤ 600000) (hc2 : slots + 658 ≤ 7302250) (kk : (∀ (gv2 : Nat → GV) (M2 : Nat) (a_refused : Nat → Int32) (a_isWall : Nat → Int32) (a_kind : Nat → Int32) (a_lampCell : Nat → Int32) (a_range : Nat → Int32) (a_lit : Nat → Int32) (a_scenes : Nat → Int32) (a_who : Nat → Int32) (a_cell : Nat → Int32) (a_minuteOf : Nat → Int32) (a_standsAt : Nat → Int32) (i_lampMany : Int32) (i_people : Int32) (i_minute : Int32) (a_tape : Nat → Int32) (a_letter : Nat → Int32) (a_letterAt : Nat → Int32) (a_told : Nat → Int32) (i_taped : Int32) (i_at : Int32) (i_statements : Int32) (a_kept : Nat → Int32) (i_hasImage : Int32) (i_isKeeping : Int32) (i_cursor : Int32) (a_far : Nat → Int32) (a_shut : Nat → Int32) (a_queue : Nat → Int32) (i_queued : Int32) (a_litBy : Nat → Int32) (a_may : Nat → Int32) (a_row : Nat → Int32) (i_rowMany : Int32) (H : Heap) (locs : List Loc) (ls : Array Slot), Rel hx h0 gv2 M2 a_refused a_isWall a_kind a_lampCell a_range a_lit a_scenes a_who a_cell a_minuteOf a_standsAt i_lampMany i_people i_minute a_tape a_letter a_letterAt a_told i_taped i_at i_statements a_kept i_hasImage i_isKeeping i_cursor a_far a_shut a_queue i_queued a_litBy a_may a_row i_rowMany → GP D gb M2 (gW cI cL gv2) H → va_S (gA gb) s.heap H locs → lv_has ls 4 [(0, .ref b), (1, .ref hx), (2, .ref h0), (3, .int x3)] → W p l e room_1 s m #[Value.ref b] below meth c H locs (cells + 94) (slots + 658) (lw_Z below #[Value.ref b] s) (F0 m 1045 ls []))) : W p l e room_1 s m #[Value.ref b] below meth c H locs cells slots (lw_Z below #[Value.ref b] s) (F0 m 851 ls []) := by
  obtain ⟨hxx, hb, hr, hml, hown, hts0, hX, hbl, hbA, hlocks, hgb, hKn⟩ := C0
  have hK := hKn.1
  have hts : ∀ w ∈ wsL_law, w.before #[Value.ref b] s = true := fun w h => hts0 w (wsL_law_in w h)
  obtain ⟨r, gv', a_refused', a_lampCell', a_far', a_shut', a_queue', i_queued', a_litBy', e1, e2, e3, e4⟩ := op_swap hR (xs (x3 + 1).toNatClampNeg) (xs (x3 + 2).toNatClampNeg)
  obtain ⟨fx, hfx⟩ := hR.cell
  refine lv_aload_n hxx hb dL_law_851 rfl (lv_at hl 1 rfl) ?_
  refine lv_aload_n hxx hb dL_law_852 rfl (lv_at hl 0 rfl) ?_
  refine lv_iload_n hxx hb dL_law_853 rfl (lv_at hl 3 rfl) ?_
  refine lv_iconst (v := 1) hxx hb dL_law_854 (by decide) ?_
  refine lv_iadd hxx hb dL_law_855 ?_
  refine va_sld hxx hb hX hbl hbA hS h_1 dL_law_856 ?_
  refine lv_aload_n hxx hb dL_law_857 rfl (lv_at hl 0 rfl) ?_
  refine lv_iload_n hxx hb dL_law_858 rfl (lv_at hl 3 rfl) ?_
  refine lv_iconst (v := 2) hxx hb dL_law_859 (by decide) ?_
  refine lv_iadd hxx hb dL_law_860 ?_
  refine va_sld hxx hb hX hbl hbA hS h_2 dL_law_861 ?_
  refine gp_callI (va_runV (As := [.int (xs (x3 + 1).toNatClampNeg), .int (xs (x3 + 2).toNatClampNeg)]) (rest := []) ⟨hxx, hb, hml, hown, hts⟩ (c_X11_swap (l := l) (D := D) (b := gb) (cI := cI) (cL := cL) e1) (cwV 2 hts gL_law_X11_swap rfl rfl rfl (by decide +kernel) ⟨Nat.le_of_ble_eq_true rfl, Nat.le_of_ble_eq_true rfl⟩) (gp_preV hKn hG (cp_obj hfx) rfl) rfl rfl hl.1 rfl (lv_room (Nat.le_of_ble_eq_true rfl)) dL_law_862 ⟨by show _ ≤ (600000 : Nat); omega, by show _ ≤ (7302250 : Nat); omega⟩) hS (fun H locs hG hS => ?_)
  rw [← e3, mgv_W] at hG
  refine lv_aload_n hxx hb dL_law_865 rfl (lv_at hl 2 rfl) ?_
  refine lv_aload_n hxx hb dL_law_866 rfl (lv_at hl 0 rfl) ?_
  refine lv_iload_n hxx hb dL_law_867 rfl (lv_at hl 3 rfl) ?_
  refine lv_iconst (v := 1) hxx hb dL_law_868 (by decide) ?_
  refine lv_iadd hxx hb dL_law_869 ?_
  refine va_sld hxx hb hX hbl hbA hS h_1 dL_law_870 ?_
  refine lv_aload_n hxx hb dL_law_871 rfl (lv_at hl 0 rfl) ?_
  refine lv_iload_n hxx hb dL_law_872 rfl (lv_at hl 3 rfl) ?_
  refine lv_iconst (v := 2) hxx hb dL_law_873 (by decide) ?_
  refine lv_iadd hxx hb dL_law_874 ?_
  refine va_sld hxx hb hX hbl hbA hS h_2 dL_law_875 ?_
  refine gp_callI (va_runV (As := [.int (xs (x3 + 1).toNatClampNeg), .int (xs (x3 + 2).toNatClampNeg)]) (rest := [.int r]) ⟨hxx, hb, hml, hown, hts⟩ (c_X12_swap (l := l) (D := D) (b := gb) (cI := cI) (cL := cL) e2) (cwV 2 hts gL_law_X12_swap rfl rfl rfl (by decide +kernel) ⟨Nat.le_of_ble_eq_true rfl, Nat.le_of_ble_eq_true rfl⟩) (gp_preV hKn hG mg_o rfl) rfl rfl hl.1 rfl (lv_room (Nat.le_of_ble_eq_true rfl)) dL_law_876 ⟨by show _ ≤ (600000 : Nat); omega, by show _ ≤ (7302250 : Nat); omega⟩) hS (fun H locs hG hS => ?_)
  rw [← mgv_W] at hG
  refine lv_icmp_eq (tgt := 1045) hxx hb dL_law_879 (by decide) (fun _ => ?_) (fun c => absurd rfl c)
  exact W.widen (by omega) (by omega) (kk _ _ _ _ _ _ _ _ _ _ _ _ _ _ _ _ _ _ _ _ _ _ _ _ _ _ _ _ _ _ _ _ _ _ _ _ _ _ e4 hG hS hl)
