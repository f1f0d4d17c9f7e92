/-! BOTH HEAPS AS ONE: the reference's cells lie at h0 .. h0 + 22 -/
def mgv (h0 : Nat) (a_refused : Nat → Int32) (a_isWall : Nat → Int32) (a_kind : Nat → Int32) (a_lampCell : Nat → Int32) (a_range : Nat → Int32) (a_lit : Nat → Int32) (a_scenes : Nat → Int32) (a_who : Nat → Int32) (a_cell : Nat → Int32) (a_minuteOf : Nat → Int32) (a_standsAt : Nat → Int32) (i_lampMany : Int32) (i_people : Int32) (i_minute : Int32) (a_tape : Nat → Int32) (a_letter : Nat → Int32) (a_letterAt : Nat → Int32) (a_told : Nat → Int32) (i_taped : Int32) (i_at : Int32) (i_statements : Int32) (a_kept : Nat → Int32) (i_hasImage : Int32) (i_isKeeping : Int32) (i_cursor : Int32) (a_far : Nat → Int32) (a_shut : Nat → Int32) (a_queue : Nat → Int32) (i_queued : Int32) (a_litBy : Nat → Int32) (a_may : Nat → Int32) (a_row : Nat → Int32) (i_rowMany : Int32) (gv : Nat → GV) : Nat → GV := fun q => if q = h0 then .inl (10, mf h0 i_lampMany i_people i_minute i_taped i_at i_statements i_hasImage i_isKeeping i_cursor i_queued i_rowMany) else if q = h0 + 1 then .inr (.inl (7, a_refused)) else if q = h0 + 2 then .inr (.inl (36, a_isWall)) else if q = h0 + 3 then .inr (.inl (6, a_kind)) else if q = h0 + 4 then .inr (.inl (6, a_lampCell)) else if q = h0 + 5 then .inr (.inl (6, a_range)) else if q = h0 + 6 then .inr (.inl (6, a_lit)) else if q = h0 + 7 then .inr (.inl (6, a_scenes)) else if q = h0 + 8 then .inr (.inl (54, a_who)) else if q = h0 + 9 then .inr (.inl (54, a_cell)) else if q = h0 + 10 then .inr (.inl (54, a_minuteOf)) else if q = h0 + 11 then .inr (.inl (4, a_standsAt)) else if q = h0 + 12 then .inr (.inl (96, a_tape)) else if q = h0 + 13 then .inr (.inl (48, a_letter)) else if q = h0 + 14 then .inr (.inl (48, a_letterAt)) else if q = h0 + 15 then .inr (.inl (144, a_told)) else if q = h0 + 16 then .inr (.inl (600, a_kept)) else if q = h0 + 17 then .inr (.inl (36, a_far)) else if q = h0 + 18 then .inr (.inl (36, a_shut)) else if q = h0 + 19 then .inr (.inl (36, a_queue)) else if q = h0 + 20 then .inr (.inl (36, a_litBy)) else if q = h0 + 21 then .inr (.inl (36, a_may)) else if q = h0 + 22 then .inr (.inl (12, a_row)) else gv q
theorem mgv_out {h0 q : Nat} {gv : Nat → GV} {a_refused : Nat → Int32} {a_isWall : Nat → Int32} {a_kind : Nat → Int32} {a_lampCell : Nat → Int32} {a_range : Nat → Int32} {a_lit : Nat → Int32} {a_scenes : Nat → Int32} {a_who : Nat → Int32} {a_cell : Nat → Int32} {a_minuteOf : Nat → Int32} {a_standsAt : Nat → Int32} {i_lampMany : Int32} {i_people : Int32} {i_minute : Int32} {a_tape : Nat → Int32} {a_letter : Nat → Int32} {a_letterAt : Nat → Int32} {a_told : Nat → Int32} {i_taped : Int32} {i_at : Int32} {i_statements : Int32} {a_kept : Nat → Int32} {i_hasImage : Int32} {i_isKeeping : Int32} {i_cursor : Int32} {a_far : Nat → Int32} {a_shut : Nat → Int32} {a_queue : Nat → Int32} {i_queued : Int32} {a_litBy : Nat → Int32} {a_may : Nat → Int32} {a_row : Nat → Int32} {i_rowMany : Int32} (h : ∀ i, i < 23 → q ≠ h0 + i) : mgv h0 a_refused a_isWall a_kind a_lampCell a_range a_lit a_scenes a_who a_cell a_minuteOf a_standsAt i_lampMany i_people i_minute a_tape a_letter a_letterAt a_told i_taped i_at i_statements a_kept i_hasImage i_isKeeping i_cursor a_far a_shut a_queue i_queued a_litBy a_may a_row i_rowMany gv q = gv q := by
  unfold mgv
  rw [if_neg (show ¬ q = h0 from h 0 (by decide)), if_neg (h 1 (by decide)), if_neg (h 2 (by decide)), if_neg (h 3 (by decide)), if_neg (h 4 (by decide)), if_neg (h 5 (by decide)), if_neg (h 6 (by decide)), if_neg (h 7 (by decide)), if_neg (h 8 (by decide)), if_neg (h 9 (by decide)), if_neg (h 10 (by decide)), if_neg (h 11 (by decide)), if_neg (h 12 (by decide)), if_neg (h 13 (by decide)), if_neg (h 14 (by decide)), if_neg (h 15 (by decide)), if_neg (h 16 (by decide)), if_neg (h 17 (by decide)), if_neg (h 18 (by decide)), if_neg (h 19 (by decide)), if_neg (h 20 (by decide)), if_neg (h 21 (by decide)), if_neg (h 22 (by decide))]
theorem mgv_in {h0 i : Nat} {gv gv2 : Nat → GV} {a_refused : Nat → Int32} {a_isWall : Nat → Int32} {a_kind : Nat → Int32} {a_lampCell : Nat → Int32} {a_range : Nat → Int32} {a_lit : Nat → Int32} {a_scenes : Nat → Int32} {a_who : Nat → Int32} {a_cell : Nat → Int32} {a_minuteOf : Nat → Int32} {a_standsAt : Nat → Int32} {i_lampMany : Int32} {i_people : Int32} {i_minute : Int32} {a_tape : Nat → Int32} {a_letter : Nat → Int32} {a_letterAt : Nat → Int32} {a_told : Nat → Int32} {i_taped : Int32} {i_at : Int32} {i_statements : Int32} {a_kept : Nat → Int32} {i_hasImage : Int32} {i_isKeeping : Int32} {i_cursor : Int32} {a_far : Nat → Int32} {a_shut : Nat → Int32} {a_queue : Nat → Int32} {i_queued : Int32} {a_litBy : Nat → Int32} {a_may : Nat → Int32} {a_row : Nat → Int32} {i_rowMany : Int32} (hi : i < 23) : mgv h0 a_refused a_isWall a_kind a_lampCell a_range a_lit a_scenes a_who a_cell a_minuteOf a_standsAt i_lampMany i_people i_minute a_tape a_letter a_letterAt a_told i_taped i_at i_statements a_kept i_hasImage i_isKeeping i_cursor a_far a_shut a_queue i_queued a_litBy a_may a_row i_rowMany gv (h0 + i) = mgv h0 a_refused a_isWall a_kind a_lampCell a_range a_lit a_scenes a_who a_cell a_minuteOf a_standsAt i_lampMany i_people i_minute a_tape a_letter a_letterAt a_told i_taped i_at i_statements a_kept i_hasImage i_isKeeping i_cursor a_far a_shut a_queue i_queued a_litBy a_may a_row i_rowMany gv2 (h0 + i) := by
  unfold mgv
  by_cases e : h0 + i = h0
  · rw [if_pos e, if_pos e]
  rw [if_neg e, if_neg e]
  by_cases e : h0 + i = h0 + 1
  · rw [if_pos e, if_pos e]
  rw [if_neg e, if_neg e]
  by_cases e : h0 + i = h0 + 2
  · rw [if_pos e, if_pos e]
  rw [if_neg e, if_neg e]
  by_cases e : h0 + i = h0 + 3
  · rw [if_pos e, if_pos e]
  rw [if_neg e, if_neg e]
  by_cases e : h0 + i = h0 + 4
  · rw [if_pos e, if_pos e]
  rw [if_neg e, if_neg e]
  by_cases e : h0 + i = h0 + 5
  · rw [if_pos e, if_pos e]
  rw [if_neg e, if_neg e]
  by_cases e : h0 + i = h0 + 6
  · rw [if_pos e, if_pos e]
  rw [if_neg e, if_neg e]
  by_cases e : h0 + i = h0 + 7
  · rw [if_pos e, if_pos e]
  rw [if_neg e, if_neg e]
  by_cases e : h0 + i = h0 + 8
  · rw [if_pos e, if_pos e]
  rw [if_neg e, if_neg e]
  by_cases e : h0 + i = h0 + 9
  · rw [if_pos e, if_pos e]
  rw [if_neg e, if_neg e]
  by_cases e : h0 + i = h0 + 10
  · rw [if_pos e, if_pos e]
  rw [if_neg e, if_neg e]
  by_cases e : h0 + i = h0 + 11
  · rw [if_pos e, if_pos e]
  rw [if_neg e, if_neg e]
  by_cases e : h0 + i = h0 + 12
  · rw [if_pos e, if_pos e]
  rw [if_neg e, if_neg e]
  by_cases e : h0 + i = h0 + 13
  · rw [if_pos e, if_pos e]
  rw [if_neg e, if_neg e]
  by_cases e : h0 + i = h0 + 14
  · rw [if_pos e, if_pos e]
  rw [if_neg e, if_neg e]
  by_cases e : h0 + i = h0 + 15
  · rw [if_pos e, if_pos e]
  rw [if_neg e, if_neg e]
  by_cases e : h0 + i = h0 + 16
  · rw [if_pos e, if_pos e]
  rw [if_neg e, if_neg e]
  by_cases e : h0 + i = h0 + 17
  · rw [if_pos e, if_pos e]
  rw [if_neg e, if_neg e]
  by_cases e : h0 + i = h0 + 18
  · rw [if_pos e, if_pos e]
  rw [if_neg e, if_neg e]
  by_cases e : h0 + i = h0 + 19
  · rw [if_pos e, if_pos e]
  rw [if_neg e, if_neg e]
  by_cases e : h0 + i = h0 + 20
  · rw [if_pos e, if_pos e]
  rw [if_neg e, if_neg e]
  by_cases e : h0 + i = h0 + 21
  · rw [if_pos e, if_pos e]
  rw [if_neg e, if_neg e]
  by_cases e : h0 + i = h0 + 22
  · rw [if_pos e, if_pos e]
  rw [if_neg e, if_neg e]
  omega
theorem mgv_keep {h0 : Nat} {gv gv2 : Nat → GV} {a_refused : Nat → Int32} {a_isWall : Nat → Int32} {a_kind : Nat → Int32} {a_lampCell : Nat → Int32} {a_range : Nat → Int32} {a_lit : Nat → Int32} {a_scenes : Nat → Int32} {a_who : Nat → Int32} {a_cell : Nat → Int32} {a_minuteOf : Nat → Int32} {a_standsAt : Nat → Int32} {i_lampMany : Int32} {i_people : Int32} {i_minute : Int32} {a_tape : Nat → Int32} {a_letter : Nat → Int32} {a_letterAt : Nat → Int32} {a_told : Nat → Int32} {i_taped : Int32} {i_at : Int32} {i_statements : Int32} {a_kept : Nat → Int32} {i_hasImage : Int32} {i_isKeeping : Int32} {i_cursor : Int32} {a_far : Nat → Int32} {a_shut : Nat → Int32} {a_queue : Nat → Int32} {i_queued : Int32} {a_litBy : Nat → Int32} {a_may : Nat → Int32} {a_row : Nat → Int32} {i_rowMany : Int32} (h : mgv h0 a_refused a_isWall a_kind a_lampCell a_range a_lit a_scenes a_who a_cell a_minuteOf a_standsAt i_lampMany i_people i_minute a_tape a_letter a_letterAt a_told i_taped i_at i_statements a_kept i_hasImage i_isKeeping i_cursor a_far a_shut a_queue i_queued a_litBy a_may a_row i_rowMany gv = gv) (e : ∀ i, i < 23 → gv2 (h0 + i) = gv (h0 + i)) : mgv h0 a_refused a_isWall a_kind a_lampCell a_range a_lit a_scenes a_who a_cell a_minuteOf a_standsAt i_lampMany i_people i_minute a_tape a_letter a_letterAt a_told i_taped i_at i_statements a_kept i_hasImage i_isKeeping i_cursor a_far a_shut a_queue i_queued a_litBy a_may a_row i_rowMany gv2 = gv2 := by
  funext q
  by_cases hq : ∃ i, i < 23 ∧ q = h0 + i
  · obtain ⟨i, hi, rfl⟩ := hq
    rw [mgv_in (gv2 := gv) hi, h, e i hi]
  · exact mgv_out (fun i hi e => hq ⟨i, hi, e⟩)
theorem mgv_mgv {h0 : Nat} {gv : Nat → GV} {a_refused : Nat → Int32} {a_isWall : Nat → Int32} {a_kind : Nat → Int32} {a_lampCell : Nat → Int32} {a_range : Nat → Int32} {a_lit : Nat → Int32} {a_scenes : Nat → Int32} {a_who : Nat → Int32} {a_cell : Nat → Int32} {a_minuteOf : Nat → Int32} {a_standsAt : Nat → Int32} {i_lampMany : Int32} {i_people : Int32} {i_minute : Int32} {a_tape : Nat → Int32} {a_letter : Nat → Int32} {a_letterAt : Nat → Int32} {a_told : Nat → Int32} {i_taped : Int32} {i_at : Int32} {i_statements : Int32} {a_kept : Nat → Int32} {i_hasImage : Int32} {i_isKeeping : Int32} {i_cursor : Int32} {a_far : Nat → Int32} {a_shut : Nat → Int32} {a_queue : Nat → Int32} {i_queued : Int32} {a_litBy : Nat → Int32} {a_may : Nat → Int32} {a_row : Nat → Int32} {i_rowMany : Int32} : mgv h0 a_refused a_isWall a_kind a_lampCell a_range a_lit a_scenes a_who a_cell a_minuteOf a_standsAt i_lampMany i_people i_minute a_tape a_letter a_letterAt a_told i_taped i_at i_statements a_kept i_hasImage i_isKeeping i_cursor a_far a_shut a_queue i_queued a_litBy a_may a_row i_rowMany (mgv h0 a_refused a_isWall a_kind a_lampCell a_range a_lit a_scenes a_who a_cell a_minuteOf a_standsAt i_lampMany i_people i_minute a_tape a_letter a_letterAt a_told i_taped i_at i_statements a_kept i_hasImage i_isKeeping i_cursor a_far a_shut a_queue i_queued a_litBy a_may a_row i_rowMany gv) = mgv h0 a_refused a_isWall a_kind a_lampCell a_range a_lit a_scenes a_who a_cell a_minuteOf a_standsAt i_lampMany i_people i_minute a_tape a_letter a_letterAt a_told i_taped i_at i_statements a_kept i_hasImage i_isKeeping i_cursor a_far a_shut a_queue i_queued a_litBy a_may a_row i_rowMany gv := by
  funext q
  by_cases hq : ∃ i, i < 23 ∧ q = h0 + i
  · obtain ⟨i, hi, rfl⟩ := hq
    exact mgv_in hi
  · exact mgv_out (fun i hi e => hq ⟨i, hi, e⟩)
theorem CX.frameX {gv g : Nat → GV} {M hx : Nat} {ow : Nat → Nat} {S : SS} (h : CX gv M hx ow S) (hT : SOK S) (e : ∀ q, ow q < 200 → g q = gv q) : CX g M hx ow S := by
  obtain ⟨lt, tx, ro, rf, tk, he, sp, th, ts, tf, rof, rff, ⟨c1, c2, c3, c4, c5, ⟨o1, o2, o3, o4, o5⟩, c6, c7, c8⟩, hW, hM⟩ := h
  exact ⟨lt, tx, ro, rf, tk, he, sp, th, ts, tf, rof, rff, ⟨(e hx (by omega)).trans c1, (e lt (by omega)).trans c2, (e tx (by omega)).trans c3, (e ro (by omega)).trans c4, (e rf (by omega)).trans c5, ⟨o1, o2, o3, o4, o5⟩, c6, c7, c8⟩, hW.frame hT rfl rfl rfl (fun q q1 q2 => ⟨e q (by omega), rfl⟩), hM⟩
/-- the two heaps' relation between two calls -/
def Rel (hx h0 : Nat) (gv : Nat → GV) (M : Nat) (a_refused : Nat → Int32) (a_isWall : Nat → Int32) (a_kind : Nat → Int32) (a_lampCell : Nat → Int32) (a_range : Nat → Int32) (a_lit : Nat → Int32) (a_scenes : Nat → Int32) (a_who : Nat → Int32) (a_cell : Nat → Int32) (a_minuteOf : Nat → Int32) (a_standsAt : Nat → Int32) (i_lampMany : Int32) (i_people : Int32) (i_minute : Int32) (a_tape : Nat → Int32) (a_letter : Nat → Int32) (a_letterAt : Nat → Int32) (a_told : Nat → Int32) (i_taped : Int32) (i_at : Int32) (i_statements : Int32) (a_kept : Nat → Int32) (i_hasImage : Int32) (i_isKeeping : Int32) (i_cursor : Int32) (a_far : Nat → Int32) (a_shut : Nat → Int32) (a_queue : Nat → Int32) (i_queued : Int32) (a_litBy : Nat → Int32) (a_may : Nat → Int32) (a_row : Nat → Int32) (i_rowMany : Int32) : Prop := ∃ S ow, SOK S ∧ CX gv M hx ow S ∧ (∀ i, i < 23 → ow (h0 + i) = 200 + i) ∧ XR S a_refused a_isWall a_kind a_lampCell a_range a_lit a_scenes a_who a_cell a_minuteOf a_standsAt a_tape a_kept a_row i_lampMany i_people i_minute i_taped i_hasImage i_rowMany ∧ mgv h0 a_refused a_isWall a_kind a_lampCell a_range a_lit a_scenes a_who a_cell a_minuteOf a_standsAt i_lampMany i_people i_minute a_tape a_letter a_letterAt a_told i_taped i_at i_statements a_kept i_hasImage i_isKeeping i_cursor a_far a_shut a_queue i_queued a_litBy a_may a_row i_rowMany gv = gv
theorem Rel.cell {hx h0 M : Nat} {gv : Nat → GV} {a_refused : Nat → Int32} {a_isWall : Nat → Int32} {a_kind : Nat → Int32} {a_lampCell : Nat → Int32} {a_range : Nat → Int32} {a_lit : Nat → Int32} {a_scenes : Nat → Int32} {a_who : Nat → Int32} {a_cell : Nat → Int32} {a_minuteOf : Nat → Int32} {a_standsAt : Nat → Int32} {i_lampMany : Int32} {i_people : Int32} {i_minute : Int32} {a_tape : Nat → Int32} {a_letter : Nat → Int32} {a_letterAt : Nat → Int32} {a_told : Nat → Int32} {i_taped : Int32} {i_at : Int32} {i_statements : Int32} {a_kept : Nat → Int32} {i_hasImage : Int32} {i_isKeeping : Int32} {i_cursor : Int32} {a_far : Nat → Int32} {a_shut : Nat → Int32} {a_queue : Nat → Int32} {i_queued : Int32} {a_litBy : Nat → Int32} {a_may : Nat → Int32} {a_row : Nat → Int32} {i_rowMany : Int32} (h : Rel hx h0 gv M a_refused a_isWall a_kind a_lampCell a_range a_lit a_scenes a_who a_cell a_minuteOf a_standsAt i_lampMany i_people i_minute a_tape a_letter a_letterAt a_told i_taped i_at i_statements a_kept i_hasImage i_isKeeping i_cursor a_far a_shut a_queue i_queued a_litBy a_may a_row i_rowMany) : ∃ fx, gv hx = .inl (9, fx) := by
  obtain ⟨S, ow, -, ⟨lt, tx, ro, rf, tk, he, sp, th, ts, tf, rof, rff, ⟨c1, -⟩, -⟩, -⟩ := h
  exact ⟨_, c1⟩
theorem Rel.new {hx h0 M' : Nat} {gv gv' : Nat → GV} {ow ow' : Nat → Nat} {S' : SS} {a_refused : Nat → Int32} {a_isWall : Nat → Int32} {a_kind : Nat → Int32} {a_lampCell : Nat → Int32} {a_range : Nat → Int32} {a_lit : Nat → Int32} {a_scenes : Nat → Int32} {a_who : Nat → Int32} {a_cell : Nat → Int32} {a_minuteOf : Nat → Int32} {a_standsAt : Nat → Int32} {i_lampMany : Int32} {i_people : Int32} {i_minute : Int32} {a_tape : Nat → Int32} {a_letter : Nat → Int32} {a_letterAt : Nat → Int32} {a_told : Nat → Int32} {i_taped : Int32} {i_at : Int32} {i_statements : Int32} {a_kept : Nat → Int32} {i_hasImage : Int32} {i_isKeeping : Int32} {i_cursor : Int32} {a_far : Nat → Int32} {a_shut : Nat → Int32} {a_queue : Nat → Int32} {i_queued : Int32} {a_litBy : Nat → Int32} {a_may : Nat → Int32} {a_row : Nat → Int32} {i_rowMany : Int32} (hS : SOK S') (hC : CX gv' M' hx ow' S') (hK : Keep gv gv' ow ow') (hO : ∀ i, i < 23 → ow (h0 + i) = 200 + i) (hX : XR S' a_refused a_isWall a_kind a_lampCell a_range a_lit a_scenes a_who a_cell a_minuteOf a_standsAt a_tape a_kept a_row i_lampMany i_people i_minute i_taped i_hasImage i_rowMany) : Rel hx h0 (mgv h0 a_refused a_isWall a_kind a_lampCell a_range a_lit a_scenes a_who a_cell a_minuteOf a_standsAt i_lampMany i_people i_minute a_tape a_letter a_letterAt a_told i_taped i_at i_statements a_kept i_hasImage i_isKeeping i_cursor a_far a_shut a_queue i_queued a_litBy a_may a_row i_rowMany gv') M' a_refused a_isWall a_kind a_lampCell a_range a_lit a_scenes a_who a_cell a_minuteOf a_standsAt i_lampMany i_people i_minute a_tape a_letter a_letterAt a_told i_taped i_at i_statements a_kept i_hasImage i_isKeeping i_cursor a_far a_shut a_queue i_queued a_litBy a_may a_row i_rowMany := by
  have hO' : ∀ i, i < 23 → ow' (h0 + i) = 200 + i := fun i hi => (hK (h0 + i) (by rw [hO i hi]; omega)).2.trans (hO i hi)
  exact ⟨S', ow', hS, hC.frameX hS (fun q hq => mgv_out (fun i hi e => by rw [e, hO' i hi] at hq; omega)), hO', hX, mgv_mgv⟩
theorem Rel.old {h0 : Nat} {gv gv' : Nat → GV} {ow ow' : Nat → Nat} {a_refused : Nat → Int32} {a_isWall : Nat → Int32} {a_kind : Nat → Int32} {a_lampCell : Nat → Int32} {a_range : Nat → Int32} {a_lit : Nat → Int32} {a_scenes : Nat → Int32} {a_who : Nat → Int32} {a_cell : Nat → Int32} {a_minuteOf : Nat → Int32} {a_standsAt : Nat → Int32} {i_lampMany : Int32} {i_people : Int32} {i_minute : Int32} {a_tape : Nat → Int32} {a_letter : Nat → Int32} {a_letterAt : Nat → Int32} {a_told : Nat → Int32} {i_taped : Int32} {i_at : Int32} {i_statements : Int32} {a_kept : Nat → Int32} {i_hasImage : Int32} {i_isKeeping : Int32} {i_cursor : Int32} {a_far : Nat → Int32} {a_shut : Nat → Int32} {a_queue : Nat → Int32} {i_queued : Int32} {a_litBy : Nat → Int32} {a_may : Nat → Int32} {a_row : Nat → Int32} {i_rowMany : Int32} (hm : mgv h0 a_refused a_isWall a_kind a_lampCell a_range a_lit a_scenes a_who a_cell a_minuteOf a_standsAt i_lampMany i_people i_minute a_tape a_letter a_letterAt a_told i_taped i_at i_statements a_kept i_hasImage i_isKeeping i_cursor a_far a_shut a_queue i_queued a_litBy a_may a_row i_rowMany gv = gv) (hK : Keep gv gv' ow ow') (hO : ∀ i, i < 23 → ow (h0 + i) = 200 + i) : mgv h0 a_refused a_isWall a_kind a_lampCell a_range a_lit a_scenes a_who a_cell a_minuteOf a_standsAt i_lampMany i_people i_minute a_tape a_letter a_letterAt a_told i_taped i_at i_statements a_kept i_hasImage i_isKeeping i_cursor a_far a_shut a_queue i_queued a_litBy a_may a_row i_rowMany gv' = gv' := mgv_keep hm (fun i hi => (hK (h0 + i) (by rw [hO i hi]; omega)).1)
