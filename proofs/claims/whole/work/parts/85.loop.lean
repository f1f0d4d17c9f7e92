set_option maxHeartbeats 8000000 in
set_option maxRecDepth 100000 in
theorem law_loop {p : Program} {l : Launch} {e : Env} {s : State} {m : MethodId} {below : List Frame} {meth : Method} {c : Code} {D : va_G} {gb : GB} {cI cL : ClassId} {b Ln : Nat} {xs : Nat → Int32} {hx h0 : Nat} (hL : Ln ≤ 2048) (C0 : lC p s m meth c b Ln xs D gb cI cL) : ∀ (n i : Nat) (x3 : Int32) (M : Nat) (gv : Nat → GV) (a_refused : Nat → Int32) (a_isWall : Nat → Int32) (a_kind : Nat → Int32) (a_lampCell : Nat → Int32) (a_range : Nat → Int32) (a_lit : Nat → Int32) (a_scenes : Nat → Int32) (a_who : Nat → Int32) (a_cell : Nat → Int32) (a_minuteOf : Nat → Int32) (a_standsAt : Nat → Int32) (i_lampMany : Int32) (i_people : Int32) (i_minute : Int32) (a_tape : Nat → Int32) (a_letter : Nat → Int32) (a_letterAt : Nat → Int32) (a_told : Nat → Int32) (i_taped : Int32) (i_at : Int32) (i_statements : Int32) (a_kept : Nat → Int32) (i_hasImage : Int32) (i_isKeeping : Int32) (i_cursor : Int32) (a_far : Nat → Int32) (a_shut : Nat → Int32) (a_queue : Nat → Int32) (i_queued : Int32) (a_litBy : Nat → Int32) (a_may : Nat → Int32) (a_row : Nat → Int32) (i_rowMany : Int32) (cells slots : Nat) (H : Heap) (locs : List Loc) (ls : Array Slot), i ≤ 4096 → Ln ≤ i + 4 * n → x3 = nI i → cells + 94 * n ≤ 600000 → slots + 658 * n ≤ 7302250 → Rel hx h0 gv M a_refused a_isWall a_kind a_lampCell a_range a_lit a_scenes a_who a_cell a_minuteOf a_standsAt i_lampMany i_people i_minute a_tape a_letter a_letterAt a_told i_taped i_at i_statements a_kept i_hasImage i_isKeeping i_cursor a_far a_shut a_queue i_queued a_litBy a_may a_row i_rowMany → GP D gb M (gW cI cL gv) H → va_S (gA gb) s.heap H locs → lv_has ls 4 [(0, .ref b), (1, .ref hx), (2, .ref h0), (3, .int x3)] → W p l e room_1 s m #[Value.ref b] below meth c H locs cells slots (lw_Z below #[Value.ref b] s) (F0 m 18 ls []) := by
  obtain ⟨hxx, hb, hr, hml, hown, hts0, hX, hbl, hbA, hlocks, hgb, hKn⟩ := id C0
  intro n
  induction n with
  | zero =>
    intro i x3 M gv a_refused a_isWall a_kind a_lampCell a_range a_lit a_scenes a_who a_cell a_minuteOf a_standsAt i_lampMany i_people i_minute a_tape a_letter a_letterAt a_told i_taped i_at i_statements a_kept i_hasImage i_isKeeping i_cursor a_far a_shut a_queue i_queued a_litBy a_may a_row i_rowMany cells slots H locs ls hi hin ex3 hc1 hc2 hR hG hS hl
    refine lv_iload_n hxx hb dL_law_18 rfl (lv_at hl 3 rfl) ?_
    refine lv_aload_n hxx hb dL_law_19 rfl (lv_at hl 0 rfl) ?_
    refine va_slen hxx hb hX hbl hbA hS dL_law_20 ?_
    refine lv_iconst (v := 4) hxx hb dL_law_21 (by decide) ?_
    refine lv_isub hxx hb dL_law_22 ?_
    have hlen : (Int32.ofNat Ln - 4).toInt = (Ln : Int) - 4 := pk_sub_toInt (a := Ln) (b := 4) (by omega) (by decide)
    have hxi : x3.toInt = (i : Int) := by rw [ex3]; exact nI_toInt (by omega)
    refine lv_icmp_gt (tgt := 1051) hxx hb dL_law_23 (by decide) (fun c23 => ?_) (fun c23 => ?_)
    · refine lv_iconst (v := 1) hxx hb dL_law_1051 (by decide) ?_
      refine va_forget (fun q hq => by rw [← hgb]; exact hS.2.2 q hq) ?_
      refine W.widen (k := 600000) (n := 7302250) (by omega) (by omega) ?_
      exact lw_ret hxx hb hr hlocks dL_law_1052
    · rw [Int32.lt_iff_toInt_lt, hlen, hxi] at c23
      omega
  | succ n ih =>
    intro i x3 M gv a_refused a_isWall a_kind a_lampCell a_range a_lit a_scenes a_who a_cell a_minuteOf a_standsAt i_lampMany i_people i_minute a_tape a_letter a_letterAt a_told i_taped i_at i_statements a_kept i_hasImage i_isKeeping i_cursor a_far a_shut a_queue i_queued a_litBy a_may a_row i_rowMany cells slots H locs ls hi hin ex3 hc1 hc2 hR hG hS hl
    refine lv_iload_n hxx hb dL_law_18 rfl (lv_at hl 3 rfl) ?_
    refine lv_aload_n hxx hb dL_law_19 rfl (lv_at hl 0 rfl) ?_
    refine va_slen hxx hb hX hbl hbA hS dL_law_20 ?_
    refine lv_iconst (v := 4) hxx hb dL_law_21 (by decide) ?_
    refine lv_isub hxx hb dL_law_22 ?_
    have hlen : (Int32.ofNat Ln - 4).toInt = (Ln : Int) - 4 := pk_sub_toInt (a := Ln) (b := 4) (by omega) (by decide)
    have hxi : x3.toInt = (i : Int) := by rw [ex3]; exact nI_toInt (by omega)
    refine lv_icmp_gt (tgt := 1051) hxx hb dL_law_23 (by decide) (fun c23 => ?_) (fun c23 => ?_)
    · refine lv_iconst (v := 1) hxx hb dL_law_1051 (by decide) ?_
      refine va_forget (fun q hq => by rw [← hgb]; exact hS.2.2 q hq) ?_
      refine W.widen (k := 600000) (n := 7302250) (by omega) (by omega) ?_
      exact lw_ret hxx hb hr hlocks dL_law_1052
    · rw [Int32.lt_iff_toInt_lt, hlen, hxi] at c23
      have hbd : i + 4 ≤ Ln := by omega
      have hix : ∀ j : Nat, j < 4 → vp_in (x3 + nI j) Ln := fun j hj => by rw [ex3, nI_add]; exact vp_in_nI (by omega) (by omega)
      have h_0 : vp_in x3 Ln := by rw [ex3]; exact vp_in_nI (by omega) (by omega)
      refine lv_aload_n hxx hb dL_law_26 rfl (lv_at hl 0 rfl) ?_
      refine lv_iload_n hxx hb dL_law_27 rfl (lv_at hl 3 rfl) ?_
      refine va_sld hxx hb hX hbl hbA hS h_0 dL_law_28 ?_
      refine lv_bipush (v := 31) hxx hb dL_law_29 (by decide) ?_
      refine lv_iand hxx hb dL_law_31 ?_
      obtain ⟨j, hj, ej⟩ := pk_andE (xs x3.toNatClampNeg) (m := 31) 5 (by decide)
      rw [ej]
      have kend : ∀ (gv2 : Nat → GV) (M2 : Nat) (a_refused : Nat → Int32) (a_isWall : Nat → Int32) (a_kind : Nat → Int32) (a_lampCell : Nat → Int32) (a_range : Nat → Int32) (a_lit : Nat → Int32) (a_scenes : Nat → Int32) (a_who : Nat → Int32) (a_cell : Nat → Int32) (a_minuteOf : Nat → Int32) (a_standsAt : Nat → Int32) (i_lampMany : Int32) (i_people : Int32) (i_minute : Int32) (a_tape : Nat → Int32) (a_letter : Nat → Int32) (a_letterAt : Nat → Int32) (a_told : Nat → Int32) (i_taped : Int32) (i_at : Int32) (i_statements : Int32) (a_kept : Nat → Int32) (i_hasImage : Int32) (i_isKeeping : Int32) (i_cursor : Int32) (a_far : Nat → Int32) (a_shut : Nat → Int32) (a_queue : Nat → Int32) (i_queued : Int32) (a_litBy : Nat → Int32) (a_may : Nat → Int32) (a_row : Nat → Int32) (i_rowMany : Int32) (H : Heap) (locs : List Loc) (ls : Array Slot), Rel hx h0 gv2 M2 a_refused a_isWall a_kind a_lampCell a_range a_lit a_scenes a_who a_cell a_minuteOf a_standsAt i_lampMany i_people i_minute a_tape a_letter a_letterAt a_told i_taped i_at i_statements a_kept i_hasImage i_isKeeping i_cursor a_far a_shut a_queue i_queued a_litBy a_may a_row i_rowMany → GP D gb M2 (gW cI cL gv2) H → va_S (gA gb) s.heap H locs → lv_has ls 4 [(0, .ref b), (1, .ref hx), (2, .ref h0), (3, .int x3)] → W p l e room_1 s m #[Value.ref b] below meth c H locs (cells + 94) (slots + 658) (lw_Z below #[Value.ref b] s) (F0 m 1045 ls []) := by
        intro gv2 M2 a_refused a_isWall a_kind a_lampCell a_range a_lit a_scenes a_who a_cell a_minuteOf a_standsAt i_lampMany i_people i_minute a_tape a_letter a_letterAt a_told i_taped i_at i_statements a_kept i_hasImage i_isKeeping i_cursor a_far a_shut a_queue i_queued a_litBy a_may a_row i_rowMany H locs ls hR hG hS hl
        refine lv_iinc (v := x3 + 4) (lv' := [(3, .int (x3 + 4)), (0, .ref b), (1, .ref hx), (2, .ref h0)]) hxx hb dL_law_1045 hl (k := 3) rfl rfl (by decide) rfl (fun ls hl => ?_)
        refine lv_goto (tgt := 18) hxx hb dL_law_1048 (by decide) ?_
        exact ih (i + 4) (x3 + 4) M2 gv2 a_refused a_isWall a_kind a_lampCell a_range a_lit a_scenes a_who a_cell a_minuteOf a_standsAt i_lampMany i_people i_minute a_tape a_letter a_letterAt a_told i_taped i_at i_statements a_kept i_hasImage i_isKeeping i_cursor a_far a_shut a_queue i_queued a_litBy a_may a_row i_rowMany _ _ _ _ _ (by omega) (by omega) (by rw [ex3]; exact nI_add i 4) (by omega) (by omega) hR hG hS (lv_sub hl [1, 2, 3, 0] rfl)
      match j, hj with
      | 0, _ =>
        refine lv_tableIn (tgt := 172) (off := 140) hxx hb dL_law_32 (by decide) (by decide) rfl (by decide) ?_
        exact law_letter C0 hR hG hS hl (hix 1 (by decide)) (by omega) (by omega) kend
      | 1, _ =>
        refine lv_tableIn (tgt := 195) (off := 163) hxx hb dL_law_32 (by decide) (by decide) rfl (by decide) ?_
        exact law_town C0 hR hG hS hl (by omega) (by omega) kend
      | 2, _ =>
        refine lv_tableIn (tgt := 208) (off := 176) hxx hb dL_law_32 (by decide) (by decide) rfl (by decide) ?_
        exact law_lamp C0 hR hG hS hl (hix 1 (by decide)) (hix 2 (by decide)) (by omega) (by omega) kend
      | 3, _ =>
        refine lv_tableIn (tgt := 241) (off := 209) hxx hb dL_law_32 (by decide) (by decide) rfl (by decide) ?_
        exact law_wall C0 hR hG hS hl (hix 1 (by decide)) (by omega) (by omega) kend
      | 4, _ =>
        refine lv_tableIn (tgt := 264) (off := 232) hxx hb dL_law_32 (by decide) (by decide) rfl (by decide) ?_
        exact law_person C0 hR hG hS hl (hix 1 (by decide)) (by omega) (by omega) kend
      | 5, _ =>
        refine lv_tableIn (tgt := 287) (off := 255) hxx hb dL_law_32 (by decide) (by decide) rfl (by decide) ?_
        exact law_where C0 hR hG hS hl (hix 1 (by decide)) (by omega) (by omega) kend
      | 6, _ =>
        refine lv_tableIn (tgt := 310) (off := 278) hxx hb dL_law_32 (by decide) (by decide) rfl (by decide) ?_
        exact law_go C0 hR hG hS hl (hix 1 (by decide)) (hix 2 (by decide)) (by omega) (by omega) kend
      | 7, _ =>
        refine lv_tableIn (tgt := 343) (off := 311) hxx hb dL_law_32 (by decide) (by decide) rfl (by decide) ?_
        exact law_light C0 hR hG hS hl (hix 1 (by decide)) (hix 2 (by decide)) (by omega) (by omega) kend
      | 8, _ =>
        refine lv_tableIn (tgt := 376) (off := 344) hxx hb dL_law_32 (by decide) (by decide) rfl (by decide) ?_
        exact law_steps C0 hR hG hS hl (hix 1 (by decide)) (hix 2 (by decide)) (by omega) (by omega) kend
      | 9, _ =>
        refine lv_tableIn (tgt := 409) (off := 377) hxx hb dL_law_32 (by decide) (by decide) rfl (by decide) ?_
        exact law_lights C0 hR hG hS hl (hix 1 (by decide)) (hix 2 (by decide)) (by omega) (by omega) kend
      | 10, _ =>
        refine lv_tableIn (tgt := 442) (off := 410) hxx hb dL_law_32 (by decide) (by decide) rfl (by decide) ?_
        exact law_shown C0 hR hG hS hl (hix 1 (by decide)) (hix 2 (by decide)) (hix 3 (by decide)) (by omega) (by omega) kend
      | 11, _ =>
        refine lv_tableIn (tgt := 485) (off := 453) hxx hb dL_law_32 (by decide) (by decide) rfl (by decide) ?_
        exact law_seen C0 hR hG hS hl (hix 1 (by decide)) (by omega) (by omega) kend
      | 12, _ =>
        refine lv_tableIn (tgt := 508) (off := 476) hxx hb dL_law_32 (by decide) (by decide) rfl (by decide) ?_
        exact law_by C0 hR hG hS hl (hix 1 (by decide)) (hix 2 (by decide)) (by omega) (by omega) kend
      | 13, _ =>
        refine lv_tableIn (tgt := 541) (off := 509) hxx hb dL_law_32 (by decide) (by decide) rfl (by decide) ?_
        exact law_unlit C0 hR hG hS hl (hix 1 (by decide)) (hix 2 (by decide)) (hix 3 (by decide)) (by omega) (by omega) kend
      | 14, _ =>
        refine lv_tableIn (tgt := 584) (off := 552) hxx hb dL_law_32 (by decide) (by decide) rfl (by decide) ?_
        exact law_forget C0 hR hG hS hl (hix 1 (by decide)) (hix 2 (by decide)) (by omega) (by omega) kend
      | 15, _ =>
        refine lv_tableIn (tgt := 617) (off := 585) hxx hb dL_law_32 (by decide) (by decide) rfl (by decide) ?_
        exact law_knows C0 hR hG hS hl (hix 1 (by decide)) (hix 2 (by decide)) (hix 3 (by decide)) (by omega) (by omega) kend
      | 16, _ =>
        refine lv_tableIn (tgt := 660) (off := 628) hxx hb dL_law_32 (by decide) (by decide) rfl (by decide) ?_
        exact law_known C0 hR hG hS hl (hix 1 (by decide)) (by omega) (by omega) kend
      | 17, _ =>
        refine lv_tableIn (tgt := 683) (off := 651) hxx hb dL_law_32 (by decide) (by decide) rfl (by decide) ?_
        exact law_allKnow C0 hR hG hS hl (by omega) (by omega) kend
      | 18, _ =>
        refine lv_tableIn (tgt := 696) (off := 664) hxx hb dL_law_32 (by decide) (by decide) rfl (by decide) ?_
        exact law_whereAt C0 hR hG hS hl (hix 1 (by decide)) (hix 2 (by decide)) (hix 3 (by decide)) (by omega) (by omega) kend
      | 19, _ =>
        refine lv_tableIn (tgt := 739) (off := 707) hxx hb dL_law_32 (by decide) (by decide) rfl (by decide) ?_
        exact law_next C0 hR hG hS hl (hix 1 (by decide)) (hix 2 (by decide)) (by omega) (by omega) kend
      | 20, _ =>
        refine lv_tableIn (tgt := 772) (off := 740) hxx hb dL_law_32 (by decide) (by decide) rfl (by decide) ?_
        exact law_fewest C0 hR hG hS hl (by omega) (by omega) kend
      | 21, _ =>
        refine lv_tableIn (tgt := 785) (off := 753) hxx hb dL_law_32 (by decide) (by decide) rfl (by decide) ?_
        exact law_oneMore C0 hR hG hS hl (hix 1 (by decide)) (hix 2 (by decide)) (by omega) (by omega) kend
      | 22, _ =>
        refine lv_tableIn (tgt := 818) (off := 786) hxx hb dL_law_32 (by decide) (by decide) rfl (by decide) ?_
        exact law_two C0 hR hG hS hl (hix 1 (by decide)) (hix 2 (by decide)) (by omega) (by omega) kend
      | 23, _ =>
        refine lv_tableIn (tgt := 851) (off := 819) hxx hb dL_law_32 (by decide) (by decide) rfl (by decide) ?_
        exact law_swap C0 hR hG hS hl (hix 1 (by decide)) (hix 2 (by decide)) (by omega) (by omega) kend
      | 24, _ =>
        refine lv_tableIn (tgt := 884) (off := 852) hxx hb dL_law_32 (by decide) (by decide) rfl (by decide) ?_
        exact law_row C0 hR hG hS hl (hix 1 (by decide)) (by omega) (by omega) kend
      | 25, _ =>
        refine lv_tableIn (tgt := 907) (off := 875) hxx hb dL_law_32 (by decide) (by decide) rfl (by decide) ?_
        exact law_judge C0 hR hG hS hl (hix 1 (by decide)) (by omega) (by omega) kend
      | 26, _ =>
        refine lv_tableIn (tgt := 930) (off := 898) hxx hb dL_law_32 (by decide) (by decide) rfl (by decide) ?_
        exact law_caught C0 hR hG hS hl (hix 1 (by decide)) (by omega) (by omega) kend
      | 27, _ =>
        refine lv_tableIn (tgt := 953) (off := 921) hxx hb dL_law_32 (by decide) (by decide) rfl (by decide) ?_
        exact law_lots C0 hR hG hS hl (hix 1 (by decide)) (hix 2 (by decide)) (hix 3 (by decide)) (by omega) (by omega) kend
      | 28, _ =>
        refine lv_tableIn (tgt := 996) (off := 964) hxx hb dL_law_32 (by decide) (by decide) rfl (by decide) ?_
        exact law_image C0 hR hG hS hl (by omega) (by omega) kend
      | 29, _ =>
        refine lv_tableIn (tgt := 1009) (off := 977) hxx hb dL_law_32 (by decide) (by decide) rfl (by decide) ?_
        exact law_on C0 hR hG hS hl (by omega) (by omega) kend
      | 30, _ =>
        refine lv_tableIn (tgt := 1022) (off := 990) hxx hb dL_law_32 (by decide) (by decide) rfl (by decide) ?_
        exact law_count C0 hR hG hS hl (hix 1 (by decide)) (by omega) (by omega) kend
      | 31, _ =>
        refine lv_tableOut (tgt := 1045) hxx hb dL_law_32 (by decide) (by decide) ?_
        exact W.widen (by omega) (by omega) (kend _ _ _ _ _ _ _ _ _ _ _ _ _ _ _ _ _ _ _ _ _ _ _ _ _ _ _ _ _ _ _ _ _ _ _ _ _ _ hR hG hS hl)
      | j + 32, hj =>
        omega
