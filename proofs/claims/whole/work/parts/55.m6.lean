section
variable {p : Program} {l : Launch} {e : Env} {s : State} {m : MethodId} {args : Array Value} {below : List Frame} {meth : Method} {c : Code} {D : va_G} {b : GB} {M : Nat} {cI cL : ClassId} {h0 : Nat} {g0 gh : Nat → va_E} {Q : State → Prop}
variable {a_refused : Nat → Int32} {a_isWall : Nat → Int32} {a_kind : Nat → Int32} {a_lampCell : Nat → Int32} {a_range : Nat → Int32} {a_lit : Nat → Int32} {a_scenes : Nat → Int32} {a_who : Nat → Int32} {a_cell : Nat → Int32} {a_minuteOf : Nat → Int32} {a_standsAt : Nat → Int32} {i_lampMany : Int32} {i_people : Int32} {i_minute : Int32} {a_tape : Nat → Int32} {a_letter : Nat → Int32} {a_letterAt : Nat → Int32} {a_told : Nat → Int32} {i_taped : Int32} {i_at : Int32} {i_statements : Int32} {a_kept : Nat → Int32} {i_hasImage : Int32} {i_isKeeping : Int32} {i_cursor : Int32} {a_far : Nat → Int32} {a_shut : Nat → Int32} {a_queue : Nat → Int32} {i_queued : Int32} {a_litBy : Nat → Int32} {a_may : Nat → Int32} {a_row : Nat → Int32} {i_rowMany : Int32}
-- X12_lightsAll
abbrev rm_X12_lightsAll : Room := { frames := 0, cells := 0, slots := 0, locals := 0 }
set_option maxHeartbeats 4000000 in
set_option maxRecDepth 100000 in
theorem w_X12_lightsAll_2 {α : Type} {R : α} {K26 : Unit → Option α} {K34 : Unit → Option α} {v1 : Int32} (X : gC p s m args meth c cX12_lightsAll 3 (some .boolean) wsX12_lightsAll RX12 D b (gTy cI cL)) : ∀ (n : Nat) (v2 : Int32), L_X12_lightsAll_2 K26 K34 a_litBy a_row i_rowMany v1 n v2 = some R → (∀ (x : Unit), K26 x = some R → ∀ (H : Heap) (locs : List Loc) (ls : Array Slot), GP D b M (mg cI h0 a_refused a_isWall a_kind a_lampCell a_range a_lit a_scenes a_who a_cell a_minuteOf a_standsAt i_lampMany i_people i_minute a_tape a_letter a_letterAt a_told i_taped i_at i_statements a_kept i_hasImage i_isKeeping i_cursor a_far a_shut a_queue i_queued a_litBy a_may a_row i_rowMany g0) H → va_S (gA b) s.heap H locs → lv_has ls 3 [] → W p l e rm_X12_lightsAll s m args below meth c H locs 0 0 Q (F0 m 26 ls [])) → (∀ (x : Unit), K34 x = some R → ∀ (H : Heap) (locs : List Loc) (ls : Array Slot), GP D b M (mg cI h0 a_refused a_isWall a_kind a_lampCell a_range a_lit a_scenes a_who a_cell a_minuteOf a_standsAt i_lampMany i_people i_minute a_tape a_letter a_letterAt a_told i_taped i_at i_statements a_kept i_hasImage i_isKeeping i_cursor a_far a_shut a_queue i_queued a_litBy a_may a_row i_rowMany g0) H → va_S (gA b) s.heap H locs → lv_has ls 3 [] → W p l e rm_X12_lightsAll s m args below meth c H locs 0 0 Q (F0 m 34 ls [])) → ∀ (H : Heap) (locs : List Loc) (ls : Array Slot), GP D b M (mg cI h0 a_refused a_isWall a_kind a_lampCell a_range a_lit a_scenes a_who a_cell a_minuteOf a_standsAt i_lampMany i_people i_minute a_tape a_letter a_letterAt a_told i_taped i_at i_statements a_kept i_hasImage i_isKeeping i_cursor a_far a_shut a_queue i_queued a_litBy a_may a_row i_rowMany g0) H → va_S (gA b) s.heap H locs → lv_has ls 3 [(0, .ref h0), (1, .int v1), (2, .int v2)] → W p l e rm_X12_lightsAll s m args below meth c H locs 0 0 Q (F0 m 2 ls []) := by
  obtain ⟨hx, hb, hr, hml, hown, hts, hlocks, hKn, hBs⟩ := id X
  have hK := hKn.1
  have hin : ∀ w ∈ wsX120, w ∈ wsX12_lightsAll := fun w h => List.mem_cons_of_mem _ (List.mem_append_right _ h)
  intro n
  induction n with
  | zero =>
    intro v2 hf
    cases hf
  | succ n ih =>
    intro v2 hf hk26 hk34 H locs ls hG hS hl
    rw [L_X12_lightsAll_2.eq_2] at hf
    refine lv_iload_n hx hb dX12_lightsAll_2 rfl (lv_at hl 2 rfl) ?_
    refine lv_aload_n hx hb dX12_lightsAll_3 rfl (lv_at hl 0 rfl) ?_
    refine gp_get (v := .int i_rowMany) (C := RX12) (T := TX12) (N := 33) (ci := 10) hx hb hts hin hown hK hG mg_o rfl 32 (by decide) (hts _ (List.mem_of_getElem? (i := 1) rfl)) (fun _ h9 => h9) rfl dX12_lightsAll_4 ?_
    refine lv_icmp_ge (tgt := 34) hx hb dX12_lightsAll_7 (by decide) (fun c7 => ?_) (fun c7 => ?_)
    · have hf := gb_t c7 hf
      exact hk34 _ hf _ _ _ hG hS (lv_sub hl [] rfl)
    · have hf := gb_f c7 hf
      refine lv_aload_n hx hb dX12_lightsAll_10 rfl (lv_at hl 0 rfl) ?_
      refine gp_get (v := .ref (h0 + 20)) (C := RX12) (T := TX12) (N := 33) (ci := 10) hx hb hts hin hown hK hG mg_o rfl 29 (by decide) (hts _ (List.mem_of_getElem? (i := 2) rfl)) (fun _ h9 => h9) rfl dX12_lightsAll_11 ?_
      refine lv_aload_n hx hb dX12_lightsAll_14 rfl (lv_at hl 0 rfl) ?_
      refine gp_get (v := .ref (h0 + 22)) (C := RX12) (T := TX12) (N := 33) (ci := 10) hx hb hts hin hown hK hG mg_o rfl 31 (by decide) (hts _ (List.mem_of_getElem? (i := 3) rfl)) (fun _ h9 => h9) rfl dX12_lightsAll_15 ?_
      refine lv_iload_n hx hb dX12_lightsAll_18 rfl (lv_at hl 2 rfl) ?_
      obtain ⟨b19, hf⟩ := gb_ix hf
      refine gp_iald hx hb hK hG mg_row b19 dX12_lightsAll_19 ?_
      obtain ⟨b20, hf⟩ := gb_ix hf
      refine gp_iald hx hb hK hG mg_litBy b20 dX12_lightsAll_20 ?_
      refine lv_iload_n hx hb dX12_lightsAll_21 rfl (lv_at hl 1 rfl) ?_
      refine lv_iand hx hb dX12_lightsAll_22 ?_
      refine lv_if_ne (tgt := 28) hx hb dX12_lightsAll_23 (by decide) (fun c23 => ?_) (fun c23 => ?_)
      · have hf := gb_f c23 hf
        refine lv_iinc (v := v2 + 1) (lv' := [(2, .int (v2 + 1)), (0, .ref h0), (1, .int v1)]) hx hb dX12_lightsAll_28 hl (k := 2) rfl rfl (by decide) rfl (fun ls hl => ?_)
        refine lv_goto (tgt := 2) hx hb dX12_lightsAll_31 (by decide) ?_
        exact ih _ hf hk26 hk34 _ _ _ hG hS (lv_sub hl [1, 2, 0] rfl)
      · have hf := gb_t c23 hf
        exact hk26 _ hf _ _ _ hG hS (lv_sub hl [] rfl)
set_option maxHeartbeats 4000000 in
set_option maxRecDepth 100000 in
theorem c_X12_lightsAll {v1 : Int32} {R : Int32} (hf : f_X12_lightsAll a_litBy a_row i_rowMany v1 = some R) : Met l yX12_lightsAll wsX12_lightsAll rm_X12_lightsAll (va_Pc [.ref h0, .int v1] (gPre D b M (mg cI h0 a_refused a_isWall a_kind a_lampCell a_range a_lit a_scenes a_who a_cell a_minuteOf a_standsAt i_lampMany i_people i_minute a_tape a_letter a_letterAt a_told i_taped i_at i_statements a_kept i_hasImage i_isKeeping i_cursor a_far a_shut a_queue i_queued a_litBy a_may a_row i_rowMany g0) (gTy cI cL))) (gQ D b (some (.int R)) M (mg cI h0 a_refused a_isWall a_kind a_lampCell a_range a_lit a_scenes a_who a_cell a_minuteOf a_standsAt i_lampMany i_people i_minute a_tape a_letter a_letterAt a_told i_taped i_at i_statements a_kept i_hasImage i_isKeeping i_cursor a_far a_shut a_queue i_queued a_litBy a_may a_row i_rowMany g0)) 0 0 (gA b) := by
  refine gp_met (cc := cX12_lightsAll) (maxL := 3) (ret := (some .boolean)) (by decide) rfl (Nat.le_of_ble_eq_true rfl) ?_
  intro p e s m below meth c X ls hG hl
  have hS : va_S (gA b) s.heap s.heap [] := va_S.rf
  obtain ⟨H, hH0⟩ : ∃ H : Heap, H = s.heap := ⟨_, rfl⟩
  rw [← hH0] at hG ⊢
  have hS : va_S (gA b) s.heap H [] := by rw [hH0]; exact va_S.rf
  obtain ⟨locs, hlo⟩ : ∃ z : List Loc, z = [] := ⟨_, rfl⟩
  rw [← hlo] at hS ⊢
  unfold f_X12_lightsAll at hf
  obtain ⟨hx, hb, hr, hml, hown, hts, hlocks, hKn, hBs⟩ := id X
  have hK := hKn.1
  have hin : ∀ w ∈ wsX120, w ∈ wsX12_lightsAll := fun w h => List.mem_cons_of_mem _ (List.mem_append_right _ h)
  have hl : lv_has ls 3 [(0, .ref h0), (1, .int v1)] := hl
  refine lv_iconst (v := 0) hx hb dX12_lightsAll_0 (by decide) ?_
  refine lv_istore_n (lv' := [(2, .int 0), (0, .ref h0), (1, .int v1)]) hx hb dX12_lightsAll_1 rfl hl (by decide) rfl (fun ls hl => ?_)
  refine w_X12_lightsAll_2 X _ _ hf (fun x2_26 hf H locs ls hG hS hl => ?_) (fun x2_34 hf H locs ls hG hS hl => ?_) _ _ _ hG hS (lv_sub hl [1, 2, 0] rfl)
  · refine lv_iconst (v := 0) hx hb dX12_lightsAll_26 (by decide) ?_
    have hf := Option.some.inj hf
    subst hf
    exact gp_retZ hx hb hr (Or.inl rfl) hlocks hG hS (Nat.le_refl _) (Nat.le_refl _) dX12_lightsAll_27
  · refine lv_iconst (v := 1) hx hb dX12_lightsAll_34 (by decide) ?_
    have hf := Option.some.inj hf
    subst hf
    exact gp_retZ hx hb hr (Or.inr rfl) hlocks hG hS (Nat.le_refl _) (Nat.le_refl _) dX12_lightsAll_35
-- X12_fewest
abbrev rm_X12_fewest : Room := { frames := 4, cells := 0, slots := 0, locals := 90 }
set_option maxHeartbeats 4000000 in
set_option maxRecDepth 100000 in
theorem w_X12_fewest_2 {α : Type} {R : α} {K22 : Unit → Option α} {K35 : Unit → Option α} (X : gC p s m args meth c cX12_fewest 3 (some .int) wsX12_fewest RX12 D b (gTy cI cL)) : ∀ (n : Nat) (v1 : Int32), L_X12_fewest_2 K22 K35 a_row i_rowMany n v1 = some R → (∀ (x : Unit), K22 x = some R → ∀ (H : Heap) (locs : List Loc) (ls : Array Slot), GP D b M (mg cI h0 a_refused a_isWall a_kind a_lampCell a_range a_lit a_scenes a_who a_cell a_minuteOf a_standsAt i_lampMany i_people i_minute a_tape a_letter a_letterAt a_told i_taped i_at i_statements a_kept i_hasImage i_isKeeping i_cursor a_far a_shut a_queue i_queued a_litBy a_may a_row i_rowMany g0) H → va_S (gA b) s.heap H locs → lv_has ls 3 [(0, .ref h0)] → W p l e rm_X12_fewest s m args below meth c H locs 0 0 Q (F0 m 22 ls [])) → (∀ (x : Unit), K35 x = some R → ∀ (H : Heap) (locs : List Loc) (ls : Array Slot), GP D b M (mg cI h0 a_refused a_isWall a_kind a_lampCell a_range a_lit a_scenes a_who a_cell a_minuteOf a_standsAt i_lampMany i_people i_minute a_tape a_letter a_letterAt a_told i_taped i_at i_statements a_kept i_hasImage i_isKeeping i_cursor a_far a_shut a_queue i_queued a_litBy a_may a_row i_rowMany g0) H → va_S (gA b) s.heap H locs → lv_has ls 3 [(0, .ref h0)] → W p l e rm_X12_fewest s m args below meth c H locs 0 0 Q (F0 m 35 ls [])) → ∀ (H : Heap) (locs : List Loc) (ls : Array Slot), GP D b M (mg cI h0 a_refused a_isWall a_kind a_lampCell a_range a_lit a_scenes a_who a_cell a_minuteOf a_standsAt i_lampMany i_people i_minute a_tape a_letter a_letterAt a_told i_taped i_at i_statements a_kept i_hasImage i_isKeeping i_cursor a_far a_shut a_queue i_queued a_litBy a_may a_row i_rowMany g0) H → va_S (gA b) s.heap H locs → lv_has ls 3 [(0, .ref h0), (1, .int v1)] → W p l e rm_X12_fewest s m args below meth c H locs 0 0 Q (F0 m 2 ls []) := by
  obtain ⟨hx, hb, hr, hml, hown, hts, hlocks, hKn, hBs⟩ := id X
  have hK := hKn.1
  have hin : ∀ w ∈ wsX120, w ∈ wsX12_fewest := fun w h => List.mem_cons_of_mem _ (List.mem_append_right _ h)
  intro n
  induction n with
  | zero =>
    intro v1 hf
    cases hf
  | succ n ih =>
    intro v1 hf hk22 hk35 H locs ls hG hS hl
    rw [L_X12_fewest_2.eq_2] at hf
    refine lv_iload_n hx hb dX12_fewest_2 rfl (lv_at hl 1 rfl) ?_
    refine lv_aload_n hx hb dX12_fewest_3 rfl (lv_at hl 0 rfl) ?_
    refine gp_get (v := .int i_rowMany) (C := RX12) (T := TX12) (N := 33) (ci := 10) hx hb hts hin hown hK hG mg_o rfl 32 (by decide) (hts _ (List.mem_of_getElem? (i := 1) rfl)) (fun _ h9 => h9) rfl dX12_fewest_4 ?_
    refine lv_icmp_ge (tgt := 35) hx hb dX12_fewest_7 (by decide) (fun c7 => ?_) (fun c7 => ?_)
    · have hf := gb_t c7 hf
      exact hk35 _ hf _ _ _ hG hS (lv_sub hl [0] rfl)
    · have hf := gb_f c7 hf
      refine lv_aload_n hx hb dX12_fewest_10 rfl (lv_at hl 0 rfl) ?_
      refine gp_get (v := .ref (h0 + 22)) (C := RX12) (T := TX12) (N := 33) (ci := 10) hx hb hts hin hown hK hG mg_o rfl 31 (by decide) (hts _ (List.mem_of_getElem? (i := 2) rfl)) (fun _ h9 => h9) rfl dX12_fewest_11 ?_
      refine lv_iload_n hx hb dX12_fewest_14 rfl (lv_at hl 1 rfl) ?_
      obtain ⟨b15, hf⟩ := gb_ix hf
      refine gp_iald hx hb hK hG mg_row b15 dX12_fewest_15 ?_
      obtain ⟨o16, hc16, hf⟩ := gb_b hf
      refine gp_callI (va_runS (As := [.int (a_row v1.toNatClampNeg)]) (rest := []) ⟨hx, hb, hml, hown, hts⟩ (c_X12_isCell (l := l) (D := D) (b := b) (M := M) (cI := cI) (cL := cL) hc16) (va_cwS 1 hts gX12_fewest_X12_isCell rfl rfl rfl (by decide +kernel) ⟨Nat.le_of_ble_eq_true rfl, Nat.le_of_ble_eq_true rfl⟩) (gp_preS hKn hG) rfl rfl hl.1 rfl (lv_room (Nat.le_of_ble_eq_true rfl)) dX12_fewest_16 ⟨Nat.le_of_ble_eq_true rfl, Nat.le_of_ble_eq_true rfl⟩) hS (fun H locs hG hS => ?_)
      refine lv_if_ne (tgt := 29) hx hb dX12_fewest_19 (by decide) (fun c19 => ?_) (fun c19 => ?_)
      · have hf := gb_f c19 hf
        refine lv_iinc (v := v1 + 1) (lv' := [(1, .int (v1 + 1)), (0, .ref h0)]) hx hb dX12_fewest_29 hl (k := 1) rfl rfl (by decide) rfl (fun ls hl => ?_)
        refine lv_goto (tgt := 2) hx hb dX12_fewest_32 (by decide) ?_
        exact ih _ hf hk22 hk35 _ _ _ hG hS (lv_sub hl [1, 0] rfl)
      · have hf := gb_t c19 hf
        exact hk22 _ hf _ _ _ hG hS (lv_sub hl [0] rfl)
set_option maxHeartbeats 4000000 in
set_option maxRecDepth 100000 in
theorem w_X12_fewest_44 {α : Type} {R : α} {K85 : Int32 → Option α} (X : gC p s m args meth c cX12_fewest 3 (some .int) wsX12_fewest RX12 D b (gTy cI cL)) : ∀ (n : Nat) (v1 : Int32) (v2 : Int32), L_X12_fewest_44 K85 i_lampMany a_litBy a_row i_rowMany n v1 v2 = some R → (∀ (x : Int32), K85 x = some R → ∀ (H : Heap) (locs : List Loc) (ls : Array Slot), GP D b M (mg cI h0 a_refused a_isWall a_kind a_lampCell a_range a_lit a_scenes a_who a_cell a_minuteOf a_standsAt i_lampMany i_people i_minute a_tape a_letter a_letterAt a_told i_taped i_at i_statements a_kept i_hasImage i_isKeeping i_cursor a_far a_shut a_queue i_queued a_litBy a_may a_row i_rowMany g0) H → va_S (gA b) s.heap H locs → lv_has ls 3 [(1, .int x)] → W p l e rm_X12_fewest s m args below meth c H locs 0 0 Q (F0 m 85 ls [])) → ∀ (H : Heap) (locs : List Loc) (ls : Array Slot), GP D b M (mg cI h0 a_refused a_isWall a_kind a_lampCell a_range a_lit a_scenes a_who a_cell a_minuteOf a_standsAt i_lampMany i_people i_minute a_tape a_letter a_letterAt a_told i_taped i_at i_statements a_kept i_hasImage i_isKeeping i_cursor a_far a_shut a_queue i_queued a_litBy a_may a_row i_rowMany g0) H → va_S (gA b) s.heap H locs → lv_has ls 3 [(0, .ref h0), (1, .int v1), (2, .int v2)] → W p l e rm_X12_fewest s m args below meth c H locs 0 0 Q (F0 m 44 ls []) := by
  obtain ⟨hx, hb, hr, hml, hown, hts, hlocks, hKn, hBs⟩ := id X
  have hK := hKn.1
  have hin : ∀ w ∈ wsX120, w ∈ wsX12_fewest := fun w h => List.mem_cons_of_mem _ (List.mem_append_right _ h)
  intro n
  induction n with
  | zero =>
    intro v1 v2 hf
    cases hf
  | succ n ih =>
    intro v1 v2 hf hk85 H locs ls hG hS hl
    rw [L_X12_fewest_44.eq_2] at hf
    refine lv_iload_n hx hb dX12_fewest_44 rfl (lv_at hl 2 rfl) ?_
    refine lv_iconst (v := 1) hx hb dX12_fewest_45 (by decide) ?_
    refine lv_aload_n hx hb dX12_fewest_46 rfl (lv_at hl 0 rfl) ?_
    refine gp_get (v := .int i_lampMany) (C := RX12) (T := TX12) (N := 33) (ci := 10) hx hb hts hin hown hK hG mg_o rfl 11 (by decide) (hts _ (List.mem_of_getElem? (i := 3) rfl)) (fun _ h9 => h9) rfl dX12_fewest_47 ?_
    refine lv_ishl hx hb dX12_fewest_50 ?_
    refine lv_icmp_ge (tgt := 85) hx hb dX12_fewest_51 (by decide) (fun c51 => ?_) (fun c51 => ?_)
    · have hf := gb_t c51 hf
      exact hk85 _ hf _ _ _ hG hS (lv_sub hl [1] rfl)
    · have hf := gb_f c51 hf
      refine lv_iload_n hx hb dX12_fewest_54 rfl (lv_at hl 1 rfl) ?_
      obtain ⟨j55, hj55, hf⟩ := gb_b hf
      have hJ55 : ∀ (H : Heap) (locs : List Loc) (ls : Array Slot), GP D b M (mg cI h0 a_refused a_isWall a_kind a_lampCell a_range a_lit a_scenes a_who a_cell a_minuteOf a_standsAt i_lampMany i_people i_minute a_tape a_letter a_letterAt a_told i_taped i_at i_statements a_kept i_hasImage i_isKeeping i_cursor a_far a_shut a_queue i_queued a_litBy a_may a_row i_rowMany g0) H → va_S (gA b) s.heap H locs → lv_has ls 3 [(0, .ref h0), (1, .int j55), (2, .int v2)] → W p l e rm_X12_fewest s m args below meth c H locs 0 0 Q (F0 m 79 ls []) := by
        intro H locs ls hG hS hl
        refine lv_iinc (v := v2 + 1) (lv' := [(2, .int (v2 + 1)), (0, .ref h0), (1, .int j55)]) hx hb dX12_fewest_79 hl (k := 2) rfl rfl (by decide) rfl (fun ls hl => ?_)
        refine lv_goto (tgt := 44) hx hb dX12_fewest_82 (by decide) ?_
        exact ih _ _ hf hk85 _ _ _ hG hS (lv_sub hl [1, 2, 0] rfl)
      refine lv_if_lt (tgt := 69) hx hb dX12_fewest_55 (by decide) (fun c55 => ?_) (fun c55 => ?_)
      · have hj55 := gb_t c55 hj55
        refine lv_aload_n hx hb dX12_fewest_69 rfl (lv_at hl 0 rfl) ?_
        refine lv_iload_n hx hb dX12_fewest_70 rfl (lv_at hl 2 rfl) ?_
        obtain ⟨o71, hc71, hj55⟩ := gb_b hj55
        refine gp_callI (va_runV (As := [.int v2]) (rest := []) ⟨hx, hb, hml, hown, hts⟩ (c_X12_lightsAll (l := l) (D := D) (b := b) (M := M) (cI := cI) (cL := cL) hc71) (cwV 1 hts gX12_fewest_X12_lightsAll rfl rfl rfl (by decide +kernel) ⟨Nat.le_of_ble_eq_true rfl, Nat.le_of_ble_eq_true rfl⟩) (gp_preV hKn hG mg_o rfl) rfl rfl hl.1 rfl (lv_room (Nat.le_of_ble_eq_true rfl)) dX12_fewest_71 ⟨Nat.le_of_ble_eq_true rfl, Nat.le_of_ble_eq_true rfl⟩) hS (fun H locs hG hS => ?_)
        refine lv_if_eq (tgt := 79) hx hb dX12_fewest_74 (by decide) (fun c74 => ?_) (fun c74 => ?_)
        · have hj55 := gb_t c74 hj55
          have hj55 := Option.some.inj hj55
          subst hj55
          exact hJ55 H locs ls hG hS (lv_sub hl [0, 1, 2] rfl)
        · have hj55 := gb_f c74 hj55
          refine lv_iload_n hx hb dX12_fewest_77 rfl (lv_at hl 2 rfl) ?_
          refine lv_istore_n (lv' := [(1, .int v2), (0, .ref h0), (2, .int v2)]) hx hb dX12_fewest_78 rfl hl (by decide) rfl (fun ls hl => ?_)
          have hj55 := Option.some.inj hj55
          subst hj55
          exact hJ55 H locs ls hG hS (lv_sub hl [1, 0, 2] rfl)
      · have hj55 := gb_f c55 hj55
        refine lv_iload_n hx hb dX12_fewest_58 rfl (lv_at hl 2 rfl) ?_
        obtain ⟨o59, hc59, hj55⟩ := gb_b hj55
        refine gp_callI (va_runS (As := [.int v2]) (rest := []) ⟨hx, hb, hml, hown, hts⟩ (c_X12_bits (l := l) (D := D) (b := b) (M := M) (cI := cI) (cL := cL) hc59) (va_cwS 1 hts gX12_fewest_X12_bits rfl rfl rfl (by decide +kernel) ⟨Nat.le_of_ble_eq_true rfl, Nat.le_of_ble_eq_true rfl⟩) (gp_preS hKn hG) rfl rfl hl.1 rfl (lv_room (Nat.le_of_ble_eq_true rfl)) dX12_fewest_59 ⟨Nat.le_of_ble_eq_true rfl, Nat.le_of_ble_eq_true rfl⟩) hS (fun H locs hG hS => ?_)
        refine lv_iload_n hx hb dX12_fewest_62 rfl (lv_at hl 1 rfl) ?_
        obtain ⟨o63, hc63, hj55⟩ := gb_b hj55
        refine gp_callI (va_runS (As := [.int v1]) (rest := [.int o59]) ⟨hx, hb, hml, hown, hts⟩ (c_X12_bits (l := l) (D := D) (b := b) (M := M) (cI := cI) (cL := cL) hc63) (va_cwS 1 hts gX12_fewest_X12_bits rfl rfl rfl (by decide +kernel) ⟨Nat.le_of_ble_eq_true rfl, Nat.le_of_ble_eq_true rfl⟩) (gp_preS hKn hG) rfl rfl hl.1 rfl (lv_room (Nat.le_of_ble_eq_true rfl)) dX12_fewest_63 ⟨Nat.le_of_ble_eq_true rfl, Nat.le_of_ble_eq_true rfl⟩) hS (fun H locs hG hS => ?_)
        refine lv_icmp_ge (tgt := 79) hx hb dX12_fewest_66 (by decide) (fun c66 => ?_) (fun c66 => ?_)
        · have hj55 := gb_t c66 hj55
          have hj55 := Option.some.inj hj55
          subst hj55
          exact hJ55 H locs ls hG hS (lv_sub hl [0, 1, 2] rfl)
        · have hj55 := gb_f c66 hj55
          refine lv_aload_n hx hb dX12_fewest_69 rfl (lv_at hl 0 rfl) ?_
          refine lv_iload_n hx hb dX12_fewest_70 rfl (lv_at hl 2 rfl) ?_
          obtain ⟨o71, hc71, hj55⟩ := gb_b hj55
          refine gp_callI (va_runV (As := [.int v2]) (rest := []) ⟨hx, hb, hml, hown, hts⟩ (c_X12_lightsAll (l := l) (D := D) (b := b) (M := M) (cI := cI) (cL := cL) hc71) (cwV 1 hts gX12_fewest_X12_lightsAll rfl rfl rfl (by decide +kernel) ⟨Nat.le_of_ble_eq_true rfl, Nat.le_of_ble_eq_true rfl⟩) (gp_preV hKn hG mg_o rfl) rfl rfl hl.1 rfl (lv_room (Nat.le_of_ble_eq_true rfl)) dX12_fewest_71 ⟨Nat.le_of_ble_eq_true rfl, Nat.le_of_ble_eq_true rfl⟩) hS (fun H locs hG hS => ?_)
          refine lv_if_eq (tgt := 79) hx hb dX12_fewest_74 (by decide) (fun c74 => ?_) (fun c74 => ?_)
          · have hj55 := gb_t c74 hj55
            have hj55 := Option.some.inj hj55
            subst hj55
            exact hJ55 H locs ls hG hS (lv_sub hl [0, 1, 2] rfl)
          · have hj55 := gb_f c74 hj55
            refine lv_iload_n hx hb dX12_fewest_77 rfl (lv_at hl 2 rfl) ?_
            refine lv_istore_n (lv' := [(1, .int v2), (0, .ref h0), (2, .int v2)]) hx hb dX12_fewest_78 rfl hl (by decide) rfl (fun ls hl => ?_)
            have hj55 := Option.some.inj hj55
            subst hj55
            exact hJ55 H locs ls hG hS (lv_sub hl [1, 0, 2] rfl)
set_option maxHeartbeats 4000000 in
set_option maxRecDepth 100000 in
theorem c_X12_fewest {R : Int32 × (Nat → Int32) × (Nat → Int32) × (Nat → Int32) × (Nat → Int32) × Int32 × (Nat → Int32)} (hf : f_X12_fewest a_refused a_isWall a_kind a_lampCell a_range a_standsAt i_lampMany i_people a_far a_shut a_queue i_queued a_litBy a_row i_rowMany = some R) : Met l yX12_fewest wsX12_fewest rm_X12_fewest (va_Pc [.ref h0] (gPre D b M (mg cI h0 a_refused a_isWall a_kind a_lampCell a_range a_lit a_scenes a_who a_cell a_minuteOf a_standsAt i_lampMany i_people i_minute a_tape a_letter a_letterAt a_told i_taped i_at i_statements a_kept i_hasImage i_isKeeping i_cursor a_far a_shut a_queue i_queued a_litBy a_may a_row i_rowMany g0) (gTy cI cL))) (gQ D b (some (.int R.1)) M (mg cI h0 R.2.1 a_isWall a_kind a_lampCell a_range a_lit a_scenes a_who a_cell a_minuteOf a_standsAt i_lampMany i_people i_minute a_tape a_letter a_letterAt a_told i_taped i_at i_statements a_kept i_hasImage i_isKeeping i_cursor R.2.2.1 R.2.2.2.1 R.2.2.2.2.1 R.2.2.2.2.2.1 R.2.2.2.2.2.2 a_may a_row i_rowMany g0)) 0 0 (gA b) := by
  refine gp_met (cc := cX12_fewest) (maxL := 3) (ret := (some .int)) (by decide) rfl (Nat.le_of_ble_eq_true rfl) ?_
  intro p e s m below meth c X ls hG hl
  have hS : va_S (gA b) s.heap s.heap [] := va_S.rf
  obtain ⟨H, hH0⟩ : ∃ H : Heap, H = s.heap := ⟨_, rfl⟩
  rw [← hH0] at hG ⊢
  have hS : va_S (gA b) s.heap H [] := by rw [hH0]; exact va_S.rf
  obtain ⟨locs, hlo⟩ : ∃ z : List Loc, z = [] := ⟨_, rfl⟩
  rw [← hlo] at hS ⊢
  unfold f_X12_fewest at hf
  obtain ⟨hx, hb, hr, hml, hown, hts, hlocks, hKn, hBs⟩ := id X
  have hK := hKn.1
  have hin : ∀ w ∈ wsX120, w ∈ wsX12_fewest := fun w h => List.mem_cons_of_mem _ (List.mem_append_right _ h)
  have hl : lv_has ls 3 [(0, .ref h0)] := hl
  refine lv_iconst (v := 0) hx hb dX12_fewest_0 (by decide) ?_
  refine lv_istore_n (lv' := [(1, .int 0), (0, .ref h0)]) hx hb dX12_fewest_1 rfl hl (by decide) rfl (fun ls hl => ?_)
  refine w_X12_fewest_2 X _ _ hf (fun x2_22 hf H locs ls hG hS hl => ?_) (fun x2_35 hf H locs ls hG hS hl => ?_) _ _ _ hG hS (lv_sub hl [1, 0] rfl)
  · refine lv_aload_n hx hb dX12_fewest_22 rfl (lv_at hl 0 rfl) ?_
    refine lv_bipush (v := (-3 : Int32)) hx hb dX12_fewest_23 (by decide) ?_
    obtain ⟨o25, hc25, hf⟩ := gb_b hf
    refine gp_callI (va_runV (As := [.int (-3 : Int32)]) (rest := []) ⟨hx, hb, hml, hown, hts⟩ (c_X12_no (l := l) (D := D) (b := b) (M := M) (cI := cI) (cL := cL) hc25) (cwV 1 hts gX12_fewest_X12_no rfl rfl rfl (by decide +kernel) ⟨Nat.le_of_ble_eq_true rfl, Nat.le_of_ble_eq_true rfl⟩) (gp_preV hKn hG mg_o rfl) rfl rfl hl.1 rfl (lv_room (Nat.le_of_ble_eq_true rfl)) dX12_fewest_25 ⟨Nat.le_of_ble_eq_true rfl, Nat.le_of_ble_eq_true rfl⟩) hS (fun H locs hG hS => ?_)
    have hf := Option.some.inj hf
    subst hf
    exact gp_retI hx hb hr hlocks hG hS (Nat.le_refl _) (Nat.le_refl _) dX12_fewest_28
  · refine lv_aload_n hx hb dX12_fewest_35 rfl (lv_at hl 0 rfl) ?_
    obtain ⟨o36, hc36, hf⟩ := gb_b hf
    refine gp_callV (va_runV (As := []) (rest := []) ⟨hx, hb, hml, hown, hts⟩ (c_X12_findLit (l := l) (D := D) (b := b) (M := M) (cI := cI) (cL := cL) hc36) (cwV 0 hts gX12_fewest_X12_findLit rfl rfl rfl (by decide +kernel) ⟨Nat.le_of_ble_eq_true rfl, Nat.le_of_ble_eq_true rfl⟩) (gp_preV hKn hG mg_o rfl) rfl rfl hl.1 rfl (lv_room (Nat.le_of_ble_eq_true rfl)) dX12_fewest_36 ⟨Nat.le_of_ble_eq_true rfl, Nat.le_of_ble_eq_true rfl⟩) hS (fun H locs hG hS => ?_)
    refine lv_bipush (v := (-9 : Int32)) hx hb dX12_fewest_39 (by decide) ?_
    refine lv_istore_n (lv' := [(1, .int (-9 : Int32)), (0, .ref h0)]) hx hb dX12_fewest_41 rfl hl (by decide) rfl (fun ls hl => ?_)
    refine lv_iconst (v := 0) hx hb dX12_fewest_42 (by decide) ?_
    refine lv_istore_n (lv' := [(2, .int 0), (1, .int (-9 : Int32)), (0, .ref h0)]) hx hb dX12_fewest_43 rfl hl (by decide) rfl (fun ls hl => ?_)
    refine w_X12_fewest_44 X _ _ _ hf (fun x44_85 hf H locs ls hG hS hl => ?_) _ _ _ hG hS (lv_sub hl [2, 1, 0] rfl)
    · refine lv_iload_n hx hb dX12_fewest_85 rfl (lv_at hl 0 rfl) ?_
      have hf := Option.some.inj hf
      subst hf
      exact gp_retI hx hb hr hlocks hG hS (Nat.le_refl _) (Nat.le_refl _) dX12_fewest_86
-- X12_oneMore
abbrev rm_X12_oneMore : Room := { frames := 4, cells := 0, slots := 0, locals := 90 }
set_option maxHeartbeats 4000000 in
set_option maxRecDepth 100000 in
theorem w_X12_oneMore_66 {α : Type} {R : α} {K114 : Int32 → Option α} {v1 : Int32} {v2 : Int32} {v4 : Int32} {v5 : Int32} {v6 : Int32} (X : gC p s m args meth c cX12_oneMore 9 (some .int) wsX12_oneMore RX12 D b (gTy cI cL)) : ∀ (n : Nat) (v7 : Int32) (v8 : Int32), L_X12_oneMore_66 K114 a_lit i_lampMany a_far a_litBy v1 v2 v4 v5 v6 n v7 v8 = some R → (∀ (x : Int32), K114 x = some R → ∀ (H : Heap) (locs : List Loc) (ls : Array Slot), GP D b M (mg cI h0 a_refused a_isWall a_kind a_lampCell a_range a_lit a_scenes a_who a_cell a_minuteOf a_standsAt i_lampMany i_people i_minute a_tape a_letter a_letterAt a_told i_taped i_at i_statements a_kept i_hasImage i_isKeeping i_cursor a_far a_shut a_queue i_queued a_litBy a_may a_row i_rowMany g0) H → va_S (gA b) s.heap H locs → lv_has ls 9 [(0, .ref h0), (1, .int v1), (2, .int v2), (4, .int v4), (5, .int v5), (6, .int v6), (7, .int x)] → W p l e rm_X12_oneMore s m args below meth c H locs 0 0 Q (F0 m 114 ls [])) → ∀ (H : Heap) (locs : List Loc) (ls : Array Slot), GP D b M (mg cI h0 a_refused a_isWall a_kind a_lampCell a_range a_lit a_scenes a_who a_cell a_minuteOf a_standsAt i_lampMany i_people i_minute a_tape a_letter a_letterAt a_told i_taped i_at i_statements a_kept i_hasImage i_isKeeping i_cursor a_far a_shut a_queue i_queued a_litBy a_may a_row i_rowMany g0) H → va_S (gA b) s.heap H locs → lv_has ls 9 [(0, .ref h0), (1, .int v1), (2, .int v2), (4, .int v4), (5, .int v5), (6, .int v6), (7, .int v7), (8, .int v8)] → W p l e rm_X12_oneMore s m args below meth c H locs 0 0 Q (F0 m 66 ls []) := by
  obtain ⟨hx, hb, hr, hml, hown, hts, hlocks, hKn, hBs⟩ := id X
  have hK := hKn.1
  have hin : ∀ w ∈ wsX120, w ∈ wsX12_oneMore := fun w h => List.mem_cons_of_mem _ (List.mem_append_right _ h)
  intro n
  induction n with
  | zero =>
    intro v7 v8 hf
    cases hf
  | succ n ih =>
    intro v7 v8 hf hk114 H locs ls hG hS hl
    rw [L_X12_oneMore_66.eq_2] at hf
    refine lv_iload hx hb dX12_oneMore_66 (lv_at hl 7 rfl) ?_
    refine lv_bipush (v := 36) hx hb dX12_oneMore_68 (by decide) ?_
    refine lv_icmp_ge (tgt := 114) hx hb dX12_oneMore_70 (by decide) (fun c70 => ?_) (fun c70 => ?_)
    · have hf := gb_t c70 hf
      exact hk114 _ hf _ _ _ hG hS (lv_sub hl [0, 1, 2, 3, 4, 5, 6] rfl)
    · have hf := gb_f c70 hf
      refine lv_iload hx hb dX12_oneMore_73 (lv_at hl 6 rfl) ?_
      refine lv_aload_n hx hb dX12_oneMore_75 rfl (lv_at hl 0 rfl) ?_
      refine gp_get (v := .ref (h0 + 17)) (C := RX12) (T := TX12) (N := 33) (ci := 10) hx hb hts hin hown hK hG mg_o rfl 25 (by decide) (hts _ (List.mem_of_getElem? (i := 1) rfl)) (fun _ h9 => h9) rfl dX12_oneMore_76 ?_
      refine lv_iload hx hb dX12_oneMore_79 (lv_at hl 7 rfl) ?_
      obtain ⟨b81, hf⟩ := gb_ix hf
      refine gp_iald hx hb hK hG mg_far b81 dX12_oneMore_81 ?_
      obtain ⟨j82, hj82, hf⟩ := gb_b hf
      have hJ82 : ∀ (H : Heap) (locs : List Loc) (ls : Array Slot), GP D b M (mg cI h0 a_refused a_isWall a_kind a_lampCell a_range a_lit a_scenes a_who a_cell a_minuteOf a_standsAt i_lampMany i_people i_minute a_tape a_letter a_letterAt a_told i_taped i_at i_statements a_kept i_hasImage i_isKeeping i_cursor a_far a_shut a_queue i_queued a_litBy a_may a_row i_rowMany g0) H → va_S (gA b) s.heap H locs → lv_has ls 9 [(0, .ref h0), (1, .int v1), (2, .int v2), (4, .int v4), (5, .int v5), (6, .int v6), (8, .int v8)] → W p l e rm_X12_oneMore s m args below meth c H locs 0 0 Q (F0 m 105 ls [.int j82, .int v7]) := by
        intro H locs ls hG hS hl
        refine lv_iadd hx hb dX12_oneMore_105 ?_
        refine lv_istore (lv' := [(7, .int (v7 + j82)), (0, .ref h0), (1, .int v1), (2, .int v2), (4, .int v4), (5, .int v5), (6, .int v6), (8, .int v8)]) hx hb dX12_oneMore_106 hl (by decide) rfl (fun ls hl => ?_)
        refine lv_iinc (v := v8 + 1) (lv' := [(8, .int (v8 + 1)), (7, .int (v7 + j82)), (0, .ref h0), (1, .int v1), (2, .int v2), (4, .int v4), (5, .int v5), (6, .int v6)]) hx hb dX12_oneMore_108 hl (k := 7) rfl rfl (by decide) rfl (fun ls hl => ?_)
        refine lv_goto (tgt := 66) hx hb dX12_oneMore_111 (by decide) ?_
        exact ih _ _ hf hk114 _ _ _ hG hS (lv_sub hl [2, 3, 4, 5, 6, 7, 1, 0] rfl)
      refine lv_if_lt (tgt := 104) hx hb dX12_oneMore_82 (by decide) (fun c82 => ?_) (fun c82 => ?_)
      · have hj82 := gb_t c82 hj82
        refine lv_iconst (v := 0) hx hb dX12_oneMore_104 (by decide) ?_
        have hj82 := Option.some.inj hj82
        subst hj82
        exact hJ82 H locs ls hG hS (lv_sub hl [0, 1, 2, 3, 4, 5, 7] rfl)
      · have hj82 := gb_f c82 hj82
        refine lv_aload_n hx hb dX12_oneMore_85 rfl (lv_at hl 0 rfl) ?_
        refine gp_get (v := .ref (h0 + 20)) (C := RX12) (T := TX12) (N := 33) (ci := 10) hx hb hts hin hown hK hG mg_o rfl 29 (by decide) (hts _ (List.mem_of_getElem? (i := 2) rfl)) (fun _ h9 => h9) rfl dX12_oneMore_86 ?_
        refine lv_iload hx hb dX12_oneMore_89 (lv_at hl 7 rfl) ?_
        obtain ⟨b91, hj82⟩ := gb_ix hj82
        refine gp_iald hx hb hK hG mg_litBy b91 dX12_oneMore_91 ?_
        refine lv_aload_n hx hb dX12_oneMore_92 rfl (lv_at hl 0 rfl) ?_
        obtain ⟨o93, hc93, hj82⟩ := gb_b hj82
        refine gp_callI (va_runV (As := []) (rest := [.int (a_litBy v8.toNatClampNeg), .int v7]) ⟨hx, hb, hml, hown, hts⟩ (c_X12_litBits (l := l) (D := D) (b := b) (M := M) (cI := cI) (cL := cL) hc93) (cwV 0 hts gX12_oneMore_X12_litBits rfl rfl rfl (by decide +kernel) ⟨Nat.le_of_ble_eq_true rfl, Nat.le_of_ble_eq_true rfl⟩) (gp_preV hKn hG mg_o rfl) rfl rfl hl.1 rfl (lv_room (Nat.le_of_ble_eq_true rfl)) dX12_oneMore_93 ⟨Nat.le_of_ble_eq_true rfl, Nat.le_of_ble_eq_true rfl⟩) hS (fun H locs hG hS => ?_)
        refine lv_iand hx hb dX12_oneMore_96 ?_
        refine lv_if_ne (tgt := 104) hx hb dX12_oneMore_97 (by decide) (fun c97 => ?_) (fun c97 => ?_)
        · have hj82 := gb_f c97 hj82
          refine lv_iconst (v := 0) hx hb dX12_oneMore_104 (by decide) ?_
          have hj82 := Option.some.inj hj82
          subst hj82
          exact hJ82 H locs ls hG hS (lv_sub hl [0, 1, 2, 3, 4, 5, 7] rfl)
        · have hj82 := gb_t c97 hj82
          refine lv_iconst (v := 1) hx hb dX12_oneMore_100 (by decide) ?_
          refine lv_goto (tgt := 105) hx hb dX12_oneMore_101 (by decide) ?_
          have hj82 := Option.some.inj hj82
          subst hj82
          exact hJ82 H locs ls hG hS (lv_sub hl [0, 1, 2, 3, 4, 5, 7] rfl)
set_option maxHeartbeats 4000000 in
set_option maxRecDepth 100000 in
theorem w_X12_oneMore_46 {α : Type} {R : α} {K138 : (Int32 × Int32 × (Nat → Int32) × (Nat → Int32) × (Nat → Int32) × Int32) → Option α} {v1 : Int32} {v2 : Int32} (X : gC p s m args meth c cX12_oneMore 9 (some .int) wsX12_oneMore RX12 D b (gTy cI cL)) : ∀ (n : Nat) (v4 : Int32) (v5 : Int32) (v6 : Int32) (a_far : Nat → Int32) (a_shut : Nat → Int32) (a_queue : Nat → Int32) (i_queued : Int32), L_X12_oneMore_46 K138 a_isWall a_lit i_lampMany a_litBy v1 v2 n v4 v5 v6 a_far a_shut a_queue i_queued = some R → (∀ (x : Int32 × Int32 × (Nat → Int32) × (Nat → Int32) × (Nat → Int32) × Int32), K138 x = some R → ∀ (H : Heap) (locs : List Loc) (ls : Array Slot), GP D b M (mg cI h0 a_refused a_isWall a_kind a_lampCell a_range a_lit a_scenes a_who a_cell a_minuteOf a_standsAt i_lampMany i_people i_minute a_tape a_letter a_letterAt a_told i_taped i_at i_statements a_kept i_hasImage i_isKeeping i_cursor x.2.2.1 x.2.2.2.1 x.2.2.2.2.1 x.2.2.2.2.2 a_litBy a_may a_row i_rowMany g0) H → va_S (gA b) s.heap H locs → lv_has ls 9 [(2, .int v2), (4, .int x.1), (5, .int x.2.1)] → W p l e rm_X12_oneMore s m args below meth c H locs 0 0 Q (F0 m 138 ls [])) → ∀ (H : Heap) (locs : List Loc) (ls : Array Slot), GP D b M (mg cI h0 a_refused a_isWall a_kind a_lampCell a_range a_lit a_scenes a_who a_cell a_minuteOf a_standsAt i_lampMany i_people i_minute a_tape a_letter a_letterAt a_told i_taped i_at i_statements a_kept i_hasImage i_isKeeping i_cursor a_far a_shut a_queue i_queued a_litBy a_may a_row i_rowMany g0) H → va_S (gA b) s.heap H locs → lv_has ls 9 [(0, .ref h0), (1, .int v1), (2, .int v2), (4, .int v4), (5, .int v5), (6, .int v6)] → W p l e rm_X12_oneMore s m args below meth c H locs 0 0 Q (F0 m 46 ls []) := by
  obtain ⟨hx, hb, hr, hml, hown, hts, hlocks, hKn, hBs⟩ := id X
  have hK := hKn.1
  have hin : ∀ w ∈ wsX120, w ∈ wsX12_oneMore := fun w h => List.mem_cons_of_mem _ (List.mem_append_right _ h)
  intro n
  induction n with
  | zero =>
    intro v4 v5 v6 a_far a_shut a_queue i_queued hf
    cases hf
  | succ n ih =>
    intro v4 v5 v6 a_far a_shut a_queue i_queued hf hk138 H locs ls hG hS hl
    rw [L_X12_oneMore_46.eq_2] at hf
    refine lv_iload hx hb dX12_oneMore_46 (lv_at hl 5 rfl) ?_
    refine lv_bipush (v := 36) hx hb dX12_oneMore_48 (by decide) ?_
    refine lv_icmp_ge (tgt := 138) hx hb dX12_oneMore_50 (by decide) (fun c50 => ?_) (fun c50 => ?_)
    · have hf := gb_t c50 hf
      exact hk138 _ hf _ _ _ hG hS (lv_sub hl [2, 3, 4] rfl)
    · have hf := gb_f c50 hf
      refine lv_aload_n hx hb dX12_oneMore_53 rfl (lv_at hl 0 rfl) ?_
      refine lv_iload hx hb dX12_oneMore_54 (lv_at hl 5 rfl) ?_
      refine lv_iload_n hx hb dX12_oneMore_56 rfl (lv_at hl 1 rfl) ?_
      obtain ⟨o57, hc57, hf⟩ := gb_b hf
      refine gp_callV (va_runV (As := [.int v6, .int v1]) (rest := []) ⟨hx, hb, hml, hown, hts⟩ (c_X12_findLight (l := l) (D := D) (b := b) (M := M) (cI := cI) (cL := cL) hc57) (cwV 2 hts gX12_oneMore_X12_findLight rfl rfl rfl (by decide +kernel) ⟨Nat.le_of_ble_eq_true rfl, Nat.le_of_ble_eq_true rfl⟩) (gp_preV hKn hG mg_o rfl) rfl rfl hl.1 rfl (lv_room (Nat.le_of_ble_eq_true rfl)) dX12_oneMore_57 ⟨Nat.le_of_ble_eq_true rfl, Nat.le_of_ble_eq_true rfl⟩) hS (fun H locs hG hS => ?_)
      refine lv_iconst (v := 0) hx hb dX12_oneMore_60 (by decide) ?_
      refine lv_istore (lv' := [(7, .int 0), (0, .ref h0), (1, .int v1), (2, .int v2), (4, .int v4), (5, .int v5), (6, .int v6)]) hx hb dX12_oneMore_61 hl (by decide) rfl (fun ls hl => ?_)
      refine lv_iconst (v := 0) hx hb dX12_oneMore_63 (by decide) ?_
      refine lv_istore (lv' := [(8, .int 0), (7, .int 0), (0, .ref h0), (1, .int v1), (2, .int v2), (4, .int v4), (5, .int v5), (6, .int v6)]) hx hb dX12_oneMore_64 hl (by decide) rfl (fun ls hl => ?_)
      refine w_X12_oneMore_66 X _ _ _ hf (fun x66_114 hf H locs ls hG hS hl => ?_) _ _ _ hG hS (lv_sub hl [2, 3, 4, 5, 6, 7, 1, 0] rfl)
      · refine lv_iload hx hb dX12_oneMore_114 (lv_at hl 6 rfl) ?_
        refine lv_iload hx hb dX12_oneMore_116 (lv_at hl 4 rfl) ?_
        obtain ⟨j118, hj118, hf⟩ := gb_b hf
        have hJ118 : ∀ (H : Heap) (locs : List Loc) (ls : Array Slot), GP D b M (mg cI h0 a_refused a_isWall a_kind a_lampCell a_range a_lit a_scenes a_who a_cell a_minuteOf a_standsAt i_lampMany i_people i_minute a_tape a_letter a_letterAt a_told i_taped i_at i_statements a_kept i_hasImage i_isKeeping i_cursor o57.1 o57.2.1 o57.2.2.1 o57.2.2.2 a_litBy a_may a_row i_rowMany g0) H → va_S (gA b) s.heap H locs → lv_has ls 9 [(0, .ref h0), (1, .int v1), (2, .int v2), (4, .int j118.1), (5, .int j118.2), (6, .int v6)] → W p l e rm_X12_oneMore s m args below meth c H locs 0 0 Q (F0 m 132 ls []) := by
          intro H locs ls hG hS hl
          refine lv_iinc (v := v6 + 1) (lv' := [(6, .int (v6 + 1)), (0, .ref h0), (1, .int v1), (2, .int v2), (4, .int j118.1), (5, .int j118.2)]) hx hb dX12_oneMore_132 hl (k := 5) rfl rfl (by decide) rfl (fun ls hl => ?_)
          refine lv_goto (tgt := 46) hx hb dX12_oneMore_135 (by decide) ?_
          exact ih _ _ _ _ _ _ _ hf hk138 _ _ _ hG hS (lv_sub hl [1, 2, 3, 4, 5, 0] rfl)
        refine lv_icmp_gt (tgt := 124) hx hb dX12_oneMore_118 (by decide) (fun c118 => ?_) (fun c118 => ?_)
        · have hj118 := gb_t c118 hj118
          refine lv_iload hx hb dX12_oneMore_124 (lv_at hl 5 rfl) ?_
          refine lv_istore (lv' := [(4, .int v6), (0, .ref h0), (1, .int v1), (2, .int v2), (5, .int v5), (6, .int v6), (7, .int x66_114)]) hx hb dX12_oneMore_126 hl (by decide) rfl (fun ls hl => ?_)
          refine lv_iload hx hb dX12_oneMore_128 (lv_at hl 6 rfl) ?_
          refine lv_istore (lv' := [(5, .int x66_114), (4, .int v6), (0, .ref h0), (1, .int v1), (2, .int v2), (6, .int v6), (7, .int x66_114)]) hx hb dX12_oneMore_130 hl (by decide) rfl (fun ls hl => ?_)
          have hj118 := Option.some.inj hj118
          subst hj118
          exact hJ118 H locs ls hG hS (lv_sub hl [2, 3, 4, 1, 0, 5] rfl)
        · have hj118 := gb_f c118 hj118
          refine lv_goto (tgt := 132) hx hb dX12_oneMore_121 (by decide) ?_
          have hj118 := Option.some.inj hj118
          subst hj118
          exact hJ118 H locs ls hG hS (lv_sub hl [0, 1, 2, 3, 4, 5] rfl)
set_option maxHeartbeats 4000000 in
set_option maxRecDepth 100000 in
theorem c_X12_oneMore {v1 : Int32} {v2 : Int32} {R : Int32 × (Nat → Int32) × (Nat → Int32) × (Nat → Int32) × (Nat → Int32) × Int32 × (Nat → Int32)} (hf : f_X12_oneMore a_refused a_isWall a_kind a_lampCell a_range a_lit a_standsAt i_lampMany i_people a_far a_shut a_queue i_queued a_litBy v1 v2 = some R) : Met l yX12_oneMore wsX12_oneMore rm_X12_oneMore (va_Pc [.ref h0, .int v1, .int v2] (gPre D b M (mg cI h0 a_refused a_isWall a_kind a_lampCell a_range a_lit a_scenes a_who a_cell a_minuteOf a_standsAt i_lampMany i_people i_minute a_tape a_letter a_letterAt a_told i_taped i_at i_statements a_kept i_hasImage i_isKeeping i_cursor a_far a_shut a_queue i_queued a_litBy a_may a_row i_rowMany g0) (gTy cI cL))) (gQ D b (some (.int R.1)) M (mg cI h0 R.2.1 a_isWall a_kind a_lampCell a_range a_lit a_scenes a_who a_cell a_minuteOf a_standsAt i_lampMany i_people i_minute a_tape a_letter a_letterAt a_told i_taped i_at i_statements a_kept i_hasImage i_isKeeping i_cursor R.2.2.1 R.2.2.2.1 R.2.2.2.2.1 R.2.2.2.2.2.1 R.2.2.2.2.2.2 a_may a_row i_rowMany g0)) 0 0 (gA b) := by
  refine gp_met (cc := cX12_oneMore) (maxL := 9) (ret := (some .int)) (by decide) rfl (Nat.le_of_ble_eq_true rfl) ?_
  intro p e s m below meth c X ls hG hl
  have hS : va_S (gA b) s.heap s.heap [] := va_S.rf
  obtain ⟨H, hH0⟩ : ∃ H : Heap, H = s.heap := ⟨_, rfl⟩
  rw [← hH0] at hG ⊢
  have hS : va_S (gA b) s.heap H [] := by rw [hH0]; exact va_S.rf
  obtain ⟨locs, hlo⟩ : ∃ z : List Loc, z = [] := ⟨_, rfl⟩
  rw [← hlo] at hS ⊢
  unfold f_X12_oneMore at hf
  obtain ⟨hx, hb, hr, hml, hown, hts, hlocks, hKn, hBs⟩ := id X
  have hK := hKn.1
  have hin : ∀ w ∈ wsX120, w ∈ wsX12_oneMore := fun w h => List.mem_cons_of_mem _ (List.mem_append_right _ h)
  have hl : lv_has ls 9 [(0, .ref h0), (1, .int v1), (2, .int v2)] := hl
  refine lv_iload_n hx hb dX12_oneMore_0 rfl (lv_at hl 1 rfl) ?_
  refine lv_iconst (v := 0) hx hb dX12_oneMore_1 (by decide) ?_
  refine lv_iconst (v := 5) hx hb dX12_oneMore_2 (by decide) ?_
  obtain ⟨o3, hc3, hf⟩ := gb_b hf
  refine gp_callI (va_runS (As := [.int v1, .int 0, .int 5]) (rest := []) ⟨hx, hb, hml, hown, hts⟩ (c_X12_bound (l := l) (D := D) (b := b) (M := M) (cI := cI) (cL := cL) hc3) (va_cwS 3 hts gX12_oneMore_X12_bound rfl rfl rfl (by decide +kernel) ⟨Nat.le_of_ble_eq_true rfl, Nat.le_of_ble_eq_true rfl⟩) (gp_preS hKn hG) rfl rfl hl.1 rfl (lv_room (Nat.le_of_ble_eq_true rfl)) dX12_oneMore_3 ⟨Nat.le_of_ble_eq_true rfl, Nat.le_of_ble_eq_true rfl⟩) hS (fun H locs hG hS => ?_)
  refine lv_istore_n (lv' := [(3, .int o3), (0, .ref h0), (1, .int v1), (2, .int v2)]) hx hb dX12_oneMore_6 rfl hl (by decide) rfl (fun ls hl => ?_)
  refine lv_iload_n hx hb dX12_oneMore_7 rfl (lv_at hl 0 rfl) ?_
  obtain ⟨j8, hj8, hf⟩ := gb_b hf
  have hJ8 : ∀ (H : Heap) (locs : List Loc) (ls : Array Slot), GP D b M (mg cI h0 a_refused a_isWall a_kind a_lampCell a_range a_lit a_scenes a_who a_cell a_minuteOf a_standsAt i_lampMany i_people i_minute a_tape a_letter a_letterAt a_told i_taped i_at i_statements a_kept i_hasImage i_isKeeping i_cursor a_far a_shut a_queue i_queued a_litBy a_may a_row i_rowMany g0) H → va_S (gA b) s.heap H locs → lv_has ls 9 [(0, .ref h0), (1, .int v1), (2, .int v2), (3, .int j8)] → W p l e rm_X12_oneMore s m [.ref h0, .int v1, .int v2].toArray below meth c H locs 0 0 (MQ below (gQ D b (some (.int R.1)) M (mg cI h0 R.2.1 a_isWall a_kind a_lampCell a_range a_lit a_scenes a_who a_cell a_minuteOf a_standsAt i_lampMany i_people i_minute a_tape a_letter a_letterAt a_told i_taped i_at i_statements a_kept i_hasImage i_isKeeping i_cursor R.2.2.1 R.2.2.2.1 R.2.2.2.2.1 R.2.2.2.2.2.1 R.2.2.2.2.2.2 a_may a_row i_rowMany g0)) [.ref h0, .int v1, .int v2].toArray s 0 0 (gA b)) (F0 m 23 ls []) := by
    intro H locs ls hG hS hl
    refine lv_iload_n hx hb dX12_oneMore_23 rfl (lv_at hl 3 rfl) ?_
    refine lv_if_eq (tgt := 33) hx hb dX12_oneMore_24 (by decide) (fun c24 => ?_) (fun c24 => ?_)
    · have hf := gb_t c24 hf
      refine lv_aload_n hx hb dX12_oneMore_33 rfl (lv_at hl 0 rfl) ?_
      obtain ⟨o34, hc34, hf⟩ := gb_b hf
      refine gp_callV (va_runV (As := []) (rest := []) ⟨hx, hb, hml, hown, hts⟩ (c_X12_findLit (l := l) (D := D) (b := b) (M := M) (cI := cI) (cL := cL) hc34) (cwV 0 hts gX12_oneMore_X12_findLit rfl rfl rfl (by decide +kernel) ⟨Nat.le_of_ble_eq_true rfl, Nat.le_of_ble_eq_true rfl⟩) (gp_preV hKn hG mg_o rfl) rfl rfl hl.1 rfl (lv_room (Nat.le_of_ble_eq_true rfl)) dX12_oneMore_34 ⟨Nat.le_of_ble_eq_true rfl, Nat.le_of_ble_eq_true rfl⟩) hS (fun H locs hG hS => ?_)
      refine lv_iconst (v := 0) hx hb dX12_oneMore_37 (by decide) ?_
      refine lv_istore (lv' := [(4, .int 0), (0, .ref h0), (1, .int v1), (2, .int v2), (3, .int j8)]) hx hb dX12_oneMore_38 hl (by decide) rfl (fun ls hl => ?_)
      refine lv_iconst (v := (-1 : Int32)) hx hb dX12_oneMore_40 (by decide) ?_
      refine lv_istore (lv' := [(5, .int (-1 : Int32)), (4, .int 0), (0, .ref h0), (1, .int v1), (2, .int v2), (3, .int j8)]) hx hb dX12_oneMore_41 hl (by decide) rfl (fun ls hl => ?_)
      refine lv_iconst (v := 0) hx hb dX12_oneMore_43 (by decide) ?_
      refine lv_istore (lv' := [(6, .int 0), (5, .int (-1 : Int32)), (4, .int 0), (0, .ref h0), (1, .int v1), (2, .int v2), (3, .int j8)]) hx hb dX12_oneMore_44 hl (by decide) rfl (fun ls hl => ?_)
      refine w_X12_oneMore_46 X _ _ _ _ _ _ _ _ hf (fun x46_138 hf H locs ls hG hS hl => ?_) _ _ _ hG hS (lv_sub hl [3, 4, 5, 2, 1, 0] rfl)
      · refine lv_iload_n hx hb dX12_oneMore_138 rfl (lv_at hl 0 rfl) ?_
        have hJ139 : ∀ Z : Int32, Z = (if v2 = 0 then x46_138.2.1 else x46_138.1) → W p l e rm_X12_oneMore s m [.ref h0, .int v1, .int v2].toArray below meth c H locs 0 0 (MQ below (gQ D b (some (.int R.1)) M (mg cI h0 R.2.1 a_isWall a_kind a_lampCell a_range a_lit a_scenes a_who a_cell a_minuteOf a_standsAt i_lampMany i_people i_minute a_tape a_letter a_letterAt a_told i_taped i_at i_statements a_kept i_hasImage i_isKeeping i_cursor R.2.2.1 R.2.2.2.1 R.2.2.2.2.1 R.2.2.2.2.2.1 R.2.2.2.2.2.2 a_may a_row i_rowMany g0)) [.ref h0, .int v1, .int v2].toArray s 0 0 (gA b)) (F0 m 149 ls (.int Z :: [])) := by
          intro Z hZ
          subst hZ
          have hf := Option.some.inj hf
          subst hf
          exact gp_retI hx hb hr hlocks hG hS (Nat.le_refl _) (Nat.le_refl _) dX12_oneMore_149
        refine lv_if_ne (tgt := 147) hx hb dX12_oneMore_139 (by decide) (fun c139 => ?_) (fun c139 => ?_)
        · rw [if_neg c139] at hJ139
          refine lv_iload hx hb dX12_oneMore_147 (lv_at hl 1 rfl) ?_
          exact hJ139 _ rfl
        · rw [if_pos c139] at hJ139
          refine lv_iload hx hb dX12_oneMore_142 (lv_at hl 2 rfl) ?_
          refine lv_goto (tgt := 149) hx hb dX12_oneMore_144 (by decide) ?_
          exact hJ139 _ rfl
    · have hf := gb_f c24 hf
      refine lv_aload_n hx hb dX12_oneMore_27 rfl (lv_at hl 0 rfl) ?_
      refine lv_iload_n hx hb dX12_oneMore_28 rfl (lv_at hl 3 rfl) ?_
      obtain ⟨o29, hc29, hf⟩ := gb_b hf
      refine gp_callI (va_runV (As := [.int j8]) (rest := []) ⟨hx, hb, hml, hown, hts⟩ (c_X12_no (l := l) (D := D) (b := b) (M := M) (cI := cI) (cL := cL) hc29) (cwV 1 hts gX12_oneMore_X12_no rfl rfl rfl (by decide +kernel) ⟨Nat.le_of_ble_eq_true rfl, Nat.le_of_ble_eq_true rfl⟩) (gp_preV hKn hG mg_o rfl) rfl rfl hl.1 rfl (lv_room (Nat.le_of_ble_eq_true rfl)) dX12_oneMore_29 ⟨Nat.le_of_ble_eq_true rfl, Nat.le_of_ble_eq_true rfl⟩) hS (fun H locs hG hS => ?_)
      have hf := Option.some.inj hf
      subst hf
      exact gp_retI hx hb hr hlocks hG hS (Nat.le_refl _) (Nat.le_refl _) dX12_oneMore_32
  refine lv_if_ne (tgt := 23) hx hb dX12_oneMore_8 (by decide) (fun c8 => ?_) (fun c8 => ?_)
  · have hj8 := gb_f c8 hj8
    have hj8 := Option.some.inj hj8
    subst hj8
    exact hJ8 H locs ls hG hS (lv_sub hl [1, 2, 3, 0] rfl)
  · have hj8 := gb_t c8 hj8
    refine lv_iload_n hx hb dX12_oneMore_11 rfl (lv_at hl 3 rfl) ?_
    refine lv_iconst (v := 0) hx hb dX12_oneMore_12 (by decide) ?_
    refine lv_iconst (v := 1) hx hb dX12_oneMore_13 (by decide) ?_
    obtain ⟨o14, hc14, hj8⟩ := gb_b hj8
    refine gp_callI (va_runS (As := [.int v2, .int 0, .int 1]) (rest := []) ⟨hx, hb, hml, hown, hts⟩ (c_X12_isIn (l := l) (D := D) (b := b) (M := M) (cI := cI) (cL := cL) hc14) (va_cwS 3 hts gX12_oneMore_X12_isIn rfl rfl rfl (by decide +kernel) ⟨Nat.le_of_ble_eq_true rfl, Nat.le_of_ble_eq_true rfl⟩) (gp_preS hKn hG) rfl rfl hl.1 rfl (lv_room (Nat.le_of_ble_eq_true rfl)) dX12_oneMore_14 ⟨Nat.le_of_ble_eq_true rfl, Nat.le_of_ble_eq_true rfl⟩) hS (fun H locs hG hS => ?_)
    refine lv_if_ne (tgt := 23) hx hb dX12_oneMore_17 (by decide) (fun c17 => ?_) (fun c17 => ?_)
    · have hj8 := gb_f c17 hj8
      have hj8 := Option.some.inj hj8
      subst hj8
      exact hJ8 H locs ls hG hS (lv_sub hl [1, 2, 3, 0] rfl)
    · have hj8 := gb_t c17 hj8
      refine lv_bipush (v := (-2 : Int32)) hx hb dX12_oneMore_20 (by decide) ?_
      refine lv_istore_n (lv' := [(3, .int (-2 : Int32)), (0, .ref h0), (1, .int v1), (2, .int v2)]) hx hb dX12_oneMore_22 rfl hl (by decide) rfl (fun ls hl => ?_)
      have hj8 := Option.some.inj hj8
      subst hj8
      exact hJ8 H locs ls hG hS (lv_sub hl [1, 2, 3, 0] rfl)
-- X12_hasScene
abbrev rm_X12_hasScene : Room := { frames := 0, cells := 0, slots := 0, locals := 0 }
set_option maxHeartbeats 4000000 in
set_option maxRecDepth 100000 in
theorem w_X12_hasScene_6 {α : Type} {R : α} {K44 : Unit → Option α} {K52 : Unit → Option α} {v1 : Int32} {v2 : Int32} {v3 : Int32} (X : gC p s m args meth c cX12_hasScene 5 (some .boolean) wsX12_hasScene RX12 D b (gTy cI cL)) : ∀ (n : Nat) (v4 : Int32), L_X12_hasScene_6 K44 K52 a_scenes a_cell a_minuteOf v1 v2 v3 n v4 = some R → (∀ (x : Unit), K44 x = some R → ∀ (H : Heap) (locs : List Loc) (ls : Array Slot), GP D b M (mg cI h0 a_refused a_isWall a_kind a_lampCell a_range a_lit a_scenes a_who a_cell a_minuteOf a_standsAt i_lampMany i_people i_minute a_tape a_letter a_letterAt a_told i_taped i_at i_statements a_kept i_hasImage i_isKeeping i_cursor a_far a_shut a_queue i_queued a_litBy a_may a_row i_rowMany g0) H → va_S (gA b) s.heap H locs → lv_has ls 5 [] → W p l e rm_X12_hasScene s m args below meth c H locs 0 0 Q (F0 m 44 ls [])) → (∀ (x : Unit), K52 x = some R → ∀ (H : Heap) (locs : List Loc) (ls : Array Slot), GP D b M (mg cI h0 a_refused a_isWall a_kind a_lampCell a_range a_lit a_scenes a_who a_cell a_minuteOf a_standsAt i_lampMany i_people i_minute a_tape a_letter a_letterAt a_told i_taped i_at i_statements a_kept i_hasImage i_isKeeping i_cursor a_far a_shut a_queue i_queued a_litBy a_may a_row i_rowMany g0) H → va_S (gA b) s.heap H locs → lv_has ls 5 [] → W p l e rm_X12_hasScene s m args below meth c H locs 0 0 Q (F0 m 52 ls [])) → ∀ (H : Heap) (locs : List Loc) (ls : Array Slot), GP D b M (mg cI h0 a_refused a_isWall a_kind a_lampCell a_range a_lit a_scenes a_who a_cell a_minuteOf a_standsAt i_lampMany i_people i_minute a_tape a_letter a_letterAt a_told i_taped i_at i_statements a_kept i_hasImage i_isKeeping i_cursor a_far a_shut a_queue i_queued a_litBy a_may a_row i_rowMany g0) H → va_S (gA b) s.heap H locs → lv_has ls 5 [(0, .ref h0), (1, .int v1), (2, .int v2), (3, .int v3), (4, .int v4)] → W p l e rm_X12_hasScene s m args below meth c H locs 0 0 Q (F0 m 6 ls []) := by
  obtain ⟨hx, hb, hr, hml, hown, hts, hlocks, hKn, hBs⟩ := id X
  have hK := hKn.1
  have hin : ∀ w ∈ wsX120, w ∈ wsX12_hasScene := fun w h => List.mem_cons_of_mem _ (List.mem_append_right _ h)
  intro n
  induction n with
  | zero =>
    intro v4 hf
    cases hf
  | succ n ih =>
    intro v4 hf hk44 hk52 H locs ls hG hS hl
    rw [L_X12_hasScene_6.eq_2] at hf
    refine lv_iload hx hb dX12_hasScene_6 (lv_at hl 4 rfl) ?_
    refine lv_bipush (v := 9) hx hb dX12_hasScene_8 (by decide) ?_
    refine lv_iload_n hx hb dX12_hasScene_10 rfl (lv_at hl 1 rfl) ?_
    refine lv_imul hx hb dX12_hasScene_11 ?_
    refine lv_aload_n hx hb dX12_hasScene_12 rfl (lv_at hl 0 rfl) ?_
    refine gp_get (v := .ref (h0 + 7)) (C := RX12) (T := TX12) (N := 33) (ci := 10) hx hb hts hin hown hK hG mg_o rfl 6 (by decide) (hts _ (List.mem_of_getElem? (i := 1) rfl)) (fun _ h9 => h9) rfl dX12_hasScene_13 ?_
    refine lv_iload_n hx hb dX12_hasScene_16 rfl (lv_at hl 1 rfl) ?_
    obtain ⟨b17, hf⟩ := gb_ix hf
    refine gp_iald hx hb hK hG mg_scenes b17 dX12_hasScene_17 ?_
    refine lv_iadd hx hb dX12_hasScene_18 ?_
    refine lv_icmp_ge (tgt := 52) hx hb dX12_hasScene_19 (by decide) (fun c19 => ?_) (fun c19 => ?_)
    · have hf := gb_t c19 hf
      exact hk52 _ hf _ _ _ hG hS (lv_sub hl [] rfl)
    · have hf := gb_f c19 hf
      refine lv_aload_n hx hb dX12_hasScene_22 rfl (lv_at hl 0 rfl) ?_
      refine gp_get (v := .ref (h0 + 9)) (C := RX12) (T := TX12) (N := 33) (ci := 10) hx hb hts hin hown hK hG mg_o rfl 8 (by decide) (hts _ (List.mem_of_getElem? (i := 2) rfl)) (fun _ h9 => h9) rfl dX12_hasScene_23 ?_
      refine lv_iload hx hb dX12_hasScene_26 (lv_at hl 4 rfl) ?_
      obtain ⟨b28, hf⟩ := gb_ix hf
      refine gp_iald hx hb hK hG mg_cell b28 dX12_hasScene_28 ?_
      refine lv_iload_n hx hb dX12_hasScene_29 rfl (lv_at hl 2 rfl) ?_
      refine lv_icmp_ne (tgt := 46) hx hb dX12_hasScene_30 (by decide) (fun c30 => ?_) (fun c30 => ?_)
      · have hf := gb_f c30 hf
        refine lv_iinc (v := v4 + 1) (lv' := [(4, .int (v4 + 1)), (0, .ref h0), (1, .int v1), (2, .int v2), (3, .int v3)]) hx hb dX12_hasScene_46 hl (k := 4) rfl rfl (by decide) rfl (fun ls hl => ?_)
        refine lv_goto (tgt := 6) hx hb dX12_hasScene_49 (by decide) ?_
        exact ih _ hf hk44 hk52 _ _ _ hG hS (lv_sub hl [1, 2, 3, 4, 0] rfl)
      · have hf := gb_t c30 hf
        refine lv_aload_n hx hb dX12_hasScene_33 rfl (lv_at hl 0 rfl) ?_
        refine gp_get (v := .ref (h0 + 10)) (C := RX12) (T := TX12) (N := 33) (ci := 10) hx hb hts hin hown hK hG mg_o rfl 9 (by decide) (hts _ (List.mem_of_getElem? (i := 3) rfl)) (fun _ h9 => h9) rfl dX12_hasScene_34 ?_
        refine lv_iload hx hb dX12_hasScene_37 (lv_at hl 4 rfl) ?_
        obtain ⟨b39, hf⟩ := gb_ix hf
        refine gp_iald hx hb hK hG mg_minuteOf b39 dX12_hasScene_39 ?_
        refine lv_iload_n hx hb dX12_hasScene_40 rfl (lv_at hl 3 rfl) ?_
        refine lv_icmp_ne (tgt := 46) hx hb dX12_hasScene_41 (by decide) (fun c41 => ?_) (fun c41 => ?_)
        · have hf := gb_f c41 hf
          refine lv_iinc (v := v4 + 1) (lv' := [(4, .int (v4 + 1)), (0, .ref h0), (1, .int v1), (2, .int v2), (3, .int v3)]) hx hb dX12_hasScene_46 hl (k := 4) rfl rfl (by decide) rfl (fun ls hl => ?_)
          refine lv_goto (tgt := 6) hx hb dX12_hasScene_49 (by decide) ?_
          exact ih _ hf hk44 hk52 _ _ _ hG hS (lv_sub hl [1, 2, 3, 4, 0] rfl)
        · have hf := gb_t c41 hf
          exact hk44 _ hf _ _ _ hG hS (lv_sub hl [] rfl)
set_option maxHeartbeats 4000000 in
set_option maxRecDepth 100000 in
theorem c_X12_hasScene {v1 : Int32} {v2 : Int32} {v3 : Int32} {R : Int32} (hf : f_X12_hasScene a_scenes a_cell a_minuteOf v1 v2 v3 = some R) : Met l yX12_hasScene wsX12_hasScene rm_X12_hasScene (va_Pc [.ref h0, .int v1, .int v2, .int v3] (gPre D b M (mg cI h0 a_refused a_isWall a_kind a_lampCell a_range a_lit a_scenes a_who a_cell a_minuteOf a_standsAt i_lampMany i_people i_minute a_tape a_letter a_letterAt a_told i_taped i_at i_statements a_kept i_hasImage i_isKeeping i_cursor a_far a_shut a_queue i_queued a_litBy a_may a_row i_rowMany g0) (gTy cI cL))) (gQ D b (some (.int R)) M (mg cI h0 a_refused a_isWall a_kind a_lampCell a_range a_lit a_scenes a_who a_cell a_minuteOf a_standsAt i_lampMany i_people i_minute a_tape a_letter a_letterAt a_told i_taped i_at i_statements a_kept i_hasImage i_isKeeping i_cursor a_far a_shut a_queue i_queued a_litBy a_may a_row i_rowMany g0)) 0 0 (gA b) := by
  refine gp_met (cc := cX12_hasScene) (maxL := 5) (ret := (some .boolean)) (by decide) rfl (Nat.le_of_ble_eq_true rfl) ?_
  intro p e s m below meth c X ls hG hl
  have hS : va_S (gA b) s.heap s.heap [] := va_S.rf
  obtain ⟨H, hH0⟩ : ∃ H : Heap, H = s.heap := ⟨_, rfl⟩
  rw [← hH0] at hG ⊢
  have hS : va_S (gA b) s.heap H [] := by rw [hH0]; exact va_S.rf
  obtain ⟨locs, hlo⟩ : ∃ z : List Loc, z = [] := ⟨_, rfl⟩
  rw [← hlo] at hS ⊢
  unfold f_X12_hasScene at hf
  obtain ⟨hx, hb, hr, hml, hown, hts, hlocks, hKn, hBs⟩ := id X
  have hK := hKn.1
  have hin : ∀ w ∈ wsX120, w ∈ wsX12_hasScene := fun w h => List.mem_cons_of_mem _ (List.mem_append_right _ h)
  have hl : lv_has ls 5 [(0, .ref h0), (1, .int v1), (2, .int v2), (3, .int v3)] := hl
  refine lv_bipush (v := 9) hx hb dX12_hasScene_0 (by decide) ?_
  refine lv_iload_n hx hb dX12_hasScene_2 rfl (lv_at hl 1 rfl) ?_
  refine lv_imul hx hb dX12_hasScene_3 ?_
  refine lv_istore (lv' := [(4, .int (9 * v1)), (0, .ref h0), (1, .int v1), (2, .int v2), (3, .int v3)]) hx hb dX12_hasScene_4 hl (by decide) rfl (fun ls hl => ?_)
  refine w_X12_hasScene_6 X _ _ hf (fun x6_44 hf H locs ls hG hS hl => ?_) (fun x6_52 hf H locs ls hG hS hl => ?_) _ _ _ hG hS (lv_sub hl [1, 2, 3, 4, 0] rfl)
  · refine lv_iconst (v := 1) hx hb dX12_hasScene_44 (by decide) ?_
    have hf := Option.some.inj hf
    subst hf
    exact gp_retZ hx hb hr (Or.inr rfl) hlocks hG hS (Nat.le_refl _) (Nat.le_refl _) dX12_hasScene_45
  · refine lv_iconst (v := 0) hx hb dX12_hasScene_52 (by decide) ?_
    have hf := Option.some.inj hf
    subst hf
    exact gp_retZ hx hb hr (Or.inl rfl) hlocks hG hS (Nat.le_refl _) (Nat.le_refl _) dX12_hasScene_53
-- X12_two
abbrev rm_X12_two : Room := { frames := 1, cells := 0, slots := 0, locals := 24 }
set_option maxHeartbeats 4000000 in
set_option maxRecDepth 100000 in
theorem w_X12_two_30 {α : Type} {R : α} {K82 : Int32 → Option α} {v1 : Int32} {v2 : Int32} (X : gC p s m args meth c cX12_two 5 (some .int) wsX12_two RX12 D b (gTy cI cL)) : ∀ (n : Nat) (v3 : Int32) (v4 : Int32), L_X12_two_30 K82 a_scenes a_cell a_minuteOf v1 v2 n v3 v4 = some R → (∀ (x : Int32), K82 x = some R → ∀ (H : Heap) (locs : List Loc) (ls : Array Slot), GP D b M (mg cI h0 a_refused a_isWall a_kind a_lampCell a_range a_lit a_scenes a_who a_cell a_minuteOf a_standsAt i_lampMany i_people i_minute a_tape a_letter a_letterAt a_told i_taped i_at i_statements a_kept i_hasImage i_isKeeping i_cursor a_far a_shut a_queue i_queued a_litBy a_may a_row i_rowMany g0) H → va_S (gA b) s.heap H locs → lv_has ls 5 [(3, .int x)] → W p l e rm_X12_two s m args below meth c H locs 0 0 Q (F0 m 82 ls [])) → ∀ (H : Heap) (locs : List Loc) (ls : Array Slot), GP D b M (mg cI h0 a_refused a_isWall a_kind a_lampCell a_range a_lit a_scenes a_who a_cell a_minuteOf a_standsAt i_lampMany i_people i_minute a_tape a_letter a_letterAt a_told i_taped i_at i_statements a_kept i_hasImage i_isKeeping i_cursor a_far a_shut a_queue i_queued a_litBy a_may a_row i_rowMany g0) H → va_S (gA b) s.heap H locs → lv_has ls 5 [(0, .ref h0), (1, .int v1), (2, .int v2), (3, .int v3), (4, .int v4)] → W p l e rm_X12_two s m args below meth c H locs 0 0 Q (F0 m 30 ls []) := by
  obtain ⟨hx, hb, hr, hml, hown, hts, hlocks, hKn, hBs⟩ := id X
  have hK := hKn.1
  have hin : ∀ w ∈ wsX120, w ∈ wsX12_two := fun w h => List.mem_cons_of_mem _ (List.mem_append_right _ h)
  intro n
  induction n with
  | zero =>
    intro v3 v4 hf
    cases hf
  | succ n ih =>
    intro v3 v4 hf hk82 H locs ls hG hS hl
    rw [L_X12_two_30.eq_2] at hf
    refine lv_iload hx hb dX12_two_30 (lv_at hl 4 rfl) ?_
    refine lv_bipush (v := 9) hx hb dX12_two_32 (by decide) ?_
    refine lv_iload_n hx hb dX12_two_34 rfl (lv_at hl 1 rfl) ?_
    refine lv_imul hx hb dX12_two_35 ?_
    refine lv_aload_n hx hb dX12_two_36 rfl (lv_at hl 0 rfl) ?_
    refine gp_get (v := .ref (h0 + 7)) (C := RX12) (T := TX12) (N := 33) (ci := 10) hx hb hts hin hown hK hG mg_o rfl 6 (by decide) (hts _ (List.mem_of_getElem? (i := 1) rfl)) (fun _ h9 => h9) rfl dX12_two_37 ?_
    refine lv_iload_n hx hb dX12_two_40 rfl (lv_at hl 1 rfl) ?_
    obtain ⟨b41, hf⟩ := gb_ix hf
    refine gp_iald hx hb hK hG mg_scenes b41 dX12_two_41 ?_
    refine lv_iadd hx hb dX12_two_42 ?_
    refine lv_icmp_ge (tgt := 82) hx hb dX12_two_43 (by decide) (fun c43 => ?_) (fun c43 => ?_)
    · have hf := gb_t c43 hf
      exact hk82 _ hf _ _ _ hG hS (lv_sub hl [3] rfl)
    · have hf := gb_f c43 hf
      refine lv_iload_n hx hb dX12_two_46 rfl (lv_at hl 3 rfl) ?_
      refine lv_aload_n hx hb dX12_two_47 rfl (lv_at hl 0 rfl) ?_
      refine lv_iload_n hx hb dX12_two_48 rfl (lv_at hl 2 rfl) ?_
      refine lv_aload_n hx hb dX12_two_49 rfl (lv_at hl 0 rfl) ?_
      refine gp_get (v := .ref (h0 + 9)) (C := RX12) (T := TX12) (N := 33) (ci := 10) hx hb hts hin hown hK hG mg_o rfl 8 (by decide) (hts _ (List.mem_of_getElem? (i := 2) rfl)) (fun _ h9 => h9) rfl dX12_two_50 ?_
      refine lv_iload hx hb dX12_two_53 (lv_at hl 4 rfl) ?_
      obtain ⟨b55, hf⟩ := gb_ix hf
      refine gp_iald hx hb hK hG mg_cell b55 dX12_two_55 ?_
      refine lv_aload_n hx hb dX12_two_56 rfl (lv_at hl 0 rfl) ?_
      refine gp_get (v := .ref (h0 + 10)) (C := RX12) (T := TX12) (N := 33) (ci := 10) hx hb hts hin hown hK hG mg_o rfl 9 (by decide) (hts _ (List.mem_of_getElem? (i := 3) rfl)) (fun _ h9 => h9) rfl dX12_two_57 ?_
      refine lv_iload hx hb dX12_two_60 (lv_at hl 4 rfl) ?_
      obtain ⟨b62, hf⟩ := gb_ix hf
      refine gp_iald hx hb hK hG mg_minuteOf b62 dX12_two_62 ?_
      obtain ⟨o63, hc63, hf⟩ := gb_b hf
      refine gp_callI (va_runV (As := [.int v2, .int (a_cell v4.toNatClampNeg), .int (a_minuteOf v4.toNatClampNeg)]) (rest := [.int v3]) ⟨hx, hb, hml, hown, hts⟩ (c_X12_hasScene (l := l) (D := D) (b := b) (M := M) (cI := cI) (cL := cL) hc63) (cwV 3 hts gX12_two_X12_hasScene rfl rfl rfl (by decide +kernel) ⟨Nat.le_of_ble_eq_true rfl, Nat.le_of_ble_eq_true rfl⟩) (gp_preV hKn hG mg_o rfl) rfl rfl hl.1 rfl (lv_room (Nat.le_of_ble_eq_true rfl)) dX12_two_63 ⟨Nat.le_of_ble_eq_true rfl, Nat.le_of_ble_eq_true rfl⟩) hS (fun H locs hG hS => ?_)
      have hJ66 : ∀ Z : Int32, Z = (if o63 = 0 then 0 else 1) → W p l e rm_X12_two s m args below meth c H locs 0 0 Q (F0 m 74 ls (.int Z :: [.int v3])) := by
        intro Z hZ
        subst hZ
        refine lv_iadd hx hb dX12_two_74 ?_
        refine lv_istore_n (lv' := [(3, .int (v3 + (if o63 = 0 then 0 else 1))), (0, .ref h0), (1, .int v1), (2, .int v2), (4, .int v4)]) hx hb dX12_two_75 rfl hl (by decide) rfl (fun ls hl => ?_)
        refine lv_iinc (v := v4 + 1) (lv' := [(4, .int (v4 + 1)), (3, .int (v3 + (if o63 = 0 then 0 else 1))), (0, .ref h0), (1, .int v1), (2, .int v2)]) hx hb dX12_two_76 hl (k := 4) rfl rfl (by decide) rfl (fun ls hl => ?_)
        refine lv_goto (tgt := 30) hx hb dX12_two_79 (by decide) ?_
        exact ih _ _ hf hk82 _ _ _ hG hS (lv_sub hl [2, 3, 4, 1, 0] rfl)
      refine lv_if_eq (tgt := 73) hx hb dX12_two_66 (by decide) (fun c66 => ?_) (fun c66 => ?_)
      · rw [if_pos c66] at hJ66
        refine lv_iconst (v := 0) hx hb dX12_two_73 (by decide) ?_
        exact hJ66 _ rfl
      · rw [if_neg c66] at hJ66
        refine lv_iconst (v := 1) hx hb dX12_two_69 (by decide) ?_
        refine lv_goto (tgt := 74) hx hb dX12_two_70 (by decide) ?_
        exact hJ66 _ rfl
set_option maxHeartbeats 4000000 in
set_option maxRecDepth 100000 in
theorem c_X12_two {v1 : Int32} {v2 : Int32} {R : Int32 × (Nat → Int32)} (hf : f_X12_two a_refused a_scenes a_cell a_minuteOf i_lampMany v1 v2 = some R) : Met l yX12_two wsX12_two rm_X12_two (va_Pc [.ref h0, .int v1, .int v2] (gPre D b M (mg cI h0 a_refused a_isWall a_kind a_lampCell a_range a_lit a_scenes a_who a_cell a_minuteOf a_standsAt i_lampMany i_people i_minute a_tape a_letter a_letterAt a_told i_taped i_at i_statements a_kept i_hasImage i_isKeeping i_cursor a_far a_shut a_queue i_queued a_litBy a_may a_row i_rowMany g0) (gTy cI cL))) (gQ D b (some (.int R.1)) M (mg cI h0 R.2 a_isWall a_kind a_lampCell a_range a_lit a_scenes a_who a_cell a_minuteOf a_standsAt i_lampMany i_people i_minute a_tape a_letter a_letterAt a_told i_taped i_at i_statements a_kept i_hasImage i_isKeeping i_cursor a_far a_shut a_queue i_queued a_litBy a_may a_row i_rowMany g0)) 0 0 (gA b) := by
  refine gp_met (cc := cX12_two) (maxL := 5) (ret := (some .int)) (by decide) rfl (Nat.le_of_ble_eq_true rfl) ?_
  intro p e s m below meth c X ls hG hl
  have hS : va_S (gA b) s.heap s.heap [] := va_S.rf
  obtain ⟨H, hH0⟩ : ∃ H : Heap, H = s.heap := ⟨_, rfl⟩
  rw [← hH0] at hG ⊢
  have hS : va_S (gA b) s.heap H [] := by rw [hH0]; exact va_S.rf
  obtain ⟨locs, hlo⟩ : ∃ z : List Loc, z = [] := ⟨_, rfl⟩
  rw [← hlo] at hS ⊢
  unfold f_X12_two at hf
  obtain ⟨hx, hb, hr, hml, hown, hts, hlocks, hKn, hBs⟩ := id X
  have hK := hKn.1
  have hin : ∀ w ∈ wsX120, w ∈ wsX12_two := fun w h => List.mem_cons_of_mem _ (List.mem_append_right _ h)
  have hl : lv_has ls 5 [(0, .ref h0), (1, .int v1), (2, .int v2)] := hl
  refine lv_aload_n hx hb dX12_two_0 rfl (lv_at hl 0 rfl) ?_
  refine lv_iload_n hx hb dX12_two_1 rfl (lv_at hl 1 rfl) ?_
  obtain ⟨o2, hc2, hf⟩ := gb_b hf
  refine gp_callI (va_runV (As := [.int v1]) (rest := []) ⟨hx, hb, hml, hown, hts⟩ (c_X12_isLamp (l := l) (D := D) (b := b) (M := M) (cI := cI) (cL := cL) hc2) (cwV 1 hts gX12_two_X12_isLamp rfl rfl rfl (by decide +kernel) ⟨Nat.le_of_ble_eq_true rfl, Nat.le_of_ble_eq_true rfl⟩) (gp_preV hKn hG mg_o rfl) rfl rfl hl.1 rfl (lv_room (Nat.le_of_ble_eq_true rfl)) dX12_two_2 ⟨Nat.le_of_ble_eq_true rfl, Nat.le_of_ble_eq_true rfl⟩) hS (fun H locs hG hS => ?_)
  refine lv_if_eq (tgt := 16) hx hb dX12_two_5 (by decide) (fun c5 => ?_) (fun c5 => ?_)
  · have hf := gb_t c5 hf
    refine lv_aload_n hx hb dX12_two_16 rfl (lv_at hl 0 rfl) ?_
    refine lv_iconst (v := (-1 : Int32)) hx hb dX12_two_17 (by decide) ?_
    obtain ⟨o18, hc18, hf⟩ := gb_b hf
    refine gp_callI (va_runV (As := [.int (-1 : Int32)]) (rest := []) ⟨hx, hb, hml, hown, hts⟩ (c_X12_no (l := l) (D := D) (b := b) (M := M) (cI := cI) (cL := cL) hc18) (cwV 1 hts gX12_two_X12_no rfl rfl rfl (by decide +kernel) ⟨Nat.le_of_ble_eq_true rfl, Nat.le_of_ble_eq_true rfl⟩) (gp_preV hKn hG mg_o rfl) rfl rfl hl.1 rfl (lv_room (Nat.le_of_ble_eq_true rfl)) dX12_two_18 ⟨Nat.le_of_ble_eq_true rfl, Nat.le_of_ble_eq_true rfl⟩) hS (fun H locs hG hS => ?_)
    have hf := Option.some.inj hf
    subst hf
    exact gp_retI hx hb hr hlocks hG hS (Nat.le_refl _) (Nat.le_refl _) dX12_two_21
  · have hf := gb_f c5 hf
    refine lv_aload_n hx hb dX12_two_8 rfl (lv_at hl 0 rfl) ?_
    refine lv_iload_n hx hb dX12_two_9 rfl (lv_at hl 2 rfl) ?_
    obtain ⟨o10, hc10, hf⟩ := gb_b hf
    refine gp_callI (va_runV (As := [.int v2]) (rest := []) ⟨hx, hb, hml, hown, hts⟩ (c_X12_isLamp (l := l) (D := D) (b := b) (M := M) (cI := cI) (cL := cL) hc10) (cwV 1 hts gX12_two_X12_isLamp rfl rfl rfl (by decide +kernel) ⟨Nat.le_of_ble_eq_true rfl, Nat.le_of_ble_eq_true rfl⟩) (gp_preV hKn hG mg_o rfl) rfl rfl hl.1 rfl (lv_room (Nat.le_of_ble_eq_true rfl)) dX12_two_10 ⟨Nat.le_of_ble_eq_true rfl, Nat.le_of_ble_eq_true rfl⟩) hS (fun H locs hG hS => ?_)
    refine lv_if_ne (tgt := 22) hx hb dX12_two_13 (by decide) (fun c13 => ?_) (fun c13 => ?_)
    · have hf := gb_f c13 hf
      refine lv_iconst (v := 0) hx hb dX12_two_22 (by decide) ?_
      refine lv_istore_n (lv' := [(3, .int 0), (0, .ref h0), (1, .int v1), (2, .int v2)]) hx hb dX12_two_23 rfl hl (by decide) rfl (fun ls hl => ?_)
      refine lv_bipush (v := 9) hx hb dX12_two_24 (by decide) ?_
      refine lv_iload_n hx hb dX12_two_26 rfl (lv_at hl 2 rfl) ?_
      refine lv_imul hx hb dX12_two_27 ?_
      refine lv_istore (lv' := [(4, .int (9 * v1)), (3, .int 0), (0, .ref h0), (1, .int v1), (2, .int v2)]) hx hb dX12_two_28 hl (by decide) rfl (fun ls hl => ?_)
      refine w_X12_two_30 X _ _ _ hf (fun x30_82 hf H locs ls hG hS hl => ?_) _ _ _ hG hS (lv_sub hl [2, 3, 4, 1, 0] rfl)
      · refine lv_iload_n hx hb dX12_two_82 rfl (lv_at hl 0 rfl) ?_
        have hf := Option.some.inj hf
        subst hf
        exact gp_retI hx hb hr hlocks hG hS (Nat.le_refl _) (Nat.le_refl _) dX12_two_83
    · have hf := gb_t c13 hf
      refine lv_aload_n hx hb dX12_two_16 rfl (lv_at hl 0 rfl) ?_
      refine lv_iconst (v := (-1 : Int32)) hx hb dX12_two_17 (by decide) ?_
      obtain ⟨o18, hc18, hf⟩ := gb_b hf
      refine gp_callI (va_runV (As := [.int (-1 : Int32)]) (rest := []) ⟨hx, hb, hml, hown, hts⟩ (c_X12_no (l := l) (D := D) (b := b) (M := M) (cI := cI) (cL := cL) hc18) (cwV 1 hts gX12_two_X12_no rfl rfl rfl (by decide +kernel) ⟨Nat.le_of_ble_eq_true rfl, Nat.le_of_ble_eq_true rfl⟩) (gp_preV hKn hG mg_o rfl) rfl rfl hl.1 rfl (lv_room (Nat.le_of_ble_eq_true rfl)) dX12_two_18 ⟨Nat.le_of_ble_eq_true rfl, Nat.le_of_ble_eq_true rfl⟩) hS (fun H locs hG hS => ?_)
      have hf := Option.some.inj hf
      subst hf
      exact gp_retI hx hb hr hlocks hG hS (Nat.le_refl _) (Nat.le_refl _) dX12_two_21
-- X12_exchanges
abbrev rm_X12_exchanges : Room := { frames := 0, cells := 0, slots := 0, locals := 0 }
set_option maxHeartbeats 4000000 in
set_option maxRecDepth 100000 in
theorem c_X12_exchanges {v1 : Int32} {v2 : Int32} {R : (Nat → Int32)} (hf : f_X12_exchanges a_lampCell v1 v2 = some R) : Met l yX12_exchanges wsX12_exchanges rm_X12_exchanges (va_Pc [.ref h0, .int v1, .int v2] (gPre D b M (mg cI h0 a_refused a_isWall a_kind a_lampCell a_range a_lit a_scenes a_who a_cell a_minuteOf a_standsAt i_lampMany i_people i_minute a_tape a_letter a_letterAt a_told i_taped i_at i_statements a_kept i_hasImage i_isKeeping i_cursor a_far a_shut a_queue i_queued a_litBy a_may a_row i_rowMany g0) (gTy cI cL))) (gQ D b none M (mg cI h0 a_refused a_isWall a_kind R a_range a_lit a_scenes a_who a_cell a_minuteOf a_standsAt i_lampMany i_people i_minute a_tape a_letter a_letterAt a_told i_taped i_at i_statements a_kept i_hasImage i_isKeeping i_cursor a_far a_shut a_queue i_queued a_litBy a_may a_row i_rowMany g0)) 0 0 (gA b) := by
  refine gp_met (cc := cX12_exchanges) (maxL := 4) (ret := none) (by decide) rfl (Nat.le_of_ble_eq_true rfl) ?_
  intro p e s m below meth c X ls hG hl
  have hS : va_S (gA b) s.heap s.heap [] := va_S.rf
  obtain ⟨H, hH0⟩ : ∃ H : Heap, H = s.heap := ⟨_, rfl⟩
  rw [← hH0] at hG ⊢
  have hS : va_S (gA b) s.heap H [] := by rw [hH0]; exact va_S.rf
  obtain ⟨locs, hlo⟩ : ∃ z : List Loc, z = [] := ⟨_, rfl⟩
  rw [← hlo] at hS ⊢
  unfold f_X12_exchanges at hf
  obtain ⟨hx, hb, hr, hml, hown, hts, hlocks, hKn, hBs⟩ := id X
  have hK := hKn.1
  have hin : ∀ w ∈ wsX120, w ∈ wsX12_exchanges := fun w h => List.mem_cons_of_mem _ (List.mem_append_right _ h)
  have hl : lv_has ls 4 [(0, .ref h0), (1, .int v1), (2, .int v2)] := hl
  refine lv_aload_n hx hb dX12_exchanges_0 rfl (lv_at hl 0 rfl) ?_
  refine gp_get (v := .ref (h0 + 4)) (C := RX12) (T := TX12) (N := 33) (ci := 10) hx hb hts hin hown hK hG mg_o rfl 3 (by decide) (hts _ (List.mem_of_getElem? (i := 1) rfl)) (fun _ h9 => h9) rfl dX12_exchanges_1 ?_
  refine lv_iload_n hx hb dX12_exchanges_4 rfl (lv_at hl 1 rfl) ?_
  obtain ⟨b5, hf⟩ := gb_ix hf
  refine gp_iald hx hb hK hG mg_lampCell b5 dX12_exchanges_5 ?_
  refine lv_istore_n (lv' := [(3, .int (a_lampCell v1.toNatClampNeg)), (0, .ref h0), (1, .int v1), (2, .int v2)]) hx hb dX12_exchanges_6 rfl hl (by decide) rfl (fun ls hl => ?_)
  refine lv_aload_n hx hb dX12_exchanges_7 rfl (lv_at hl 1 rfl) ?_
  refine gp_get (v := .ref (h0 + 4)) (C := RX12) (T := TX12) (N := 33) (ci := 10) hx hb hts hin hown hK hG mg_o rfl 3 (by decide) (hts _ (List.mem_of_getElem? (i := 1) rfl)) (fun _ h9 => h9) rfl dX12_exchanges_8 ?_
  refine lv_iload_n hx hb dX12_exchanges_11 rfl (lv_at hl 2 rfl) ?_
  refine lv_aload_n hx hb dX12_exchanges_12 rfl (lv_at hl 1 rfl) ?_
  refine gp_get (v := .ref (h0 + 4)) (C := RX12) (T := TX12) (N := 33) (ci := 10) hx hb hts hin hown hK hG mg_o rfl 3 (by decide) (hts _ (List.mem_of_getElem? (i := 1) rfl)) (fun _ h9 => h9) rfl dX12_exchanges_13 ?_
  refine lv_iload_n hx hb dX12_exchanges_16 rfl (lv_at hl 3 rfl) ?_
  obtain ⟨b17, hf⟩ := gb_ix hf
  refine gp_iald hx hb hK hG mg_lampCell b17 dX12_exchanges_17 ?_
  obtain ⟨b18, hf⟩ := gb_ix hf
  refine gp_iast hx hb hK hG hS mg_lampCell b18 mu_lampCell dX12_exchanges_18 (fun H locs hG hS => ?_)
  refine lv_aload_n hx hb dX12_exchanges_19 rfl (lv_at hl 1 rfl) ?_
  refine gp_get (v := .ref (h0 + 4)) (C := RX12) (T := TX12) (N := 33) (ci := 10) hx hb hts hin hown hK hG mg_o rfl 3 (by decide) (hts _ (List.mem_of_getElem? (i := 1) rfl)) (fun _ h9 => h9) rfl dX12_exchanges_20 ?_
  refine lv_iload_n hx hb dX12_exchanges_23 rfl (lv_at hl 3 rfl) ?_
  refine lv_iload_n hx hb dX12_exchanges_24 rfl (lv_at hl 0 rfl) ?_
  obtain ⟨b25, hf⟩ := gb_ix hf
  refine gp_iast hx hb hK hG hS mg_lampCell b25 mu_lampCell dX12_exchanges_25 (fun H locs hG hS => ?_)
  have hf := Option.some.inj hf
  subst hf
  exact gp_retV hx hb hr hlocks hG hS (Nat.le_refl _) (Nat.le_refl _) dX12_exchanges_26
-- X12_swap
abbrev rm_X12_swap : Room := { frames := 5, cells := 0, slots := 0, locals := 113 }
set_option maxHeartbeats 4000000 in
set_option maxRecDepth 100000 in
theorem c_X12_swap {v1 : Int32} {v2 : Int32} {R : Int32 × (Nat → Int32) × (Nat → Int32) × (Nat → Int32) × (Nat → Int32) × (Nat → Int32) × Int32 × (Nat → Int32)} (hf : f_X12_swap a_refused a_isWall a_kind a_lampCell a_range a_lit a_standsAt i_lampMany i_people a_far a_shut a_queue i_queued a_litBy v1 v2 = some R) : Met l yX12_swap wsX12_swap rm_X12_swap (va_Pc [.ref h0, .int v1, .int v2] (gPre D b M (mg cI h0 a_refused a_isWall a_kind a_lampCell a_range a_lit a_scenes a_who a_cell a_minuteOf a_standsAt i_lampMany i_people i_minute a_tape a_letter a_letterAt a_told i_taped i_at i_statements a_kept i_hasImage i_isKeeping i_cursor a_far a_shut a_queue i_queued a_litBy a_may a_row i_rowMany g0) (gTy cI cL))) (gQ D b (some (.int R.1)) M (mg cI h0 R.2.1 a_isWall a_kind R.2.2.1 a_range a_lit a_scenes a_who a_cell a_minuteOf a_standsAt i_lampMany i_people i_minute a_tape a_letter a_letterAt a_told i_taped i_at i_statements a_kept i_hasImage i_isKeeping i_cursor R.2.2.2.1 R.2.2.2.2.1 R.2.2.2.2.2.1 R.2.2.2.2.2.2.1 R.2.2.2.2.2.2.2 a_may a_row i_rowMany g0)) 0 0 (gA b) := by
  refine gp_met (cc := cX12_swap) (maxL := 5) (ret := (some .int)) (by decide) rfl (Nat.le_of_ble_eq_true rfl) ?_
  intro p e s m below meth c X ls hG hl
  have hS : va_S (gA b) s.heap s.heap [] := va_S.rf
  obtain ⟨H, hH0⟩ : ∃ H : Heap, H = s.heap := ⟨_, rfl⟩
  rw [← hH0] at hG ⊢
  have hS : va_S (gA b) s.heap H [] := by rw [hH0]; exact va_S.rf
  obtain ⟨locs, hlo⟩ : ∃ z : List Loc, z = [] := ⟨_, rfl⟩
  rw [← hlo] at hS ⊢
  unfold f_X12_swap at hf
  obtain ⟨hx, hb, hr, hml, hown, hts, hlocks, hKn, hBs⟩ := id X
  have hK := hKn.1
  have hin : ∀ w ∈ wsX120, w ∈ wsX12_swap := fun w h => List.mem_cons_of_mem _ (List.mem_append_right _ h)
  have hl : lv_has ls 5 [(0, .ref h0), (1, .int v1), (2, .int v2)] := hl
  refine lv_aload_n hx hb dX12_swap_0 rfl (lv_at hl 0 rfl) ?_
  refine lv_iload_n hx hb dX12_swap_1 rfl (lv_at hl 1 rfl) ?_
  obtain ⟨o2, hc2, hf⟩ := gb_b hf
  refine gp_callI (va_runV (As := [.int v1]) (rest := []) ⟨hx, hb, hml, hown, hts⟩ (c_X12_isLamp (l := l) (D := D) (b := b) (M := M) (cI := cI) (cL := cL) hc2) (cwV 1 hts gX12_swap_X12_isLamp rfl rfl rfl (by decide +kernel) ⟨Nat.le_of_ble_eq_true rfl, Nat.le_of_ble_eq_true rfl⟩) (gp_preV hKn hG mg_o rfl) rfl rfl hl.1 rfl (lv_room (Nat.le_of_ble_eq_true rfl)) dX12_swap_2 ⟨Nat.le_of_ble_eq_true rfl, Nat.le_of_ble_eq_true rfl⟩) hS (fun H locs hG hS => ?_)
  refine lv_if_eq (tgt := 16) hx hb dX12_swap_5 (by decide) (fun c5 => ?_) (fun c5 => ?_)
  · have hf := gb_t c5 hf
    refine lv_aload_n hx hb dX12_swap_16 rfl (lv_at hl 0 rfl) ?_
    refine lv_iconst (v := (-1 : Int32)) hx hb dX12_swap_17 (by decide) ?_
    obtain ⟨o18, hc18, hf⟩ := gb_b hf
    refine gp_callI (va_runV (As := [.int (-1 : Int32)]) (rest := []) ⟨hx, hb, hml, hown, hts⟩ (c_X12_lower (l := l) (D := D) (b := b) (M := M) (cI := cI) (cL := cL) hc18) (cwV 1 hts gX12_swap_X12_lower rfl rfl rfl (by decide +kernel) ⟨Nat.le_of_ble_eq_true rfl, Nat.le_of_ble_eq_true rfl⟩) (gp_preV hKn hG mg_o rfl) rfl rfl hl.1 rfl (lv_room (Nat.le_of_ble_eq_true rfl)) dX12_swap_18 ⟨Nat.le_of_ble_eq_true rfl, Nat.le_of_ble_eq_true rfl⟩) hS (fun H locs hG hS => ?_)
    have hf := Option.some.inj hf
    subst hf
    exact gp_retI hx hb hr hlocks hG hS (Nat.le_refl _) (Nat.le_refl _) dX12_swap_21
  · have hf := gb_f c5 hf
    refine lv_aload_n hx hb dX12_swap_8 rfl (lv_at hl 0 rfl) ?_
    refine lv_iload_n hx hb dX12_swap_9 rfl (lv_at hl 2 rfl) ?_
    obtain ⟨o10, hc10, hf⟩ := gb_b hf
    refine gp_callI (va_runV (As := [.int v2]) (rest := []) ⟨hx, hb, hml, hown, hts⟩ (c_X12_isLamp (l := l) (D := D) (b := b) (M := M) (cI := cI) (cL := cL) hc10) (cwV 1 hts gX12_swap_X12_isLamp rfl rfl rfl (by decide +kernel) ⟨Nat.le_of_ble_eq_true rfl, Nat.le_of_ble_eq_true rfl⟩) (gp_preV hKn hG mg_o rfl) rfl rfl hl.1 rfl (lv_room (Nat.le_of_ble_eq_true rfl)) dX12_swap_10 ⟨Nat.le_of_ble_eq_true rfl, Nat.le_of_ble_eq_true rfl⟩) hS (fun H locs hG hS => ?_)
    refine lv_if_ne (tgt := 22) hx hb dX12_swap_13 (by decide) (fun c13 => ?_) (fun c13 => ?_)
    · have hf := gb_f c13 hf
      refine lv_aload_n hx hb dX12_swap_22 rfl (lv_at hl 0 rfl) ?_
      refine lv_aload_n hx hb dX12_swap_23 rfl (lv_at hl 0 rfl) ?_
      obtain ⟨o24, hc24, hf⟩ := gb_b hf
      refine gp_callI (va_runV (As := []) (rest := [.ref h0]) ⟨hx, hb, hml, hown, hts⟩ (c_X12_litBits (l := l) (D := D) (b := b) (M := M) (cI := cI) (cL := cL) hc24) (cwV 0 hts gX12_swap_X12_litBits rfl rfl rfl (by decide +kernel) ⟨Nat.le_of_ble_eq_true rfl, Nat.le_of_ble_eq_true rfl⟩) (gp_preV hKn hG mg_o rfl) rfl rfl hl.1 rfl (lv_room (Nat.le_of_ble_eq_true rfl)) dX12_swap_24 ⟨Nat.le_of_ble_eq_true rfl, Nat.le_of_ble_eq_true rfl⟩) hS (fun H locs hG hS => ?_)
      obtain ⟨o27, hc27, hf⟩ := gb_b hf
      refine gp_callI (va_runV (As := [.int o24]) (rest := []) ⟨hx, hb, hml, hown, hts⟩ (c_X12_cellsLitBy (l := l) (D := D) (b := b) (M := M) (cI := cI) (cL := cL) hc27) (cwV 1 hts gX12_swap_X12_cellsLitBy rfl rfl rfl (by decide +kernel) ⟨Nat.le_of_ble_eq_true rfl, Nat.le_of_ble_eq_true rfl⟩) (gp_preV hKn hG mg_o rfl) rfl rfl hl.1 rfl (lv_room (Nat.le_of_ble_eq_true rfl)) dX12_swap_27 ⟨Nat.le_of_ble_eq_true rfl, Nat.le_of_ble_eq_true rfl⟩) hS (fun H locs hG hS => ?_)
      refine lv_istore_n (lv' := [(3, .int o27.1), (0, .ref h0), (1, .int v1), (2, .int v2)]) hx hb dX12_swap_30 rfl hl (by decide) rfl (fun ls hl => ?_)
      refine lv_aload_n hx hb dX12_swap_31 rfl (lv_at hl 1 rfl) ?_
      refine lv_iload_n hx hb dX12_swap_32 rfl (lv_at hl 2 rfl) ?_
      refine lv_iload_n hx hb dX12_swap_33 rfl (lv_at hl 3 rfl) ?_
      obtain ⟨o34, hc34, hf⟩ := gb_b hf
      refine gp_callV (va_runV (As := [.int v1, .int v2]) (rest := []) ⟨hx, hb, hml, hown, hts⟩ (c_X12_exchanges (l := l) (D := D) (b := b) (M := M) (cI := cI) (cL := cL) hc34) (cwV 2 hts gX12_swap_X12_exchanges rfl rfl rfl (by decide +kernel) ⟨Nat.le_of_ble_eq_true rfl, Nat.le_of_ble_eq_true rfl⟩) (gp_preV hKn hG mg_o rfl) rfl rfl hl.1 rfl (lv_room (Nat.le_of_ble_eq_true rfl)) dX12_swap_34 ⟨Nat.le_of_ble_eq_true rfl, Nat.le_of_ble_eq_true rfl⟩) hS (fun H locs hG hS => ?_)
      refine lv_aload_n hx hb dX12_swap_37 rfl (lv_at hl 1 rfl) ?_
      refine lv_aload_n hx hb dX12_swap_38 rfl (lv_at hl 1 rfl) ?_
      obtain ⟨o39, hc39, hf⟩ := gb_b hf
      refine gp_callI (va_runV (As := []) (rest := [.ref h0]) ⟨hx, hb, hml, hown, hts⟩ (c_X12_litBits (l := l) (D := D) (b := b) (M := M) (cI := cI) (cL := cL) hc39) (cwV 0 hts gX12_swap_X12_litBits rfl rfl rfl (by decide +kernel) ⟨Nat.le_of_ble_eq_true rfl, Nat.le_of_ble_eq_true rfl⟩) (gp_preV hKn hG mg_o rfl) rfl rfl hl.1 rfl (lv_room (Nat.le_of_ble_eq_true rfl)) dX12_swap_39 ⟨Nat.le_of_ble_eq_true rfl, Nat.le_of_ble_eq_true rfl⟩) hS (fun H locs hG hS => ?_)
      obtain ⟨o42, hc42, hf⟩ := gb_b hf
      refine gp_callI (va_runV (As := [.int o39]) (rest := []) ⟨hx, hb, hml, hown, hts⟩ (c_X12_cellsLitBy (l := l) (D := D) (b := b) (M := M) (cI := cI) (cL := cL) hc42) (cwV 1 hts gX12_swap_X12_cellsLitBy rfl rfl rfl (by decide +kernel) ⟨Nat.le_of_ble_eq_true rfl, Nat.le_of_ble_eq_true rfl⟩) (gp_preV hKn hG mg_o rfl) rfl rfl hl.1 rfl (lv_room (Nat.le_of_ble_eq_true rfl)) dX12_swap_42 ⟨Nat.le_of_ble_eq_true rfl, Nat.le_of_ble_eq_true rfl⟩) hS (fun H locs hG hS => ?_)
      refine lv_istore (lv' := [(4, .int o42.1), (3, .int o27.1), (0, .ref h0), (1, .int v1), (2, .int v2)]) hx hb dX12_swap_45 hl (by decide) rfl (fun ls hl => ?_)
      refine lv_aload_n hx hb dX12_swap_47 rfl (lv_at hl 2 rfl) ?_
      refine lv_iload_n hx hb dX12_swap_48 rfl (lv_at hl 3 rfl) ?_
      refine lv_iload_n hx hb dX12_swap_49 rfl (lv_at hl 4 rfl) ?_
      obtain ⟨o50, hc50, hf⟩ := gb_b hf
      refine gp_callV (va_runV (As := [.int v1, .int v2]) (rest := []) ⟨hx, hb, hml, hown, hts⟩ (c_X12_exchanges (l := l) (D := D) (b := b) (M := M) (cI := cI) (cL := cL) hc50) (cwV 2 hts gX12_swap_X12_exchanges rfl rfl rfl (by decide +kernel) ⟨Nat.le_of_ble_eq_true rfl, Nat.le_of_ble_eq_true rfl⟩) (gp_preV hKn hG mg_o rfl) rfl rfl hl.1 rfl (lv_room (Nat.le_of_ble_eq_true rfl)) dX12_swap_50 ⟨Nat.le_of_ble_eq_true rfl, Nat.le_of_ble_eq_true rfl⟩) hS (fun H locs hG hS => ?_)
      refine lv_iload hx hb dX12_swap_53 (lv_at hl 0 rfl) ?_
      refine lv_iload_n hx hb dX12_swap_55 rfl (lv_at hl 1 rfl) ?_
      refine lv_isub hx hb dX12_swap_56 ?_
      have hf := Option.some.inj hf
      subst hf
      exact gp_retI hx hb hr hlocks hG hS (Nat.le_refl _) (Nat.le_refl _) dX12_swap_57
    · have hf := gb_t c13 hf
      refine lv_aload_n hx hb dX12_swap_16 rfl (lv_at hl 0 rfl) ?_
      refine lv_iconst (v := (-1 : Int32)) hx hb dX12_swap_17 (by decide) ?_
      obtain ⟨o18, hc18, hf⟩ := gb_b hf
      refine gp_callI (va_runV (As := [.int (-1 : Int32)]) (rest := []) ⟨hx, hb, hml, hown, hts⟩ (c_X12_lower (l := l) (D := D) (b := b) (M := M) (cI := cI) (cL := cL) hc18) (cwV 1 hts gX12_swap_X12_lower rfl rfl rfl (by decide +kernel) ⟨Nat.le_of_ble_eq_true rfl, Nat.le_of_ble_eq_true rfl⟩) (gp_preV hKn hG mg_o rfl) rfl rfl hl.1 rfl (lv_room (Nat.le_of_ble_eq_true rfl)) dX12_swap_18 ⟨Nat.le_of_ble_eq_true rfl, Nat.le_of_ble_eq_true rfl⟩) hS (fun H locs hG hS => ?_)
      have hf := Option.some.inj hf
      subst hf
      exact gp_retI hx hb hr hlocks hG hS (Nat.le_refl _) (Nat.le_refl _) dX12_swap_21
-- X12_row
abbrev rm_X12_row : Room := { frames := 1, cells := 0, slots := 0, locals := 22 }
set_option maxHeartbeats 4000000 in
set_option maxRecDepth 100000 in
theorem c_X12_row {v1 : Int32} {R : Int32 × (Nat → Int32) × (Nat → Int32) × Int32} (hf : f_X12_row a_refused a_row i_rowMany v1 = some R) : Met l yX12_row wsX12_row rm_X12_row (va_Pc [.ref h0, .int v1] (gPre D b M (mg cI h0 a_refused a_isWall a_kind a_lampCell a_range a_lit a_scenes a_who a_cell a_minuteOf a_standsAt i_lampMany i_people i_minute a_tape a_letter a_letterAt a_told i_taped i_at i_statements a_kept i_hasImage i_isKeeping i_cursor a_far a_shut a_queue i_queued a_litBy a_may a_row i_rowMany g0) (gTy cI cL))) (gQ D b (some (.int R.1)) M (mg cI h0 R.2.1 a_isWall a_kind a_lampCell a_range a_lit a_scenes a_who a_cell a_minuteOf a_standsAt i_lampMany i_people i_minute a_tape a_letter a_letterAt a_told i_taped i_at i_statements a_kept i_hasImage i_isKeeping i_cursor a_far a_shut a_queue i_queued a_litBy a_may R.2.2.1 R.2.2.2 g0)) 0 0 (gA b) := by
  refine gp_met (cc := cX12_row) (maxL := 3) (ret := (some .int)) (by decide) rfl (Nat.le_of_ble_eq_true rfl) ?_
  intro p e s m below meth c X ls hG hl
  have hS : va_S (gA b) s.heap s.heap [] := va_S.rf
  obtain ⟨H, hH0⟩ : ∃ H : Heap, H = s.heap := ⟨_, rfl⟩
  rw [← hH0] at hG ⊢
  have hS : va_S (gA b) s.heap H [] := by rw [hH0]; exact va_S.rf
  obtain ⟨locs, hlo⟩ : ∃ z : List Loc, z = [] := ⟨_, rfl⟩
  rw [← hlo] at hS ⊢
  unfold f_X12_row at hf
  obtain ⟨hx, hb, hr, hml, hown, hts, hlocks, hKn, hBs⟩ := id X
  have hK := hKn.1
  have hin : ∀ w ∈ wsX120, w ∈ wsX12_row := fun w h => List.mem_cons_of_mem _ (List.mem_append_right _ h)
  have hl : lv_has ls 3 [(0, .ref h0), (1, .int v1)] := hl
  refine lv_iload_n hx hb dX12_row_0 rfl (lv_at hl 1 rfl) ?_
  refine lv_iconst (v := 0) hx hb dX12_row_1 (by decide) ?_
  refine lv_bipush (v := 99) hx hb dX12_row_2 (by decide) ?_
  obtain ⟨o4, hc4, hf⟩ := gb_b hf
  refine gp_callI (va_runS (As := [.int v1, .int 0, .int 99]) (rest := []) ⟨hx, hb, hml, hown, hts⟩ (c_X12_bound (l := l) (D := D) (b := b) (M := M) (cI := cI) (cL := cL) hc4) (va_cwS 3 hts gX12_row_X12_bound rfl rfl rfl (by decide +kernel) ⟨Nat.le_of_ble_eq_true rfl, Nat.le_of_ble_eq_true rfl⟩) (gp_preS hKn hG) rfl rfl hl.1 rfl (lv_room (Nat.le_of_ble_eq_true rfl)) dX12_row_4 ⟨Nat.le_of_ble_eq_true rfl, Nat.le_of_ble_eq_true rfl⟩) hS (fun H locs hG hS => ?_)
  refine lv_istore_n (lv' := [(2, .int o4), (0, .ref h0), (1, .int v1)]) hx hb dX12_row_7 rfl hl (by decide) rfl (fun ls hl => ?_)
  refine lv_iload_n hx hb dX12_row_8 rfl (lv_at hl 0 rfl) ?_
  obtain ⟨j9, hj9, hf⟩ := gb_b hf
  have hJ9 : ∀ (H : Heap) (locs : List Loc) (ls : Array Slot), GP D b M (mg cI h0 a_refused a_isWall a_kind a_lampCell a_range a_lit a_scenes a_who a_cell a_minuteOf a_standsAt i_lampMany i_people i_minute a_tape a_letter a_letterAt a_told i_taped i_at i_statements a_kept i_hasImage i_isKeeping i_cursor a_far a_shut a_queue i_queued a_litBy a_may a_row i_rowMany g0) H → va_S (gA b) s.heap H locs → lv_has ls 3 [(0, .ref h0), (1, .int v1), (2, .int j9)] → W p l e rm_X12_row s m [.ref h0, .int v1].toArray below meth c H locs 0 0 (MQ below (gQ D b (some (.int R.1)) M (mg cI h0 R.2.1 a_isWall a_kind a_lampCell a_range a_lit a_scenes a_who a_cell a_minuteOf a_standsAt i_lampMany i_people i_minute a_tape a_letter a_letterAt a_told i_taped i_at i_statements a_kept i_hasImage i_isKeeping i_cursor a_far a_shut a_queue i_queued a_litBy a_may R.2.2.1 R.2.2.2 g0)) [.ref h0, .int v1].toArray s 0 0 (gA b)) (F0 m 24 ls []) := by
    intro H locs ls hG hS hl
    refine lv_iload_n hx hb dX12_row_24 rfl (lv_at hl 2 rfl) ?_
    refine lv_if_eq (tgt := 34) hx hb dX12_row_25 (by decide) (fun c25 => ?_) (fun c25 => ?_)
    · have hf := gb_t c25 hf
      refine lv_aload_n hx hb dX12_row_34 rfl (lv_at hl 0 rfl) ?_
      refine gp_get (v := .ref (h0 + 22)) (C := RX12) (T := TX12) (N := 33) (ci := 10) hx hb hts hin hown hK hG mg_o rfl 31 (by decide) (hts _ (List.mem_of_getElem? (i := 2) rfl)) (fun _ h9 => h9) rfl dX12_row_35 ?_
      refine lv_aload_n hx hb dX12_row_38 rfl (lv_at hl 0 rfl) ?_
      refine gp_get (v := .int i_rowMany) (C := RX12) (T := TX12) (N := 33) (ci := 10) hx hb hts hin hown hK hG mg_o rfl 32 (by decide) (hts _ (List.mem_of_getElem? (i := 1) rfl)) (fun _ h9 => h9) rfl dX12_row_39 ?_
      refine lv_iload_n hx hb dX12_row_42 rfl (lv_at hl 1 rfl) ?_
      obtain ⟨b43, hf⟩ := gb_ix hf
      refine gp_iast hx hb hK hG hS mg_row b43 mu_row dX12_row_43 (fun H locs hG hS => ?_)
      refine lv_aload_n hx hb dX12_row_44 rfl (lv_at hl 0 rfl) ?_
      refine lv_dup hx hb dX12_row_45 rfl ?_
      refine gp_get (v := .int i_rowMany) (C := RX12) (T := TX12) (N := 33) (ci := 10) hx hb hts hin hown hK hG mg_o rfl 32 (by decide) (hts _ (List.mem_of_getElem? (i := 1) rfl)) (fun _ h9 => h9) rfl dX12_row_46 ?_
      refine lv_iconst (v := 1) hx hb dX12_row_49 (by decide) ?_
      refine lv_iadd hx hb dX12_row_50 ?_
      refine gp_put (v := .int (i_rowMany + 1)) (tyk := .int) (C := RX12) (T := TX12) (N := 33) (ci := 10) hx hb hts hin tyX12 tyX12_ok nmX12 hown hK hG hS mg_o rfl 32 (by decide) (hts _ (List.mem_of_getElem? (i := 1) rfl)) (fun _ h9 => h9) rfl rfl rfl rfl (Nat.le_of_ble_eq_true rfl) mu_rowMany dX12_row_51 (fun H locs hG hS => ?_)
      refine lv_aload_n hx hb dX12_row_54 rfl (lv_at hl 0 rfl) ?_
      refine gp_get (v := .int (i_rowMany + 1)) (C := RX12) (T := TX12) (N := 33) (ci := 10) hx hb hts hin hown hK hG mg_o rfl 32 (by decide) (hts _ (List.mem_of_getElem? (i := 1) rfl)) (fun _ h9 => h9) rfl dX12_row_55 ?_
      have hf := Option.some.inj hf
      subst hf
      exact gp_retI hx hb hr hlocks hG hS (Nat.le_refl _) (Nat.le_refl _) dX12_row_58
    · have hf := gb_f c25 hf
      refine lv_aload_n hx hb dX12_row_28 rfl (lv_at hl 0 rfl) ?_
      refine lv_iload_n hx hb dX12_row_29 rfl (lv_at hl 2 rfl) ?_
      obtain ⟨o30, hc30, hf⟩ := gb_b hf
      refine gp_callI (va_runV (As := [.int j9]) (rest := []) ⟨hx, hb, hml, hown, hts⟩ (c_X12_no (l := l) (D := D) (b := b) (M := M) (cI := cI) (cL := cL) hc30) (cwV 1 hts gX12_row_X12_no rfl rfl rfl (by decide +kernel) ⟨Nat.le_of_ble_eq_true rfl, Nat.le_of_ble_eq_true rfl⟩) (gp_preV hKn hG mg_o rfl) rfl rfl hl.1 rfl (lv_room (Nat.le_of_ble_eq_true rfl)) dX12_row_30 ⟨Nat.le_of_ble_eq_true rfl, Nat.le_of_ble_eq_true rfl⟩) hS (fun H locs hG hS => ?_)
      have hf := Option.some.inj hf
      subst hf
      exact gp_retI hx hb hr hlocks hG hS (Nat.le_refl _) (Nat.le_refl _) dX12_row_33
  refine lv_if_ne (tgt := 24) hx hb dX12_row_9 (by decide) (fun c9 => ?_) (fun c9 => ?_)
  · have hj9 := gb_f c9 hj9
    have hj9 := Option.some.inj hj9
    subst hj9
    exact hJ9 H locs ls hG hS (lv_sub hl [1, 2, 0] rfl)
  · have hj9 := gb_t c9 hj9
    refine lv_aload_n hx hb dX12_row_12 rfl (lv_at hl 1 rfl) ?_
    refine gp_get (v := .int i_rowMany) (C := RX12) (T := TX12) (N := 33) (ci := 10) hx hb hts hin hown hK hG mg_o rfl 32 (by decide) (hts _ (List.mem_of_getElem? (i := 1) rfl)) (fun _ h9 => h9) rfl dX12_row_13 ?_
    refine lv_bipush (v := 12) hx hb dX12_row_16 (by decide) ?_
    refine lv_icmp_ne (tgt := 24) hx hb dX12_row_18 (by decide) (fun c18 => ?_) (fun c18 => ?_)
    · have hj9 := gb_f c18 hj9
      have hj9 := Option.some.inj hj9
      subst hj9
      exact hJ9 H locs ls hG hS (lv_sub hl [1, 2, 0] rfl)
    · have hj9 := gb_t c18 hj9
      refine lv_bipush (v := (-6 : Int32)) hx hb dX12_row_21 (by decide) ?_
      refine lv_istore_n (lv' := [(2, .int (-6 : Int32)), (0, .ref h0), (1, .int v1)]) hx hb dX12_row_23 rfl hl (by decide) rfl (fun ls hl => ?_)
      have hj9 := Option.some.inj hj9
      subst hj9
      exact hJ9 H locs ls hG hS (lv_sub hl [1, 2, 0] rfl)
-- X12_areNear
abbrev rm_X12_areNear : Room := { frames := 1, cells := 0, slots := 0, locals := 21 }
set_option maxHeartbeats 4000000 in
set_option maxRecDepth 100000 in
theorem w_X12_areNear_2 {α : Type} {R : α} {K16 : Unit → Option α} {K24 : Unit → Option α} {v0 : Int32} {v1 : Int32} (X : gC p s m args meth c cX12_areNear 3 (some .boolean) wsX12_areNear RX12 D b (gTy cI cL)) : ∀ (n : Nat) (v2 : Int32), L_X12_areNear_2 K16 K24 v0 v1 n v2 = some R → (∀ (x : Unit), K16 x = some R → ∀ (H : Heap) (locs : List Loc) (ls : Array Slot), GP D b M (gh) H → va_S (gA b) s.heap H locs → lv_has ls 3 [] → W p l e rm_X12_areNear s m args below meth c H locs 0 0 Q (F0 m 16 ls [])) → (∀ (x : Unit), K24 x = some R → ∀ (H : Heap) (locs : List Loc) (ls : Array Slot), GP D b M (gh) H → va_S (gA b) s.heap H locs → lv_has ls 3 [(0, .int v0), (1, .int v1)] → W p l e rm_X12_areNear s m args below meth c H locs 0 0 Q (F0 m 24 ls [])) → ∀ (H : Heap) (locs : List Loc) (ls : Array Slot), GP D b M (gh) H → va_S (gA b) s.heap H locs → lv_has ls 3 [(0, .int v0), (1, .int v1), (2, .int v2)] → W p l e rm_X12_areNear s m args below meth c H locs 0 0 Q (F0 m 2 ls []) := by
  obtain ⟨hx, hb, hr, hml, hown, hts, hlocks, hKn, hBs⟩ := id X
  have hK := hKn.1
  skip
  intro n
  induction n with
  | zero =>
    intro v2 hf
    cases hf
  | succ n ih =>
    intro v2 hf hk16 hk24 H locs ls hG hS hl
    rw [L_X12_areNear_2.eq_2] at hf
    refine lv_iload_n hx hb dX12_areNear_2 rfl (lv_at hl 2 rfl) ?_
    refine lv_iconst (v := 4) hx hb dX12_areNear_3 (by decide) ?_
    refine lv_icmp_ge (tgt := 24) hx hb dX12_areNear_4 (by decide) (fun c4 => ?_) (fun c4 => ?_)
    · have hf := gb_t c4 hf
      exact hk24 _ hf _ _ _ hG hS (lv_sub hl [0, 1] rfl)
    · have hf := gb_f c4 hf
      refine lv_iload_n hx hb dX12_areNear_7 rfl (lv_at hl 0 rfl) ?_
      refine lv_iload_n hx hb dX12_areNear_8 rfl (lv_at hl 2 rfl) ?_
      obtain ⟨o9, hc9, hf⟩ := gb_b hf
      refine gp_callI (va_runS (As := [.int v0, .int v2]) (rest := []) ⟨hx, hb, hml, hown, hts⟩ (c_X12_beside (l := l) (D := D) (b := b) (M := M) (cI := cI) (cL := cL) hc9) (va_cwS 2 hts gX12_areNear_X12_beside rfl rfl rfl (by decide +kernel) ⟨Nat.le_of_ble_eq_true rfl, Nat.le_of_ble_eq_true rfl⟩) (gp_preS hKn hG) rfl rfl hl.1 rfl (lv_room (Nat.le_of_ble_eq_true rfl)) dX12_areNear_9 ⟨Nat.le_of_ble_eq_true rfl, Nat.le_of_ble_eq_true rfl⟩) hS (fun H locs hG hS => ?_)
      refine lv_iload_n hx hb dX12_areNear_12 rfl (lv_at hl 1 rfl) ?_
      refine lv_icmp_ne (tgt := 18) hx hb dX12_areNear_13 (by decide) (fun c13 => ?_) (fun c13 => ?_)
      · have hf := gb_f c13 hf
        refine lv_iinc (v := v2 + 1) (lv' := [(2, .int (v2 + 1)), (0, .int v0), (1, .int v1)]) hx hb dX12_areNear_18 hl (k := 2) rfl rfl (by decide) rfl (fun ls hl => ?_)
        refine lv_goto (tgt := 2) hx hb dX12_areNear_21 (by decide) ?_
        exact ih _ hf hk16 hk24 _ _ _ hG hS (lv_sub hl [1, 2, 0] rfl)
      · have hf := gb_t c13 hf
        exact hk16 _ hf _ _ _ hG hS (lv_sub hl [] rfl)
set_option maxHeartbeats 4000000 in
set_option maxRecDepth 100000 in
theorem c_X12_areNear {v0 : Int32} {v1 : Int32} {R : Int32} (hf : f_X12_areNear v0 v1 = some R) : Met l yX12_areNear wsX12_areNear rm_X12_areNear (va_Pc [.int v0, .int v1] (gPre D b M (gh) (gTy cI cL))) (gQ D b (some (.int R)) M (gh)) 0 0 (gA b) := by
  refine gp_met (cc := cX12_areNear) (maxL := 3) (ret := (some .boolean)) (by decide) rfl (Nat.le_of_ble_eq_true rfl) ?_
  intro p e s m below meth c X ls hG hl
  have hS : va_S (gA b) s.heap s.heap [] := va_S.rf
  obtain ⟨H, hH0⟩ : ∃ H : Heap, H = s.heap := ⟨_, rfl⟩
  rw [← hH0] at hG ⊢
  have hS : va_S (gA b) s.heap H [] := by rw [hH0]; exact va_S.rf
  obtain ⟨locs, hlo⟩ : ∃ z : List Loc, z = [] := ⟨_, rfl⟩
  rw [← hlo] at hS ⊢
  unfold f_X12_areNear at hf
  obtain ⟨hx, hb, hr, hml, hown, hts, hlocks, hKn, hBs⟩ := id X
  have hK := hKn.1
  skip
  have hl : lv_has ls 3 [(0, .int v0), (1, .int v1)] := hl
  refine lv_iconst (v := 0) hx hb dX12_areNear_0 (by decide) ?_
  refine lv_istore_n (lv' := [(2, .int 0), (0, .int v0), (1, .int v1)]) hx hb dX12_areNear_1 rfl hl (by decide) rfl (fun ls hl => ?_)
  refine w_X12_areNear_2 X _ _ hf (fun x2_16 hf H locs ls hG hS hl => ?_) (fun x2_24 hf H locs ls hG hS hl => ?_) _ _ _ hG hS (lv_sub hl [1, 2, 0] rfl)
  · refine lv_iconst (v := 1) hx hb dX12_areNear_16 (by decide) ?_
    have hf := Option.some.inj hf
    subst hf
    exact gp_retZ hx hb hr (Or.inr rfl) hlocks hG hS (Nat.le_refl _) (Nat.le_refl _) dX12_areNear_17
  · refine lv_iload_n hx hb dX12_areNear_24 rfl (lv_at hl 0 rfl) ?_
    refine lv_iload_n hx hb dX12_areNear_25 rfl (lv_at hl 1 rfl) ?_
    have hJ26 : ∀ Z : Int32, Z = (if v0 = v1 then 1 else 0) → W p l e rm_X12_areNear s m [.int v0, .int v1].toArray below meth c H locs 0 0 (MQ below (gQ D b (some (.int R)) M (gh)) [.int v0, .int v1].toArray s 0 0 (gA b)) (F0 m 34 ls (.int Z :: [])) := by
      intro Z hZ
      subst hZ
      obtain ⟨z34, hf⟩ := gb_zb hf
      have hf := Option.some.inj hf
      subst hf
      exact gp_retZ hx hb hr z34 hlocks hG hS (Nat.le_refl _) (Nat.le_refl _) dX12_areNear_34
    refine lv_icmp_ne (tgt := 33) hx hb dX12_areNear_26 (by decide) (fun c26 => ?_) (fun c26 => ?_)
    · rw [if_neg c26] at hJ26
      refine lv_iconst (v := 0) hx hb dX12_areNear_33 (by decide) ?_
      exact hJ26 _ rfl
    · rw [if_pos c26] at hJ26
      refine lv_iconst (v := 1) hx hb dX12_areNear_29 (by decide) ?_
      refine lv_goto (tgt := 34) hx hb dX12_areNear_30 (by decide) ?_
      exact hJ26 _ rfl
-- X12_judge
abbrev rm_X12_judge : Room := { frames := 2, cells := 0, slots := 0, locals := 43 }
set_option maxHeartbeats 4000000 in
set_option maxRecDepth 100000 in
theorem w_X12_judge_23 {α : Type} {R : α} {K71 : Int32 → Option α} {K86 : Unit → Option α} (X : gC p s m args meth c cX12_judge 4 (some .int) wsX12_judge RX12 D b (gTy cI cL)) : ∀ (n : Nat) (v2 : Int32) (v3 : Int32), L_X12_judge_23 K71 K86 a_isWall a_row i_rowMany n v2 v3 = some R → (∀ (x : Int32), K71 x = some R → ∀ (H : Heap) (locs : List Loc) (ls : Array Slot), GP D b M (mg cI h0 a_refused a_isWall a_kind a_lampCell a_range a_lit a_scenes a_who a_cell a_minuteOf a_standsAt i_lampMany i_people i_minute a_tape a_letter a_letterAt a_told i_taped i_at i_statements a_kept i_hasImage i_isKeeping i_cursor a_far a_shut a_queue i_queued a_litBy a_may a_row i_rowMany g0) H → va_S (gA b) s.heap H locs → lv_has ls 4 [(3, .int x)] → W p l e rm_X12_judge s m args below meth c H locs 0 0 Q (F0 m 71 ls [])) → (∀ (x : Unit), K86 x = some R → ∀ (H : Heap) (locs : List Loc) (ls : Array Slot), GP D b M (mg cI h0 a_refused a_isWall a_kind a_lampCell a_range a_lit a_scenes a_who a_cell a_minuteOf a_standsAt i_lampMany i_people i_minute a_tape a_letter a_letterAt a_told i_taped i_at i_statements a_kept i_hasImage i_isKeeping i_cursor a_far a_shut a_queue i_queued a_litBy a_may a_row i_rowMany g0) H → va_S (gA b) s.heap H locs → lv_has ls 4 [] → W p l e rm_X12_judge s m args below meth c H locs 0 0 Q (F0 m 86 ls [])) → ∀ (H : Heap) (locs : List Loc) (ls : Array Slot), GP D b M (mg cI h0 a_refused a_isWall a_kind a_lampCell a_range a_lit a_scenes a_who a_cell a_minuteOf a_standsAt i_lampMany i_people i_minute a_tape a_letter a_letterAt a_told i_taped i_at i_statements a_kept i_hasImage i_isKeeping i_cursor a_far a_shut a_queue i_queued a_litBy a_may a_row i_rowMany g0) H → va_S (gA b) s.heap H locs → lv_has ls 4 [(0, .ref h0), (2, .int v2), (3, .int v3)] → W p l e rm_X12_judge s m args below meth c H locs 0 0 Q (F0 m 23 ls []) := by
  obtain ⟨hx, hb, hr, hml, hown, hts, hlocks, hKn, hBs⟩ := id X
  have hK := hKn.1
  have hin : ∀ w ∈ wsX120, w ∈ wsX12_judge := fun w h => List.mem_cons_of_mem _ (List.mem_append_right _ h)
  intro n
  induction n with
  | zero =>
    intro v2 v3 hf
    cases hf
  | succ n ih =>
    intro v2 v3 hf hk71 hk86 H locs ls hG hS hl
    rw [L_X12_judge_23.eq_2] at hf
    refine lv_iload_n hx hb dX12_judge_23 rfl (lv_at hl 2 rfl) ?_
    refine lv_aload_n hx hb dX12_judge_24 rfl (lv_at hl 0 rfl) ?_
    refine gp_get (v := .int i_rowMany) (C := RX12) (T := TX12) (N := 33) (ci := 10) hx hb hts hin hown hK hG mg_o rfl 32 (by decide) (hts _ (List.mem_of_getElem? (i := 2) rfl)) (fun _ h9 => h9) rfl dX12_judge_25 ?_
    refine lv_icmp_ge (tgt := 86) hx hb dX12_judge_28 (by decide) (fun c28 => ?_) (fun c28 => ?_)
    · have hf := gb_t c28 hf
      exact hk86 _ hf _ _ _ hG hS (lv_sub hl [] rfl)
    · have hf := gb_f c28 hf
      refine lv_aload_n hx hb dX12_judge_31 rfl (lv_at hl 0 rfl) ?_
      refine gp_get (v := .ref (h0 + 22)) (C := RX12) (T := TX12) (N := 33) (ci := 10) hx hb hts hin hown hK hG mg_o rfl 31 (by decide) (hts _ (List.mem_of_getElem? (i := 3) rfl)) (fun _ h9 => h9) rfl dX12_judge_32 ?_
      refine lv_iload_n hx hb dX12_judge_35 rfl (lv_at hl 2 rfl) ?_
      obtain ⟨b36, hf⟩ := gb_ix hf
      refine gp_iald hx hb hK hG mg_row b36 dX12_judge_36 ?_
      obtain ⟨o37, hc37, hf⟩ := gb_b hf
      refine gp_callI (va_runS (As := [.int (a_row v3.toNatClampNeg)]) (rest := []) ⟨hx, hb, hml, hown, hts⟩ (c_X12_isCell (l := l) (D := D) (b := b) (M := M) (cI := cI) (cL := cL) hc37) (va_cwS 1 hts gX12_judge_X12_isCell rfl rfl rfl (by decide +kernel) ⟨Nat.le_of_ble_eq_true rfl, Nat.le_of_ble_eq_true rfl⟩) (gp_preS hKn hG) rfl rfl hl.1 rfl (lv_room (Nat.le_of_ble_eq_true rfl)) dX12_judge_37 ⟨Nat.le_of_ble_eq_true rfl, Nat.le_of_ble_eq_true rfl⟩) hS (fun H locs hG hS => ?_)
      refine lv_if_eq (tgt := 71) hx hb dX12_judge_40 (by decide) (fun c40 => ?_) (fun c40 => ?_)
      · have hf := gb_t c40 hf
        exact hk71 _ hf _ _ _ hG hS (lv_sub hl [2] rfl)
      · have hf := gb_f c40 hf
        refine lv_aload_n hx hb dX12_judge_43 rfl (lv_at hl 0 rfl) ?_
        refine gp_get (v := .ref (h0 + 2)) (C := RX12) (T := TX12) (N := 33) (ci := 10) hx hb hts hin hown hK hG mg_o rfl 1 (by decide) (hts _ (List.mem_of_getElem? (i := 4) rfl)) (fun _ h9 => h9) rfl dX12_judge_44 ?_
        refine lv_aload_n hx hb dX12_judge_47 rfl (lv_at hl 0 rfl) ?_
        refine gp_get (v := .ref (h0 + 22)) (C := RX12) (T := TX12) (N := 33) (ci := 10) hx hb hts hin hown hK hG mg_o rfl 31 (by decide) (hts _ (List.mem_of_getElem? (i := 3) rfl)) (fun _ h9 => h9) rfl dX12_judge_48 ?_
        refine lv_iload_n hx hb dX12_judge_51 rfl (lv_at hl 2 rfl) ?_
        obtain ⟨b52, hf⟩ := gb_ix hf
        refine gp_iald hx hb hK hG mg_row b52 dX12_judge_52 ?_
        obtain ⟨b53, hf⟩ := gb_ix hf
        refine gp_iald hx hb hK hG mg_isWall b53 dX12_judge_53 ?_
        refine lv_iconst (v := 1) hx hb dX12_judge_54 (by decide) ?_
        refine lv_icmp_eq (tgt := 71) hx hb dX12_judge_55 (by decide) (fun c55 => ?_) (fun c55 => ?_)
        · have hf := gb_t c55 hf
          exact hk71 _ hf _ _ _ hG hS (lv_sub hl [2] rfl)
        · have hf := gb_f c55 hf
          refine lv_iload_n hx hb dX12_judge_58 rfl (lv_at hl 1 rfl) ?_
          refine lv_aload_n hx hb dX12_judge_59 rfl (lv_at hl 0 rfl) ?_
          refine gp_get (v := .ref (h0 + 22)) (C := RX12) (T := TX12) (N := 33) (ci := 10) hx hb hts hin hown hK hG mg_o rfl 31 (by decide) (hts _ (List.mem_of_getElem? (i := 3) rfl)) (fun _ h9 => h9) rfl dX12_judge_60 ?_
          refine lv_iload_n hx hb dX12_judge_63 rfl (lv_at hl 2 rfl) ?_
          obtain ⟨b64, hf⟩ := gb_ix hf
          refine gp_iald hx hb hK hG mg_row b64 dX12_judge_64 ?_
          obtain ⟨o65, hc65, hf⟩ := gb_b hf
          refine gp_callI (va_runS (As := [.int v2, .int (a_row v3.toNatClampNeg)]) (rest := []) ⟨hx, hb, hml, hown, hts⟩ (c_X12_areNear (l := l) (D := D) (b := b) (M := M) (cI := cI) (cL := cL) hc65) (va_cwS 2 hts gX12_judge_X12_areNear rfl rfl rfl (by decide +kernel) ⟨Nat.le_of_ble_eq_true rfl, Nat.le_of_ble_eq_true rfl⟩) (gp_preS hKn hG) rfl rfl hl.1 rfl (lv_room (Nat.le_of_ble_eq_true rfl)) dX12_judge_65 ⟨Nat.le_of_ble_eq_true rfl, Nat.le_of_ble_eq_true rfl⟩) hS (fun H locs hG hS => ?_)
          refine lv_if_ne (tgt := 73) hx hb dX12_judge_68 (by decide) (fun c68 => ?_) (fun c68 => ?_)
          · have hf := gb_f c68 hf
            refine lv_aload_n hx hb dX12_judge_73 rfl (lv_at hl 0 rfl) ?_
            refine gp_get (v := .ref (h0 + 22)) (C := RX12) (T := TX12) (N := 33) (ci := 10) hx hb hts hin hown hK hG mg_o rfl 31 (by decide) (hts _ (List.mem_of_getElem? (i := 3) rfl)) (fun _ h9 => h9) rfl dX12_judge_74 ?_
            refine lv_iload_n hx hb dX12_judge_77 rfl (lv_at hl 2 rfl) ?_
            obtain ⟨b78, hf⟩ := gb_ix hf
            refine gp_iald hx hb hK hG mg_row b78 dX12_judge_78 ?_
            refine lv_istore_n (lv' := [(2, .int (a_row v3.toNatClampNeg)), (0, .ref h0), (3, .int v3)]) hx hb dX12_judge_79 rfl hl (by decide) rfl (fun ls hl => ?_)
            refine lv_iinc (v := v3 + 1) (lv' := [(3, .int (v3 + 1)), (2, .int (a_row v3.toNatClampNeg)), (0, .ref h0)]) hx hb dX12_judge_80 hl (k := 2) rfl rfl (by decide) rfl (fun ls hl => ?_)
            refine lv_goto (tgt := 23) hx hb dX12_judge_83 (by decide) ?_
            exact ih _ _ hf hk71 hk86 _ _ _ hG hS (lv_sub hl [2, 1, 0] rfl)
          · have hf := gb_t c68 hf
            exact hk71 _ hf _ _ _ hG hS (lv_sub hl [2] rfl)
set_option maxHeartbeats 4000000 in
set_option maxRecDepth 100000 in
theorem c_X12_judge {v1 : Int32} {R : Int32 × (Nat → Int32)} (hf : f_X12_judge a_refused a_isWall a_standsAt i_people a_row i_rowMany v1 = some R) : Met l yX12_judge wsX12_judge rm_X12_judge (va_Pc [.ref h0, .int v1] (gPre D b M (mg cI h0 a_refused a_isWall a_kind a_lampCell a_range a_lit a_scenes a_who a_cell a_minuteOf a_standsAt i_lampMany i_people i_minute a_tape a_letter a_letterAt a_told i_taped i_at i_statements a_kept i_hasImage i_isKeeping i_cursor a_far a_shut a_queue i_queued a_litBy a_may a_row i_rowMany g0) (gTy cI cL))) (gQ D b (some (.int R.1)) M (mg cI h0 R.2 a_isWall a_kind a_lampCell a_range a_lit a_scenes a_who a_cell a_minuteOf a_standsAt i_lampMany i_people i_minute a_tape a_letter a_letterAt a_told i_taped i_at i_statements a_kept i_hasImage i_isKeeping i_cursor a_far a_shut a_queue i_queued a_litBy a_may a_row i_rowMany g0)) 0 0 (gA b) := by
  refine gp_met (cc := cX12_judge) (maxL := 4) (ret := (some .int)) (by decide) rfl (Nat.le_of_ble_eq_true rfl) ?_
  intro p e s m below meth c X ls hG hl
  have hS : va_S (gA b) s.heap s.heap [] := va_S.rf
  obtain ⟨H, hH0⟩ : ∃ H : Heap, H = s.heap := ⟨_, rfl⟩
  rw [← hH0] at hG ⊢
  have hS : va_S (gA b) s.heap H [] := by rw [hH0]; exact va_S.rf
  obtain ⟨locs, hlo⟩ : ∃ z : List Loc, z = [] := ⟨_, rfl⟩
  rw [← hlo] at hS ⊢
  unfold f_X12_judge at hf
  obtain ⟨hx, hb, hr, hml, hown, hts, hlocks, hKn, hBs⟩ := id X
  have hK := hKn.1
  have hin : ∀ w ∈ wsX120, w ∈ wsX12_judge := fun w h => List.mem_cons_of_mem _ (List.mem_append_right _ h)
  have hl : lv_has ls 4 [(0, .ref h0), (1, .int v1)] := hl
  refine lv_aload_n hx hb dX12_judge_0 rfl (lv_at hl 0 rfl) ?_
  refine lv_iload_n hx hb dX12_judge_1 rfl (lv_at hl 1 rfl) ?_
  obtain ⟨o2, hc2, hf⟩ := gb_b hf
  refine gp_callI (va_runV (As := [.int v1]) (rest := []) ⟨hx, hb, hml, hown, hts⟩ (c_X12_isPerson (l := l) (D := D) (b := b) (M := M) (cI := cI) (cL := cL) hc2) (cwV 1 hts gX12_judge_X12_isPerson rfl rfl rfl (by decide +kernel) ⟨Nat.le_of_ble_eq_true rfl, Nat.le_of_ble_eq_true rfl⟩) (gp_preV hKn hG mg_o rfl) rfl rfl hl.1 rfl (lv_room (Nat.le_of_ble_eq_true rfl)) dX12_judge_2 ⟨Nat.le_of_ble_eq_true rfl, Nat.le_of_ble_eq_true rfl⟩) hS (fun H locs hG hS => ?_)
  refine lv_if_ne (tgt := 14) hx hb dX12_judge_5 (by decide) (fun c5 => ?_) (fun c5 => ?_)
  · have hf := gb_f c5 hf
    refine lv_aload_n hx hb dX12_judge_14 rfl (lv_at hl 0 rfl) ?_
    refine gp_get (v := .ref (h0 + 11)) (C := RX12) (T := TX12) (N := 33) (ci := 10) hx hb hts hin hown hK hG mg_o rfl 10 (by decide) (hts _ (List.mem_of_getElem? (i := 1) rfl)) (fun _ h9 => h9) rfl dX12_judge_15 ?_
    refine lv_iload_n hx hb dX12_judge_18 rfl (lv_at hl 1 rfl) ?_
    obtain ⟨b19, hf⟩ := gb_ix hf
    refine gp_iald hx hb hK hG mg_standsAt b19 dX12_judge_19 ?_
    refine lv_istore_n (lv' := [(2, .int (a_standsAt v1.toNatClampNeg)), (0, .ref h0), (1, .int v1)]) hx hb dX12_judge_20 rfl hl (by decide) rfl (fun ls hl => ?_)
    refine lv_iconst (v := 0) hx hb dX12_judge_21 (by decide) ?_
    refine lv_istore_n (lv' := [(3, .int 0), (2, .int (a_standsAt v1.toNatClampNeg)), (0, .ref h0), (1, .int v1)]) hx hb dX12_judge_22 rfl hl (by decide) rfl (fun ls hl => ?_)
    refine w_X12_judge_23 X _ _ _ hf (fun x23_71 hf H locs ls hG hS hl => ?_) (fun x23_86 hf H locs ls hG hS hl => ?_) _ _ _ hG hS (lv_sub hl [2, 1, 0] rfl)
    · refine lv_iload_n hx hb dX12_judge_71 rfl (lv_at hl 0 rfl) ?_
      have hf := Option.some.inj hf
      subst hf
      exact gp_retI hx hb hr hlocks hG hS (Nat.le_refl _) (Nat.le_refl _) dX12_judge_72
    · refine lv_bipush (v := (-9 : Int32)) hx hb dX12_judge_86 (by decide) ?_
      have hf := Option.some.inj hf
      subst hf
      exact gp_retI hx hb hr hlocks hG hS (Nat.le_refl _) (Nat.le_refl _) dX12_judge_88
  · have hf := gb_t c5 hf
    refine lv_aload_n hx hb dX12_judge_8 rfl (lv_at hl 0 rfl) ?_
    refine lv_iconst (v := (-1 : Int32)) hx hb dX12_judge_9 (by decide) ?_
    obtain ⟨o10, hc10, hf⟩ := gb_b hf
    refine gp_callI (va_runV (As := [.int (-1 : Int32)]) (rest := []) ⟨hx, hb, hml, hown, hts⟩ (c_X12_no (l := l) (D := D) (b := b) (M := M) (cI := cI) (cL := cL) hc10) (cwV 1 hts gX12_judge_X12_no rfl rfl rfl (by decide +kernel) ⟨Nat.le_of_ble_eq_true rfl, Nat.le_of_ble_eq_true rfl⟩) (gp_preV hKn hG mg_o rfl) rfl rfl hl.1 rfl (lv_room (Nat.le_of_ble_eq_true rfl)) dX12_judge_10 ⟨Nat.le_of_ble_eq_true rfl, Nat.le_of_ble_eq_true rfl⟩) hS (fun H locs hG hS => ?_)
    have hf := Option.some.inj hf
    subst hf
    exact gp_retI hx hb hr hlocks hG hS (Nat.le_refl _) (Nat.le_refl _) dX12_judge_13
-- X12_caught
abbrev rm_X12_caught : Room := { frames := 4, cells := 0, slots := 0, locals := 90 }
set_option maxHeartbeats 4000000 in
set_option maxRecDepth 100000 in
theorem w_X12_caught_30 {α : Type} {R : α} {K66 : Int32 → Option α} {K74 : Unit → Option α} {v2 : Int32} (X : gC p s m args meth c cX12_caught 4 (some .int) wsX12_caught RX12 D b (gTy cI cL)) : ∀ (n : Nat) (v3 : Int32), L_X12_caught_30 K66 K74 a_lit i_lampMany a_litBy a_row v2 n v3 = some R → (∀ (x : Int32), K66 x = some R → ∀ (H : Heap) (locs : List Loc) (ls : Array Slot), GP D b M (mg cI h0 a_refused a_isWall a_kind a_lampCell a_range a_lit a_scenes a_who a_cell a_minuteOf a_standsAt i_lampMany i_people i_minute a_tape a_letter a_letterAt a_told i_taped i_at i_statements a_kept i_hasImage i_isKeeping i_cursor a_far a_shut a_queue i_queued a_litBy a_may a_row i_rowMany g0) H → va_S (gA b) s.heap H locs → lv_has ls 4 [(3, .int x)] → W p l e rm_X12_caught s m args below meth c H locs 0 0 Q (F0 m 66 ls [])) → (∀ (x : Unit), K74 x = some R → ∀ (H : Heap) (locs : List Loc) (ls : Array Slot), GP D b M (mg cI h0 a_refused a_isWall a_kind a_lampCell a_range a_lit a_scenes a_who a_cell a_minuteOf a_standsAt i_lampMany i_people i_minute a_tape a_letter a_letterAt a_told i_taped i_at i_statements a_kept i_hasImage i_isKeeping i_cursor a_far a_shut a_queue i_queued a_litBy a_may a_row i_rowMany g0) H → va_S (gA b) s.heap H locs → lv_has ls 4 [] → W p l e rm_X12_caught s m args below meth c H locs 0 0 Q (F0 m 74 ls [])) → ∀ (H : Heap) (locs : List Loc) (ls : Array Slot), GP D b M (mg cI h0 a_refused a_isWall a_kind a_lampCell a_range a_lit a_scenes a_who a_cell a_minuteOf a_standsAt i_lampMany i_people i_minute a_tape a_letter a_letterAt a_told i_taped i_at i_statements a_kept i_hasImage i_isKeeping i_cursor a_far a_shut a_queue i_queued a_litBy a_may a_row i_rowMany g0) H → va_S (gA b) s.heap H locs → lv_has ls 4 [(0, .ref h0), (2, .int v2), (3, .int v3)] → W p l e rm_X12_caught s m args below meth c H locs 0 0 Q (F0 m 30 ls []) := by
  obtain ⟨hx, hb, hr, hml, hown, hts, hlocks, hKn, hBs⟩ := id X
  have hK := hKn.1
  have hin : ∀ w ∈ wsX120, w ∈ wsX12_caught := fun w h => List.mem_cons_of_mem _ (List.mem_append_right _ h)
  intro n
  induction n with
  | zero =>
    intro v3 hf
    cases hf
  | succ n ih =>
    intro v3 hf hk66 hk74 H locs ls hG hS hl
    rw [L_X12_caught_30.eq_2] at hf
    refine lv_iload_n hx hb dX12_caught_30 rfl (lv_at hl 2 rfl) ?_
    refine lv_iload_n hx hb dX12_caught_31 rfl (lv_at hl 1 rfl) ?_
    refine lv_icmp_ge (tgt := 74) hx hb dX12_caught_32 (by decide) (fun c32 => ?_) (fun c32 => ?_)
    · have hf := gb_t c32 hf
      exact hk74 _ hf _ _ _ hG hS (lv_sub hl [] rfl)
    · have hf := gb_f c32 hf
      refine lv_aload_n hx hb dX12_caught_35 rfl (lv_at hl 0 rfl) ?_
      refine gp_get (v := .ref (h0 + 22)) (C := RX12) (T := TX12) (N := 33) (ci := 10) hx hb hts hin hown hK hG mg_o rfl 31 (by decide) (hts _ (List.mem_of_getElem? (i := 2) rfl)) (fun _ h9 => h9) rfl dX12_caught_36 ?_
      refine lv_iload_n hx hb dX12_caught_39 rfl (lv_at hl 2 rfl) ?_
      obtain ⟨b40, hf⟩ := gb_ix hf
      refine gp_iald hx hb hK hG mg_row b40 dX12_caught_40 ?_
      obtain ⟨o41, hc41, hf⟩ := gb_b hf
      refine gp_callI (va_runS (As := [.int (a_row v3.toNatClampNeg)]) (rest := []) ⟨hx, hb, hml, hown, hts⟩ (c_X12_isCell (l := l) (D := D) (b := b) (M := M) (cI := cI) (cL := cL) hc41) (va_cwS 1 hts gX12_caught_X12_isCell rfl rfl rfl (by decide +kernel) ⟨Nat.le_of_ble_eq_true rfl, Nat.le_of_ble_eq_true rfl⟩) (gp_preS hKn hG) rfl rfl hl.1 rfl (lv_room (Nat.le_of_ble_eq_true rfl)) dX12_caught_41 ⟨Nat.le_of_ble_eq_true rfl, Nat.le_of_ble_eq_true rfl⟩) hS (fun H locs hG hS => ?_)
      refine lv_if_eq (tgt := 68) hx hb dX12_caught_44 (by decide) (fun c44 => ?_) (fun c44 => ?_)
      · have hf := gb_t c44 hf
        refine lv_iinc (v := v3 + 1) (lv' := [(3, .int (v3 + 1)), (0, .ref h0), (2, .int v2)]) hx hb dX12_caught_68 hl (k := 2) rfl rfl (by decide) rfl (fun ls hl => ?_)
        refine lv_goto (tgt := 30) hx hb dX12_caught_71 (by decide) ?_
        exact ih _ hf hk66 hk74 _ _ _ hG hS (lv_sub hl [1, 2, 0] rfl)
      · have hf := gb_f c44 hf
        refine lv_aload_n hx hb dX12_caught_47 rfl (lv_at hl 0 rfl) ?_
        refine gp_get (v := .ref (h0 + 20)) (C := RX12) (T := TX12) (N := 33) (ci := 10) hx hb hts hin hown hK hG mg_o rfl 29 (by decide) (hts _ (List.mem_of_getElem? (i := 3) rfl)) (fun _ h9 => h9) rfl dX12_caught_48 ?_
        refine lv_aload_n hx hb dX12_caught_51 rfl (lv_at hl 0 rfl) ?_
        refine gp_get (v := .ref (h0 + 22)) (C := RX12) (T := TX12) (N := 33) (ci := 10) hx hb hts hin hown hK hG mg_o rfl 31 (by decide) (hts _ (List.mem_of_getElem? (i := 2) rfl)) (fun _ h9 => h9) rfl dX12_caught_52 ?_
        refine lv_iload_n hx hb dX12_caught_55 rfl (lv_at hl 2 rfl) ?_
        obtain ⟨b56, hf⟩ := gb_ix hf
        refine gp_iald hx hb hK hG mg_row b56 dX12_caught_56 ?_
        obtain ⟨b57, hf⟩ := gb_ix hf
        refine gp_iald hx hb hK hG mg_litBy b57 dX12_caught_57 ?_
        refine lv_aload_n hx hb dX12_caught_58 rfl (lv_at hl 0 rfl) ?_
        obtain ⟨o59, hc59, hf⟩ := gb_b hf
        refine gp_callI (va_runV (As := []) (rest := [.int (a_litBy (a_row v3.toNatClampNeg).toNatClampNeg)]) ⟨hx, hb, hml, hown, hts⟩ (c_X12_litBits (l := l) (D := D) (b := b) (M := M) (cI := cI) (cL := cL) hc59) (cwV 0 hts gX12_caught_X12_litBits rfl rfl rfl (by decide +kernel) ⟨Nat.le_of_ble_eq_true rfl, Nat.le_of_ble_eq_true rfl⟩) (gp_preV hKn hG mg_o rfl) rfl rfl hl.1 rfl (lv_room (Nat.le_of_ble_eq_true rfl)) dX12_caught_59 ⟨Nat.le_of_ble_eq_true rfl, Nat.le_of_ble_eq_true rfl⟩) hS (fun H locs hG hS => ?_)
        refine lv_iand hx hb dX12_caught_62 ?_
        refine lv_if_eq (tgt := 68) hx hb dX12_caught_63 (by decide) (fun c63 => ?_) (fun c63 => ?_)
        · have hf := gb_t c63 hf
          refine lv_iinc (v := v3 + 1) (lv' := [(3, .int (v3 + 1)), (0, .ref h0), (2, .int v2)]) hx hb dX12_caught_68 hl (k := 2) rfl rfl (by decide) rfl (fun ls hl => ?_)
          refine lv_goto (tgt := 30) hx hb dX12_caught_71 (by decide) ?_
          exact ih _ hf hk66 hk74 _ _ _ hG hS (lv_sub hl [1, 2, 0] rfl)
        · have hf := gb_f c63 hf
          exact hk66 _ hf _ _ _ hG hS (lv_sub hl [2] rfl)
set_option maxHeartbeats 4000000 in
set_option maxRecDepth 100000 in
theorem c_X12_caught {v1 : Int32} {R : Int32 × (Nat → Int32) × (Nat → Int32) × (Nat → Int32) × (Nat → Int32) × Int32 × (Nat → Int32) × Int32} (hf : f_X12_caught a_refused a_isWall a_kind a_lampCell a_range a_lit a_standsAt i_lampMany i_people a_far a_shut a_queue i_queued a_litBy a_row i_rowMany v1 = some R) : Met l yX12_caught wsX12_caught rm_X12_caught (va_Pc [.ref h0, .int v1] (gPre D b M (mg cI h0 a_refused a_isWall a_kind a_lampCell a_range a_lit a_scenes a_who a_cell a_minuteOf a_standsAt i_lampMany i_people i_minute a_tape a_letter a_letterAt a_told i_taped i_at i_statements a_kept i_hasImage i_isKeeping i_cursor a_far a_shut a_queue i_queued a_litBy a_may a_row i_rowMany g0) (gTy cI cL))) (gQ D b (some (.int R.1)) M (mg cI h0 R.2.1 a_isWall a_kind a_lampCell a_range a_lit a_scenes a_who a_cell a_minuteOf a_standsAt i_lampMany i_people i_minute a_tape a_letter a_letterAt a_told i_taped i_at i_statements a_kept i_hasImage i_isKeeping i_cursor R.2.2.1 R.2.2.2.1 R.2.2.2.2.1 R.2.2.2.2.2.1 R.2.2.2.2.2.2.1 a_may a_row R.2.2.2.2.2.2.2 g0)) 0 0 (gA b) := by
  refine gp_met (cc := cX12_caught) (maxL := 4) (ret := (some .int)) (by decide) rfl (Nat.le_of_ble_eq_true rfl) ?_
  intro p e s m below meth c X ls hG hl
  have hS : va_S (gA b) s.heap s.heap [] := va_S.rf
  obtain ⟨H, hH0⟩ : ∃ H : Heap, H = s.heap := ⟨_, rfl⟩
  rw [← hH0] at hG ⊢
  have hS : va_S (gA b) s.heap H [] := by rw [hH0]; exact va_S.rf
  obtain ⟨locs, hlo⟩ : ∃ z : List Loc, z = [] := ⟨_, rfl⟩
  rw [← hlo] at hS ⊢
  unfold f_X12_caught at hf
  obtain ⟨hx, hb, hr, hml, hown, hts, hlocks, hKn, hBs⟩ := id X
  have hK := hKn.1
  have hin : ∀ w ∈ wsX120, w ∈ wsX12_caught := fun w h => List.mem_cons_of_mem _ (List.mem_append_right _ h)
  have hl : lv_has ls 4 [(0, .ref h0), (1, .int v1)] := hl
  refine lv_aload_n hx hb dX12_caught_0 rfl (lv_at hl 0 rfl) ?_
  refine lv_iload_n hx hb dX12_caught_1 rfl (lv_at hl 1 rfl) ?_
  obtain ⟨o2, hc2, hf⟩ := gb_b hf
  refine gp_callI (va_runV (As := [.int v1]) (rest := []) ⟨hx, hb, hml, hown, hts⟩ (c_X12_isPerson (l := l) (D := D) (b := b) (M := M) (cI := cI) (cL := cL) hc2) (cwV 1 hts gX12_caught_X12_isPerson rfl rfl rfl (by decide +kernel) ⟨Nat.le_of_ble_eq_true rfl, Nat.le_of_ble_eq_true rfl⟩) (gp_preV hKn hG mg_o rfl) rfl rfl hl.1 rfl (lv_room (Nat.le_of_ble_eq_true rfl)) dX12_caught_2 ⟨Nat.le_of_ble_eq_true rfl, Nat.le_of_ble_eq_true rfl⟩) hS (fun H locs hG hS => ?_)
  refine lv_if_ne (tgt := 14) hx hb dX12_caught_5 (by decide) (fun c5 => ?_) (fun c5 => ?_)
  · have hf := gb_f c5 hf
    refine lv_aload_n hx hb dX12_caught_14 rfl (lv_at hl 0 rfl) ?_
    refine gp_get (v := .int i_rowMany) (C := RX12) (T := TX12) (N := 33) (ci := 10) hx hb hts hin hown hK hG mg_o rfl 32 (by decide) (hts _ (List.mem_of_getElem? (i := 1) rfl)) (fun _ h9 => h9) rfl dX12_caught_15 ?_
    refine lv_istore_n (lv' := [(2, .int i_rowMany), (0, .ref h0), (1, .int v1)]) hx hb dX12_caught_18 rfl hl (by decide) rfl (fun ls hl => ?_)
    refine lv_aload_n hx hb dX12_caught_19 rfl (lv_at hl 1 rfl) ?_
    refine lv_iconst (v := 0) hx hb dX12_caught_20 (by decide) ?_
    refine gp_put (v := .int 0) (tyk := .int) (C := RX12) (T := TX12) (N := 33) (ci := 10) hx hb hts hin tyX12 tyX12_ok nmX12 hown hK hG hS mg_o rfl 32 (by decide) (hts _ (List.mem_of_getElem? (i := 1) rfl)) (fun _ h9 => h9) rfl rfl rfl rfl (Nat.le_of_ble_eq_true rfl) mu_rowMany dX12_caught_21 (fun H locs hG hS => ?_)
    refine lv_aload_n hx hb dX12_caught_24 rfl (lv_at hl 1 rfl) ?_
    obtain ⟨o25, hc25, hf⟩ := gb_b hf
    refine gp_callV (va_runV (As := []) (rest := []) ⟨hx, hb, hml, hown, hts⟩ (c_X12_findLit (l := l) (D := D) (b := b) (M := M) (cI := cI) (cL := cL) hc25) (cwV 0 hts gX12_caught_X12_findLit rfl rfl rfl (by decide +kernel) ⟨Nat.le_of_ble_eq_true rfl, Nat.le_of_ble_eq_true rfl⟩) (gp_preV hKn hG mg_o rfl) rfl rfl hl.1 rfl (lv_room (Nat.le_of_ble_eq_true rfl)) dX12_caught_25 ⟨Nat.le_of_ble_eq_true rfl, Nat.le_of_ble_eq_true rfl⟩) hS (fun H locs hG hS => ?_)
    refine lv_iconst (v := 0) hx hb dX12_caught_28 (by decide) ?_
    refine lv_istore_n (lv' := [(3, .int 0), (2, .int i_rowMany), (0, .ref h0), (1, .int v1)]) hx hb dX12_caught_29 rfl hl (by decide) rfl (fun ls hl => ?_)
    refine w_X12_caught_30 X _ _ hf (fun x30_66 hf H locs ls hG hS hl => ?_) (fun x30_74 hf H locs ls hG hS hl => ?_) _ _ _ hG hS (lv_sub hl [2, 1, 0] rfl)
    · refine lv_iload_n hx hb dX12_caught_66 rfl (lv_at hl 0 rfl) ?_
      have hf := Option.some.inj hf
      subst hf
      exact gp_retI hx hb hr hlocks hG hS (Nat.le_refl _) (Nat.le_refl _) dX12_caught_67
    · refine lv_bipush (v := (-9 : Int32)) hx hb dX12_caught_74 (by decide) ?_
      have hf := Option.some.inj hf
      subst hf
      exact gp_retI hx hb hr hlocks hG hS (Nat.le_refl _) (Nat.le_refl _) dX12_caught_76
  · have hf := gb_t c5 hf
    refine lv_aload_n hx hb dX12_caught_8 rfl (lv_at hl 0 rfl) ?_
    refine lv_iconst (v := (-1 : Int32)) hx hb dX12_caught_9 (by decide) ?_
    obtain ⟨o10, hc10, hf⟩ := gb_b hf
    refine gp_callI (va_runV (As := [.int (-1 : Int32)]) (rest := []) ⟨hx, hb, hml, hown, hts⟩ (c_X12_no (l := l) (D := D) (b := b) (M := M) (cI := cI) (cL := cL) hc10) (cwV 1 hts gX12_caught_X12_no rfl rfl rfl (by decide +kernel) ⟨Nat.le_of_ble_eq_true rfl, Nat.le_of_ble_eq_true rfl⟩) (gp_preV hKn hG mg_o rfl) rfl rfl hl.1 rfl (lv_room (Nat.le_of_ble_eq_true rfl)) dX12_caught_10 ⟨Nat.le_of_ble_eq_true rfl, Nat.le_of_ble_eq_true rfl⟩) hS (fun H locs hG hS => ?_)
    have hf := Option.some.inj hf
    subst hf
    exact gp_retI hx hb hr hlocks hG hS (Nat.le_refl _) (Nat.le_refl _) dX12_caught_13
-- X12_lots
abbrev rm_X12_lots : Room := { frames := 4, cells := 0, slots := 0, locals := 90 }
set_option maxHeartbeats 4000000 in
set_option maxRecDepth 100000 in
theorem w_X12_lots_46 {α : Type} {R : α} {K87 : Int32 → Option α} {v1 : Int32} {v2 : Int32} {v3 : Int32} (X : gC p s m args meth c cX12_lots 12 (some .int) wsX12_lots RX12 D b (gTy cI cL)) : ∀ (n : Nat) (v5 : Int32) (v6 : Int32), L_X12_lots_46 K87 a_kind i_lampMany v1 v2 v3 n v5 v6 = some R → (∀ (x : Int32), K87 x = some R → ∀ (H : Heap) (locs : List Loc) (ls : Array Slot), GP D b M (mg cI h0 a_refused a_isWall a_kind a_lampCell a_range a_lit a_scenes a_who a_cell a_minuteOf a_standsAt i_lampMany i_people i_minute a_tape a_letter a_letterAt a_told i_taped i_at i_statements a_kept i_hasImage i_isKeeping i_cursor a_far a_shut a_queue i_queued a_litBy a_may a_row i_rowMany g0) H → va_S (gA b) s.heap H locs → lv_has ls 12 [(0, .ref h0), (1, .int v1), (2, .int v2), (3, .int v3), (5, .int x)] → W p l e rm_X12_lots s m args below meth c H locs 0 0 Q (F0 m 87 ls [])) → ∀ (H : Heap) (locs : List Loc) (ls : Array Slot), GP D b M (mg cI h0 a_refused a_isWall a_kind a_lampCell a_range a_lit a_scenes a_who a_cell a_minuteOf a_standsAt i_lampMany i_people i_minute a_tape a_letter a_letterAt a_told i_taped i_at i_statements a_kept i_hasImage i_isKeeping i_cursor a_far a_shut a_queue i_queued a_litBy a_may a_row i_rowMany g0) H → va_S (gA b) s.heap H locs → lv_has ls 12 [(0, .ref h0), (1, .int v1), (2, .int v2), (3, .int v3), (5, .int v5), (6, .int v6)] → W p l e rm_X12_lots s m args below meth c H locs 0 0 Q (F0 m 46 ls []) := by
  obtain ⟨hx, hb, hr, hml, hown, hts, hlocks, hKn, hBs⟩ := id X
  have hK := hKn.1
  have hin : ∀ w ∈ wsX120, w ∈ wsX12_lots := fun w h => List.mem_cons_of_mem _ (List.mem_append_right _ h)
  intro n
  induction n with
  | zero =>
    intro v5 v6 hf
    cases hf
  | succ n ih =>
    intro v5 v6 hf hk87 H locs ls hG hS hl
    rw [L_X12_lots_46.eq_2] at hf
    refine lv_iload hx hb dX12_lots_46 (lv_at hl 5 rfl) ?_
    refine lv_aload_n hx hb dX12_lots_48 rfl (lv_at hl 0 rfl) ?_
    refine gp_get (v := .int i_lampMany) (C := RX12) (T := TX12) (N := 33) (ci := 10) hx hb hts hin hown hK hG mg_o rfl 11 (by decide) (hts _ (List.mem_of_getElem? (i := 1) rfl)) (fun _ h9 => h9) rfl dX12_lots_49 ?_
    refine lv_icmp_ge (tgt := 87) hx hb dX12_lots_52 (by decide) (fun c52 => ?_) (fun c52 => ?_)
    · have hf := gb_t c52 hf
      exact hk87 _ hf _ _ _ hG hS (lv_sub hl [0, 1, 2, 3, 4] rfl)
    · have hf := gb_f c52 hf
      refine lv_iload hx hb dX12_lots_55 (lv_at hl 4 rfl) ?_
      refine lv_aload_n hx hb dX12_lots_57 rfl (lv_at hl 0 rfl) ?_
      refine gp_get (v := .ref (h0 + 3)) (C := RX12) (T := TX12) (N := 33) (ci := 10) hx hb hts hin hown hK hG mg_o rfl 2 (by decide) (hts _ (List.mem_of_getElem? (i := 2) rfl)) (fun _ h9 => h9) rfl dX12_lots_58 ?_
      refine lv_iload hx hb dX12_lots_61 (lv_at hl 5 rfl) ?_
      obtain ⟨b63, hf⟩ := gb_ix hf
      refine gp_iald hx hb hK hG mg_kind b63 dX12_lots_63 ?_
      refine lv_iconst (v := 2) hx hb dX12_lots_64 (by decide) ?_
      have hJ65 : ∀ Z : Int32, Z = (if (a_kind v6.toNatClampNeg) = 2 then ((1 : Int32) <<< (v6 &&& 31)) ^^^ (-1 : Int32) else (-1 : Int32)) → W p l e rm_X12_lots s m args below meth c H locs 0 0 Q (F0 m 78 ls (.int Z :: [.int v5])) := by
        intro Z hZ
        subst hZ
        refine lv_iand hx hb dX12_lots_78 ?_
        refine lv_istore (lv' := [(5, .int (v5 &&& (if (a_kind v6.toNatClampNeg) = 2 then ((1 : Int32) <<< (v6 &&& 31)) ^^^ (-1 : Int32) else (-1 : Int32)))), (0, .ref h0), (1, .int v1), (2, .int v2), (3, .int v3), (6, .int v6)]) hx hb dX12_lots_79 hl (by decide) rfl (fun ls hl => ?_)
        refine lv_iinc (v := v6 + 1) (lv' := [(6, .int (v6 + 1)), (5, .int (v5 &&& (if (a_kind v6.toNatClampNeg) = 2 then ((1 : Int32) <<< (v6 &&& 31)) ^^^ (-1 : Int32) else (-1 : Int32)))), (0, .ref h0), (1, .int v1), (2, .int v2), (3, .int v3)]) hx hb dX12_lots_81 hl (k := 5) rfl rfl (by decide) rfl (fun ls hl => ?_)
        refine lv_goto (tgt := 46) hx hb dX12_lots_84 (by decide) ?_
        exact ih _ _ hf hk87 _ _ _ hG hS (lv_sub hl [2, 3, 4, 5, 1, 0] rfl)
      refine lv_icmp_ne (tgt := 77) hx hb dX12_lots_65 (by decide) (fun c65 => ?_) (fun c65 => ?_)
      · rw [if_neg c65] at hJ65
        refine lv_iconst (v := (-1 : Int32)) hx hb dX12_lots_77 (by decide) ?_
        exact hJ65 _ rfl
      · rw [if_pos c65] at hJ65
        refine lv_iconst (v := 1) hx hb dX12_lots_68 (by decide) ?_
        refine lv_iload hx hb dX12_lots_69 (lv_at hl 5 rfl) ?_
        refine lv_ishl hx hb dX12_lots_71 ?_
        refine lv_iconst (v := (-1 : Int32)) hx hb dX12_lots_72 (by decide) ?_
        refine lv_ixor hx hb dX12_lots_73 ?_
        refine lv_goto (tgt := 78) hx hb dX12_lots_74 (by decide) ?_
        exact hJ65 _ rfl
set_option maxHeartbeats 4000000 in
set_option maxRecDepth 100000 in
theorem w_X12_lots_113 {α : Type} {R : α} {K200 : (Int32 × Int32) → Option α} {v1 : Int32} {v2 : Int32} {v5 : Int32} {v8 : Int32} (X : gC p s m args meth c cX12_lots 12 (some .int) wsX12_lots RX12 D b (gTy cI cL)) : ∀ (n : Nat) (v6 : Int32) (v7 : Int32) (v9 : Int32) (v10 : Int32), L_X12_lots_113 K200 a_isWall a_litBy v1 v2 v5 v8 n v6 v7 v9 v10 = some R → (∀ (x : Int32 × Int32), K200 x = some R → ∀ (H : Heap) (locs : List Loc) (ls : Array Slot), GP D b M (mg cI h0 a_refused a_isWall a_kind a_lampCell a_range a_lit a_scenes a_who a_cell a_minuteOf a_standsAt i_lampMany i_people i_minute a_tape a_letter a_letterAt a_told i_taped i_at i_statements a_kept i_hasImage i_isKeeping i_cursor a_far a_shut a_queue i_queued a_litBy a_may a_row i_rowMany g0) H → va_S (gA b) s.heap H locs → lv_has ls 12 [(0, .ref h0), (1, .int v1), (2, .int v2), (5, .int v5), (6, .int x.1), (7, .int x.2), (8, .int v8)] → W p l e rm_X12_lots s m args below meth c H locs 0 0 Q (F0 m 200 ls [])) → ∀ (H : Heap) (locs : List Loc) (ls : Array Slot), GP D b M (mg cI h0 a_refused a_isWall a_kind a_lampCell a_range a_lit a_scenes a_who a_cell a_minuteOf a_standsAt i_lampMany i_people i_minute a_tape a_letter a_letterAt a_told i_taped i_at i_statements a_kept i_hasImage i_isKeeping i_cursor a_far a_shut a_queue i_queued a_litBy a_may a_row i_rowMany g0) H → va_S (gA b) s.heap H locs → lv_has ls 12 [(0, .ref h0), (1, .int v1), (2, .int v2), (5, .int v5), (6, .int v6), (7, .int v7), (8, .int v8), (9, .int v9), (10, .int v10)] → W p l e rm_X12_lots s m args below meth c H locs 0 0 Q (F0 m 113 ls []) := by
  obtain ⟨hx, hb, hr, hml, hown, hts, hlocks, hKn, hBs⟩ := id X
  have hK := hKn.1
  have hin : ∀ w ∈ wsX120, w ∈ wsX12_lots := fun w h => List.mem_cons_of_mem _ (List.mem_append_right _ h)
  intro n
  induction n with
  | zero =>
    intro v6 v7 v9 v10 hf
    cases hf
  | succ n ih =>
    intro v6 v7 v9 v10 hf hk200 H locs ls hG hS hl
    rw [L_X12_lots_113.eq_2] at hf
    refine lv_iload hx hb dX12_lots_113 (lv_at hl 8 rfl) ?_
    refine lv_bipush (v := 12) hx hb dX12_lots_115 (by decide) ?_
    refine lv_icmp_ge (tgt := 200) hx hb dX12_lots_117 (by decide) (fun c117 => ?_) (fun c117 => ?_)
    · have hf := gb_t c117 hf
      exact hk200 _ hf _ _ _ hG hS (lv_sub hl [0, 1, 2, 3, 4, 5, 6] rfl)
    · have hf := gb_f c117 hf
      refine lv_iload hx hb dX12_lots_120 (lv_at hl 4 rfl) ?_
      refine lv_ldcw (v := 1664525) hx hb hown (hts _ (List.mem_of_getElem? (i := 4) rfl)) dX12_lots_122 ?_
      refine lv_imul hx hb dX12_lots_125 ?_
      refine lv_ldcw (v := 1013904223) hx hb hown (hts _ (List.mem_of_getElem? (i := 5) rfl)) dX12_lots_126 ?_
      refine lv_iadd hx hb dX12_lots_129 ?_
      refine lv_istore (lv' := [(6, .int ((v6 * 1664525) + 1013904223)), (0, .ref h0), (1, .int v1), (2, .int v2), (5, .int v5), (7, .int v7), (8, .int v8), (9, .int v9), (10, .int v10)]) hx hb dX12_lots_130 hl (by decide) rfl (fun ls hl => ?_)
      refine lv_iload hx hb dX12_lots_132 (lv_at hl 7 rfl) ?_
      refine lv_iload hx hb dX12_lots_134 (lv_at hl 0 rfl) ?_
      refine lv_ldcw (v := 2147483647) hx hb hown (hts _ (List.mem_of_getElem? (i := 6) rfl)) dX12_lots_136 ?_
      refine lv_iand hx hb dX12_lots_139 ?_
      refine lv_sipush (v := 256) hx hb dX12_lots_140 (by decide) ?_
      refine lv_idiv hx hb dX12_lots_143 (by decide) ?_
      refine lv_iconst (v := 4) hx hb dX12_lots_144 (by decide) ?_
      refine lv_irem hx hb dX12_lots_145 (by decide) ?_
      obtain ⟨o146, hc146, hf⟩ := gb_b hf
      refine gp_callI (va_runS (As := [.int v9, .int (((((v6 * 1664525) + 1013904223) &&& 2147483647) / 256) - ((((v6 * 1664525) + 1013904223) &&& 2147483647) / 256) / 4 * 4)]) (rest := []) ⟨hx, hb, hml, hown, hts⟩ (c_X12_beside (l := l) (D := D) (b := b) (M := M) (cI := cI) (cL := cL) hc146) (va_cwS 2 hts gX12_lots_X12_beside rfl rfl rfl (by decide +kernel) ⟨Nat.le_of_ble_eq_true rfl, Nat.le_of_ble_eq_true rfl⟩) (gp_preS hKn hG) rfl rfl hl.1 rfl (lv_room (Nat.le_of_ble_eq_true rfl)) dX12_lots_146 ⟨Nat.le_of_ble_eq_true rfl, Nat.le_of_ble_eq_true rfl⟩) hS (fun H locs hG hS => ?_)
      refine lv_istore (lv' := [(11, .int o146), (6, .int ((v6 * 1664525) + 1013904223)), (0, .ref h0), (1, .int v1), (2, .int v2), (5, .int v5), (7, .int v7), (8, .int v8), (9, .int v9), (10, .int v10)]) hx hb dX12_lots_149 hl (by decide) rfl (fun ls hl => ?_)
      refine lv_iload hx hb dX12_lots_151 (lv_at hl 0 rfl) ?_
      obtain ⟨j153, hj153, hf⟩ := gb_b hf
      have hJ153 : ∀ (H : Heap) (locs : List Loc) (ls : Array Slot), GP D b M (mg cI h0 a_refused a_isWall a_kind a_lampCell a_range a_lit a_scenes a_who a_cell a_minuteOf a_standsAt i_lampMany i_people i_minute a_tape a_letter a_letterAt a_told i_taped i_at i_statements a_kept i_hasImage i_isKeeping i_cursor a_far a_shut a_queue i_queued a_litBy a_may a_row i_rowMany g0) H → va_S (gA b) s.heap H locs → lv_has ls 12 [(0, .ref h0), (1, .int v1), (2, .int v2), (5, .int v5), (6, .int ((v6 * 1664525) + 1013904223)), (7, .int v7), (8, .int v8), (10, .int v10)] → W p l e rm_X12_lots s m args below meth c H locs 0 0 Q (F0 m 174 ls [.int j153]) := by
        intro H locs ls hG hS hl
        refine lv_istore (lv' := [(9, .int j153), (0, .ref h0), (1, .int v1), (2, .int v2), (5, .int v5), (6, .int ((v6 * 1664525) + 1013904223)), (7, .int v7), (8, .int v8), (10, .int v10)]) hx hb dX12_lots_174 hl (by decide) rfl (fun ls hl => ?_)
        refine lv_iload hx hb dX12_lots_176 (lv_at hl 6 rfl) ?_
        refine lv_aload_n hx hb dX12_lots_178 rfl (lv_at hl 1 rfl) ?_
        refine gp_get (v := .ref (h0 + 20)) (C := RX12) (T := TX12) (N := 33) (ci := 10) hx hb hts hin hown hK hG mg_o rfl 29 (by decide) (hts _ (List.mem_of_getElem? (i := 8) rfl)) (fun _ h9 => h9) rfl dX12_lots_179 ?_
        refine lv_iload hx hb dX12_lots_182 (lv_at hl 0 rfl) ?_
        obtain ⟨b184, hf⟩ := gb_ix hf
        refine gp_iald hx hb hK hG mg_litBy b184 dX12_lots_184 ?_
        refine lv_iload hx hb dX12_lots_185 (lv_at hl 4 rfl) ?_
        refine lv_iand hx hb dX12_lots_187 ?_
        obtain ⟨o188, hc188, hf⟩ := gb_b hf
        refine gp_callI (va_runS (As := [.int ((a_litBy j153.toNatClampNeg) &&& v5)]) (rest := [.int v7]) ⟨hx, hb, hml, hown, hts⟩ (c_X12_bits (l := l) (D := D) (b := b) (M := M) (cI := cI) (cL := cL) hc188) (va_cwS 1 hts gX12_lots_X12_bits rfl rfl rfl (by decide +kernel) ⟨Nat.le_of_ble_eq_true rfl, Nat.le_of_ble_eq_true rfl⟩) (gp_preS hKn hG) rfl rfl hl.1 rfl (lv_room (Nat.le_of_ble_eq_true rfl)) dX12_lots_188 ⟨Nat.le_of_ble_eq_true rfl, Nat.le_of_ble_eq_true rfl⟩) hS (fun H locs hG hS => ?_)
        refine lv_iadd hx hb dX12_lots_191 ?_
        refine lv_istore (lv' := [(7, .int (v7 + o188)), (9, .int j153), (0, .ref h0), (1, .int v1), (2, .int v2), (5, .int v5), (6, .int ((v6 * 1664525) + 1013904223)), (8, .int v8), (10, .int v10)]) hx hb dX12_lots_192 hl (by decide) rfl (fun ls hl => ?_)
        refine lv_iinc (v := v10 + 1) (lv' := [(10, .int (v10 + 1)), (7, .int (v7 + o188)), (9, .int j153), (0, .ref h0), (1, .int v1), (2, .int v2), (5, .int v5), (6, .int ((v6 * 1664525) + 1013904223)), (8, .int v8)]) hx hb dX12_lots_194 hl (k := 8) rfl rfl (by decide) rfl (fun ls hl => ?_)
        refine lv_goto (tgt := 113) hx hb dX12_lots_197 (by decide) ?_
        exact ih _ _ _ _ hf hk200 _ _ _ hG hS (lv_sub hl [3, 4, 5, 6, 7, 1, 8, 2, 0] rfl)
      refine lv_if_lt (tgt := 167) hx hb dX12_lots_153 (by decide) (fun c153 => ?_) (fun c153 => ?_)
      · have hj153 := gb_t c153 hj153
        refine lv_iload hx hb dX12_lots_167 (lv_at hl 8 rfl) ?_
        refine lv_goto (tgt := 174) hx hb dX12_lots_169 (by decide) ?_
        have hj153 := Option.some.inj hj153
        subst hj153
        exact hJ153 H locs ls hG hS (lv_sub hl [2, 3, 4, 5, 1, 6, 7, 9] rfl)
      · have hj153 := gb_f c153 hj153
        refine lv_aload_n hx hb dX12_lots_156 rfl (lv_at hl 2 rfl) ?_
        refine gp_get (v := .ref (h0 + 2)) (C := RX12) (T := TX12) (N := 33) (ci := 10) hx hb hts hin hown hK hG mg_o rfl 1 (by decide) (hts _ (List.mem_of_getElem? (i := 7) rfl)) (fun _ h9 => h9) rfl dX12_lots_157 ?_
        refine lv_iload hx hb dX12_lots_160 (lv_at hl 0 rfl) ?_
        obtain ⟨b162, hj153⟩ := gb_ix hj153
        refine gp_iald hx hb hK hG mg_isWall b162 dX12_lots_162 ?_
        refine lv_iconst (v := 1) hx hb dX12_lots_163 (by decide) ?_
        refine lv_icmp_ne (tgt := 172) hx hb dX12_lots_164 (by decide) (fun c164 => ?_) (fun c164 => ?_)
        · have hj153 := gb_f c164 hj153
          refine lv_iload hx hb dX12_lots_172 (lv_at hl 0 rfl) ?_
          have hj153 := Option.some.inj hj153
          subst hj153
          exact hJ153 H locs ls hG hS (lv_sub hl [2, 3, 4, 5, 1, 6, 7, 9] rfl)
        · have hj153 := gb_t c164 hj153
          refine lv_iload hx hb dX12_lots_167 (lv_at hl 8 rfl) ?_
          refine lv_goto (tgt := 174) hx hb dX12_lots_169 (by decide) ?_
          have hj153 := Option.some.inj hj153
          subst hj153
          exact hJ153 H locs ls hG hS (lv_sub hl [2, 3, 4, 5, 1, 6, 7, 9] rfl)
set_option maxHeartbeats 4000000 in
set_option maxRecDepth 100000 in
theorem w_X12_lots_96 {α : Type} {R : α} {K206 : Int32 → Option α} {v1 : Int32} {v2 : Int32} {v5 : Int32} (X : gC p s m args meth c cX12_lots 12 (some .int) wsX12_lots RX12 D b (gTy cI cL)) : ∀ (n : Nat) (v6 : Int32) (v7 : Int32) (v8 : Int32), L_X12_lots_96 K206 a_isWall a_standsAt a_litBy v1 v2 v5 n v6 v7 v8 = some R → (∀ (x : Int32), K206 x = some R → ∀ (H : Heap) (locs : List Loc) (ls : Array Slot), GP D b M (mg cI h0 a_refused a_isWall a_kind a_lampCell a_range a_lit a_scenes a_who a_cell a_minuteOf a_standsAt i_lampMany i_people i_minute a_tape a_letter a_letterAt a_told i_taped i_at i_statements a_kept i_hasImage i_isKeeping i_cursor a_far a_shut a_queue i_queued a_litBy a_may a_row i_rowMany g0) H → va_S (gA b) s.heap H locs → lv_has ls 12 [(7, .int x)] → W p l e rm_X12_lots s m args below meth c H locs 0 0 Q (F0 m 206 ls [])) → ∀ (H : Heap) (locs : List Loc) (ls : Array Slot), GP D b M (mg cI h0 a_refused a_isWall a_kind a_lampCell a_range a_lit a_scenes a_who a_cell a_minuteOf a_standsAt i_lampMany i_people i_minute a_tape a_letter a_letterAt a_told i_taped i_at i_statements a_kept i_hasImage i_isKeeping i_cursor a_far a_shut a_queue i_queued a_litBy a_may a_row i_rowMany g0) H → va_S (gA b) s.heap H locs → lv_has ls 12 [(0, .ref h0), (1, .int v1), (2, .int v2), (5, .int v5), (6, .int v6), (7, .int v7), (8, .int v8)] → W p l e rm_X12_lots s m args below meth c H locs 0 0 Q (F0 m 96 ls []) := by
  obtain ⟨hx, hb, hr, hml, hown, hts, hlocks, hKn, hBs⟩ := id X
  have hK := hKn.1
  have hin : ∀ w ∈ wsX120, w ∈ wsX12_lots := fun w h => List.mem_cons_of_mem _ (List.mem_append_right _ h)
  intro n
  induction n with
  | zero =>
    intro v6 v7 v8 hf
    cases hf
  | succ n ih =>
    intro v6 v7 v8 hf hk206 H locs ls hG hS hl
    rw [L_X12_lots_96.eq_2] at hf
    refine lv_iload hx hb dX12_lots_96 (lv_at hl 6 rfl) ?_
    refine lv_iload_n hx hb dX12_lots_98 rfl (lv_at hl 2 rfl) ?_
    refine lv_icmp_ge (tgt := 206) hx hb dX12_lots_99 (by decide) (fun c99 => ?_) (fun c99 => ?_)
    · have hf := gb_t c99 hf
      exact hk206 _ hf _ _ _ hG hS (lv_sub hl [5] rfl)
    · have hf := gb_f c99 hf
      refine lv_aload_n hx hb dX12_lots_102 rfl (lv_at hl 0 rfl) ?_
      refine gp_get (v := .ref (h0 + 11)) (C := RX12) (T := TX12) (N := 33) (ci := 10) hx hb hts hin hown hK hG mg_o rfl 10 (by decide) (hts _ (List.mem_of_getElem? (i := 3) rfl)) (fun _ h9 => h9) rfl dX12_lots_103 ?_
      refine lv_iload_n hx hb dX12_lots_106 rfl (lv_at hl 1 rfl) ?_
      obtain ⟨b107, hf⟩ := gb_ix hf
      refine gp_iald hx hb hK hG mg_standsAt b107 dX12_lots_107 ?_
      refine lv_istore (lv' := [(9, .int (a_standsAt v1.toNatClampNeg)), (0, .ref h0), (1, .int v1), (2, .int v2), (5, .int v5), (6, .int v6), (7, .int v7), (8, .int v8)]) hx hb dX12_lots_108 hl (by decide) rfl (fun ls hl => ?_)
      refine lv_iconst (v := 0) hx hb dX12_lots_110 (by decide) ?_
      refine lv_istore (lv' := [(10, .int 0), (9, .int (a_standsAt v1.toNatClampNeg)), (0, .ref h0), (1, .int v1), (2, .int v2), (5, .int v5), (6, .int v6), (7, .int v7), (8, .int v8)]) hx hb dX12_lots_111 hl (by decide) rfl (fun ls hl => ?_)
      refine w_X12_lots_113 X _ _ _ _ _ hf (fun x113_200 hf H locs ls hG hS hl => ?_) _ _ _ hG hS (lv_sub hl [2, 3, 4, 5, 6, 7, 8, 1, 0] rfl)
      · refine lv_iinc (v := v8 + 1) (lv' := [(8, .int (v8 + 1)), (0, .ref h0), (1, .int v1), (2, .int v2), (5, .int v5), (6, .int x113_200.1), (7, .int x113_200.2)]) hx hb dX12_lots_200 hl (k := 6) rfl rfl (by decide) rfl (fun ls hl => ?_)
        refine lv_goto (tgt := 96) hx hb dX12_lots_203 (by decide) ?_
        exact ih _ _ _ hf hk206 _ _ _ hG hS (lv_sub hl [1, 2, 3, 4, 5, 6, 0] rfl)
set_option maxHeartbeats 4000000 in
set_option maxRecDepth 100000 in
theorem c_X12_lots {v1 : Int32} {v2 : Int32} {v3 : Int32} {R : Int32 × (Nat → Int32) × (Nat → Int32) × (Nat → Int32) × (Nat → Int32) × Int32 × (Nat → Int32)} (hf : f_X12_lots a_refused a_isWall a_kind a_lampCell a_range a_lit a_standsAt i_lampMany i_people a_far a_shut a_queue i_queued a_litBy v1 v2 v3 = some R) : Met l yX12_lots wsX12_lots rm_X12_lots (va_Pc [.ref h0, .int v1, .int v2, .int v3] (gPre D b M (mg cI h0 a_refused a_isWall a_kind a_lampCell a_range a_lit a_scenes a_who a_cell a_minuteOf a_standsAt i_lampMany i_people i_minute a_tape a_letter a_letterAt a_told i_taped i_at i_statements a_kept i_hasImage i_isKeeping i_cursor a_far a_shut a_queue i_queued a_litBy a_may a_row i_rowMany g0) (gTy cI cL))) (gQ D b (some (.int R.1)) M (mg cI h0 R.2.1 a_isWall a_kind a_lampCell a_range a_lit a_scenes a_who a_cell a_minuteOf a_standsAt i_lampMany i_people i_minute a_tape a_letter a_letterAt a_told i_taped i_at i_statements a_kept i_hasImage i_isKeeping i_cursor R.2.2.1 R.2.2.2.1 R.2.2.2.2.1 R.2.2.2.2.2.1 R.2.2.2.2.2.2 a_may a_row i_rowMany g0)) 0 0 (gA b) := by
  refine gp_met (cc := cX12_lots) (maxL := 12) (ret := (some .int)) (by decide) rfl (Nat.le_of_ble_eq_true rfl) ?_
  intro p e s m below meth c X ls hG hl
  have hS : va_S (gA b) s.heap s.heap [] := va_S.rf
  obtain ⟨H, hH0⟩ : ∃ H : Heap, H = s.heap := ⟨_, rfl⟩
  rw [← hH0] at hG ⊢
  have hS : va_S (gA b) s.heap H [] := by rw [hH0]; exact va_S.rf
  obtain ⟨locs, hlo⟩ : ∃ z : List Loc, z = [] := ⟨_, rfl⟩
  rw [← hlo] at hS ⊢
  unfold f_X12_lots at hf
  obtain ⟨hx, hb, hr, hml, hown, hts, hlocks, hKn, hBs⟩ := id X
  have hK := hKn.1
  have hin : ∀ w ∈ wsX120, w ∈ wsX12_lots := fun w h => List.mem_cons_of_mem _ (List.mem_append_right _ h)
  have hl : lv_has ls 12 [(0, .ref h0), (1, .int v1), (2, .int v2), (3, .int v3)] := hl
  refine lv_aload_n hx hb dX12_lots_0 rfl (lv_at hl 0 rfl) ?_
  refine lv_iload_n hx hb dX12_lots_1 rfl (lv_at hl 1 rfl) ?_
  obtain ⟨o2, hc2, hf⟩ := gb_b hf
  refine gp_callI (va_runV (As := [.int v1]) (rest := []) ⟨hx, hb, hml, hown, hts⟩ (c_X12_isPerson (l := l) (D := D) (b := b) (M := M) (cI := cI) (cL := cL) hc2) (cwV 1 hts gX12_lots_X12_isPerson rfl rfl rfl (by decide +kernel) ⟨Nat.le_of_ble_eq_true rfl, Nat.le_of_ble_eq_true rfl⟩) (gp_preV hKn hG mg_o rfl) rfl rfl hl.1 rfl (lv_room (Nat.le_of_ble_eq_true rfl)) dX12_lots_2 ⟨Nat.le_of_ble_eq_true rfl, Nat.le_of_ble_eq_true rfl⟩) hS (fun H locs hG hS => ?_)
  obtain ⟨j5, hj5, hf⟩ := gb_b hf
  have hJ5 : ∀ (H : Heap) (locs : List Loc) (ls : Array Slot), GP D b M (mg cI h0 a_refused a_isWall a_kind a_lampCell a_range a_lit a_scenes a_who a_cell a_minuteOf a_standsAt i_lampMany i_people i_minute a_tape a_letter a_letterAt a_told i_taped i_at i_statements a_kept i_hasImage i_isKeeping i_cursor a_far a_shut a_queue i_queued a_litBy a_may a_row i_rowMany g0) H → va_S (gA b) s.heap H locs → lv_has ls 12 [(0, .ref h0), (1, .int v1), (2, .int v2), (3, .int v3)] → W p l e rm_X12_lots s m [.ref h0, .int v1, .int v2, .int v3].toArray below meth c H locs 0 0 (MQ below (gQ D b (some (.int R.1)) M (mg cI h0 R.2.1 a_isWall a_kind a_lampCell a_range a_lit a_scenes a_who a_cell a_minuteOf a_standsAt i_lampMany i_people i_minute a_tape a_letter a_letterAt a_told i_taped i_at i_statements a_kept i_hasImage i_isKeeping i_cursor R.2.2.1 R.2.2.2.1 R.2.2.2.2.1 R.2.2.2.2.2.1 R.2.2.2.2.2.2 a_may a_row i_rowMany g0)) [.ref h0, .int v1, .int v2, .int v3].toArray s 0 0 (gA b)) (F0 m 19 ls [.int j5]) := by
    intro H locs ls hG hS hl
    refine lv_istore (lv' := [(4, .int j5), (0, .ref h0), (1, .int v1), (2, .int v2), (3, .int v3)]) hx hb dX12_lots_19 hl (by decide) rfl (fun ls hl => ?_)
    refine lv_iload hx hb dX12_lots_21 (lv_at hl 0 rfl) ?_
    refine lv_if_eq (tgt := 33) hx hb dX12_lots_23 (by decide) (fun c23 => ?_) (fun c23 => ?_)
    · have hf := gb_t c23 hf
      refine lv_aload_n hx hb dX12_lots_33 rfl (lv_at hl 1 rfl) ?_
      obtain ⟨o34, hc34, hf⟩ := gb_b hf
      refine gp_callV (va_runV (As := []) (rest := []) ⟨hx, hb, hml, hown, hts⟩ (c_X12_findLit (l := l) (D := D) (b := b) (M := M) (cI := cI) (cL := cL) hc34) (cwV 0 hts gX12_lots_X12_findLit rfl rfl rfl (by decide +kernel) ⟨Nat.le_of_ble_eq_true rfl, Nat.le_of_ble_eq_true rfl⟩) (gp_preV hKn hG mg_o rfl) rfl rfl hl.1 rfl (lv_room (Nat.le_of_ble_eq_true rfl)) dX12_lots_34 ⟨Nat.le_of_ble_eq_true rfl, Nat.le_of_ble_eq_true rfl⟩) hS (fun H locs hG hS => ?_)
      refine lv_aload_n hx hb dX12_lots_37 rfl (lv_at hl 1 rfl) ?_
      obtain ⟨o38, hc38, hf⟩ := gb_b hf
      refine gp_callI (va_runV (As := []) (rest := []) ⟨hx, hb, hml, hown, hts⟩ (c_X12_litBits (l := l) (D := D) (b := b) (M := M) (cI := cI) (cL := cL) hc38) (cwV 0 hts gX12_lots_X12_litBits rfl rfl rfl (by decide +kernel) ⟨Nat.le_of_ble_eq_true rfl, Nat.le_of_ble_eq_true rfl⟩) (gp_preV hKn hG mg_o rfl) rfl rfl hl.1 rfl (lv_room (Nat.le_of_ble_eq_true rfl)) dX12_lots_38 ⟨Nat.le_of_ble_eq_true rfl, Nat.le_of_ble_eq_true rfl⟩) hS (fun H locs hG hS => ?_)
      refine lv_istore (lv' := [(5, .int o38), (4, .int j5), (0, .ref h0), (1, .int v1), (2, .int v2), (3, .int v3)]) hx hb dX12_lots_41 hl (by decide) rfl (fun ls hl => ?_)
      refine lv_iconst (v := 0) hx hb dX12_lots_43 (by decide) ?_
      refine lv_istore (lv' := [(6, .int 0), (5, .int o38), (4, .int j5), (0, .ref h0), (1, .int v1), (2, .int v2), (3, .int v3)]) hx hb dX12_lots_44 hl (by decide) rfl (fun ls hl => ?_)
      refine w_X12_lots_46 X _ _ _ hf (fun x46_87 hf H locs ls hG hS hl => ?_) _ _ _ hG hS (lv_sub hl [3, 4, 5, 6, 1, 0] rfl)
      · refine lv_iload_n hx hb dX12_lots_87 rfl (lv_at hl 3 rfl) ?_
        refine lv_istore (lv' := [(6, .int v3), (0, .ref h0), (1, .int v1), (2, .int v2), (3, .int v3), (5, .int x46_87)]) hx hb dX12_lots_88 hl (by decide) rfl (fun ls hl => ?_)
        refine lv_iconst (v := 0) hx hb dX12_lots_90 (by decide) ?_
        refine lv_istore (lv' := [(7, .int 0), (6, .int v3), (0, .ref h0), (1, .int v1), (2, .int v2), (3, .int v3), (5, .int x46_87)]) hx hb dX12_lots_91 hl (by decide) rfl (fun ls hl => ?_)
        refine lv_iconst (v := 0) hx hb dX12_lots_93 (by decide) ?_
        refine lv_istore (lv' := [(8, .int 0), (7, .int 0), (6, .int v3), (0, .ref h0), (1, .int v1), (2, .int v2), (3, .int v3), (5, .int x46_87)]) hx hb dX12_lots_94 hl (by decide) rfl (fun ls hl => ?_)
        refine w_X12_lots_96 X _ _ _ _ hf (fun x96_206 hf H locs ls hG hS hl => ?_) _ _ _ hG hS (lv_sub hl [3, 4, 5, 7, 2, 1, 0] rfl)
        · refine lv_iload hx hb dX12_lots_206 (lv_at hl 0 rfl) ?_
          have hf := Option.some.inj hf
          subst hf
          exact gp_retI hx hb hr hlocks hG hS (Nat.le_refl _) (Nat.le_refl _) dX12_lots_208
    · have hf := gb_f c23 hf
      refine lv_aload_n hx hb dX12_lots_26 rfl (lv_at hl 1 rfl) ?_
      refine lv_iload hx hb dX12_lots_27 (lv_at hl 0 rfl) ?_
      obtain ⟨o29, hc29, hf⟩ := gb_b hf
      refine gp_callI (va_runV (As := [.int j5]) (rest := []) ⟨hx, hb, hml, hown, hts⟩ (c_X12_no (l := l) (D := D) (b := b) (M := M) (cI := cI) (cL := cL) hc29) (cwV 1 hts gX12_lots_X12_no rfl rfl rfl (by decide +kernel) ⟨Nat.le_of_ble_eq_true rfl, Nat.le_of_ble_eq_true rfl⟩) (gp_preV hKn hG mg_o rfl) rfl rfl hl.1 rfl (lv_room (Nat.le_of_ble_eq_true rfl)) dX12_lots_29 ⟨Nat.le_of_ble_eq_true rfl, Nat.le_of_ble_eq_true rfl⟩) hS (fun H locs hG hS => ?_)
      have hf := Option.some.inj hf
      subst hf
      exact gp_retI hx hb hr hlocks hG hS (Nat.le_refl _) (Nat.le_refl _) dX12_lots_32
  refine lv_if_ne (tgt := 12) hx hb dX12_lots_5 (by decide) (fun c5 => ?_) (fun c5 => ?_)
  · have hj5 := gb_f c5 hj5
    refine lv_iload_n hx hb dX12_lots_12 rfl (lv_at hl 2 rfl) ?_
    refine lv_iconst (v := 1) hx hb dX12_lots_13 (by decide) ?_
    refine lv_bipush (v := 20) hx hb dX12_lots_14 (by decide) ?_
    obtain ⟨o16, hc16, hj5⟩ := gb_b hj5
    refine gp_callI (va_runS (As := [.int v2, .int 1, .int 20]) (rest := []) ⟨hx, hb, hml, hown, hts⟩ (c_X12_bound (l := l) (D := D) (b := b) (M := M) (cI := cI) (cL := cL) hc16) (va_cwS 3 hts gX12_lots_X12_bound rfl rfl rfl (by decide +kernel) ⟨Nat.le_of_ble_eq_true rfl, Nat.le_of_ble_eq_true rfl⟩) (gp_preS hKn hG) rfl rfl hl.1 rfl (lv_room (Nat.le_of_ble_eq_true rfl)) dX12_lots_16 ⟨Nat.le_of_ble_eq_true rfl, Nat.le_of_ble_eq_true rfl⟩) hS (fun H locs hG hS => ?_)
    have hj5 := Option.some.inj hj5
    subst hj5
    exact hJ5 H locs ls hG hS (lv_sub hl [0, 1, 2, 3] rfl)
  · have hj5 := gb_t c5 hj5
    refine lv_iconst (v := (-1 : Int32)) hx hb dX12_lots_8 (by decide) ?_
    refine lv_goto (tgt := 19) hx hb dX12_lots_9 (by decide) ?_
    have hj5 := Option.some.inj hj5
    subst hj5
    exact hJ5 H locs ls hG hS (lv_sub hl [0, 1, 2, 3] rfl)
-- X12_count
abbrev rm_X12_count : Room := { frames := 5, cells := 0, slots := 0, locals := 113 }
set_option maxHeartbeats 4000000 in
set_option maxRecDepth 100000 in
theorem w_X12_count_98 {α : Type} {R : α} {K121 : Int32 → Option α} (X : gC p s m args meth c cX12_count 4 (some .int) wsX12_count RX12 D b (gTy cI cL)) : ∀ (n : Nat) (v2 : Int32) (v3 : Int32), L_X12_count_98 K121 a_scenes i_lampMany n v2 v3 = some R → (∀ (x : Int32), K121 x = some R → ∀ (H : Heap) (locs : List Loc) (ls : Array Slot), GP D b M (mg cI h0 a_refused a_isWall a_kind a_lampCell a_range a_lit a_scenes a_who a_cell a_minuteOf a_standsAt i_lampMany i_people i_minute a_tape a_letter a_letterAt a_told i_taped i_at i_statements a_kept i_hasImage i_isKeeping i_cursor a_far a_shut a_queue i_queued a_litBy a_may a_row i_rowMany g0) H → va_S (gA b) s.heap H locs → lv_has ls 4 [(2, .int x)] → W p l e rm_X12_count s m args below meth c H locs 0 0 Q (F0 m 121 ls [])) → ∀ (H : Heap) (locs : List Loc) (ls : Array Slot), GP D b M (mg cI h0 a_refused a_isWall a_kind a_lampCell a_range a_lit a_scenes a_who a_cell a_minuteOf a_standsAt i_lampMany i_people i_minute a_tape a_letter a_letterAt a_told i_taped i_at i_statements a_kept i_hasImage i_isKeeping i_cursor a_far a_shut a_queue i_queued a_litBy a_may a_row i_rowMany g0) H → va_S (gA b) s.heap H locs → lv_has ls 4 [(0, .ref h0), (2, .int v2), (3, .int v3)] → W p l e rm_X12_count s m args below meth c H locs 0 0 Q (F0 m 98 ls []) := by
  obtain ⟨hx, hb, hr, hml, hown, hts, hlocks, hKn, hBs⟩ := id X
  have hK := hKn.1
  have hin : ∀ w ∈ wsX120, w ∈ wsX12_count := fun w h => List.mem_cons_of_mem _ (List.mem_append_right _ h)
  intro n
  induction n with
  | zero =>
    intro v2 v3 hf
    cases hf
  | succ n ih =>
    intro v2 v3 hf hk121 H locs ls hG hS hl
    rw [L_X12_count_98.eq_2] at hf
    refine lv_iload_n hx hb dX12_count_98 rfl (lv_at hl 2 rfl) ?_
    refine lv_aload_n hx hb dX12_count_99 rfl (lv_at hl 0 rfl) ?_
    refine gp_get (v := .int i_lampMany) (C := RX12) (T := TX12) (N := 33) (ci := 10) hx hb hts hin hown hK hG mg_o rfl 11 (by decide) (hts _ (List.mem_of_getElem? (i := 2) rfl)) (fun _ h9 => h9) rfl dX12_count_100 ?_
    refine lv_icmp_ge (tgt := 121) hx hb dX12_count_103 (by decide) (fun c103 => ?_) (fun c103 => ?_)
    · have hf := gb_t c103 hf
      exact hk121 _ hf _ _ _ hG hS (lv_sub hl [1] rfl)
    · have hf := gb_f c103 hf
      refine lv_iload_n hx hb dX12_count_106 rfl (lv_at hl 1 rfl) ?_
      refine lv_aload_n hx hb dX12_count_107 rfl (lv_at hl 0 rfl) ?_
      refine gp_get (v := .ref (h0 + 7)) (C := RX12) (T := TX12) (N := 33) (ci := 10) hx hb hts hin hown hK hG mg_o rfl 6 (by decide) (hts _ (List.mem_of_getElem? (i := 5) rfl)) (fun _ h9 => h9) rfl dX12_count_108 ?_
      refine lv_iload_n hx hb dX12_count_111 rfl (lv_at hl 2 rfl) ?_
      obtain ⟨b112, hf⟩ := gb_ix hf
      refine gp_iald hx hb hK hG mg_scenes b112 dX12_count_112 ?_
      refine lv_iadd hx hb dX12_count_113 ?_
      refine lv_istore_n (lv' := [(2, .int (v2 + (a_scenes v3.toNatClampNeg))), (0, .ref h0), (3, .int v3)]) hx hb dX12_count_114 rfl hl (by decide) rfl (fun ls hl => ?_)
      refine lv_iinc (v := v3 + 1) (lv' := [(3, .int (v3 + 1)), (2, .int (v2 + (a_scenes v3.toNatClampNeg))), (0, .ref h0)]) hx hb dX12_count_115 hl (k := 2) rfl rfl (by decide) rfl (fun ls hl => ?_)
      refine lv_goto (tgt := 98) hx hb dX12_count_118 (by decide) ?_
      exact ih _ _ hf hk121 _ _ _ hG hS (lv_sub hl [2, 1, 0] rfl)
set_option maxHeartbeats 4000000 in
set_option maxRecDepth 100000 in
theorem c_X12_count {v1 : Int32} {R : Int32 × (Nat → Int32) × (Nat → Int32) × (Nat → Int32) × Int32 × (Nat → Int32)} (hf : f_X12_count a_refused a_isWall a_kind a_lampCell a_range a_lit a_scenes a_standsAt i_lampMany i_people i_minute i_taped a_far a_shut a_queue i_queued a_litBy i_rowMany v1 = some R) : Met l yX12_count wsX12_count rm_X12_count (va_Pc [.ref h0, .int v1] (gPre D b M (mg cI h0 a_refused a_isWall a_kind a_lampCell a_range a_lit a_scenes a_who a_cell a_minuteOf a_standsAt i_lampMany i_people i_minute a_tape a_letter a_letterAt a_told i_taped i_at i_statements a_kept i_hasImage i_isKeeping i_cursor a_far a_shut a_queue i_queued a_litBy a_may a_row i_rowMany g0) (gTy cI cL))) (gQ D b (some (.int R.1)) M (mg cI h0 a_refused a_isWall a_kind a_lampCell a_range a_lit a_scenes a_who a_cell a_minuteOf a_standsAt i_lampMany i_people i_minute a_tape a_letter a_letterAt a_told i_taped i_at i_statements a_kept i_hasImage i_isKeeping i_cursor R.2.1 R.2.2.1 R.2.2.2.1 R.2.2.2.2.1 R.2.2.2.2.2 a_may a_row i_rowMany g0)) 0 0 (gA b) := by
  refine gp_met (cc := cX12_count) (maxL := 4) (ret := (some .int)) (by decide) rfl (Nat.le_of_ble_eq_true rfl) ?_
  intro p e s m below meth c X ls hG hl
  have hS : va_S (gA b) s.heap s.heap [] := va_S.rf
  obtain ⟨H, hH0⟩ : ∃ H : Heap, H = s.heap := ⟨_, rfl⟩
  rw [← hH0] at hG ⊢
  have hS : va_S (gA b) s.heap H [] := by rw [hH0]; exact va_S.rf
  obtain ⟨locs, hlo⟩ : ∃ z : List Loc, z = [] := ⟨_, rfl⟩
  rw [← hlo] at hS ⊢
  unfold f_X12_count at hf
  obtain ⟨hx, hb, hr, hml, hown, hts, hlocks, hKn, hBs⟩ := id X
  have hK := hKn.1
  have hin : ∀ w ∈ wsX120, w ∈ wsX12_count := fun w h => List.mem_cons_of_mem _ (List.mem_append_right _ h)
  have hl : lv_has ls 4 [(0, .ref h0), (1, .int v1)] := hl
  refine lv_iload_n hx hb dX12_count_0 rfl (lv_at hl 1 rfl) ?_
  refine lv_bipush (v := 11) hx hb dX12_count_1 (by decide) ?_
  refine lv_bipush (v := 16) hx hb dX12_count_3 (by decide) ?_
  obtain ⟨o5, hc5, hf⟩ := gb_b hf
  refine gp_callI (va_runS (As := [.int v1, .int 11, .int 16]) (rest := []) ⟨hx, hb, hml, hown, hts⟩ (c_X12_isIn (l := l) (D := D) (b := b) (M := M) (cI := cI) (cL := cL) hc5) (va_cwS 3 hts gX12_count_X12_isIn rfl rfl rfl (by decide +kernel) ⟨Nat.le_of_ble_eq_true rfl, Nat.le_of_ble_eq_true rfl⟩) (gp_preS hKn hG) rfl rfl hl.1 rfl (lv_room (Nat.le_of_ble_eq_true rfl)) dX12_count_5 ⟨Nat.le_of_ble_eq_true rfl, Nat.le_of_ble_eq_true rfl⟩) hS (fun H locs hG hS => ?_)
  refine lv_if_eq (tgt := 21) hx hb dX12_count_8 (by decide) (fun c8 => ?_) (fun c8 => ?_)
  · have hf := gb_t c8 hf
    refine lv_iconst (v := 0) hx hb dX12_count_21 (by decide) ?_
    refine lv_istore_n (lv' := [(2, .int 0), (0, .ref h0), (1, .int v1)]) hx hb dX12_count_22 rfl hl (by decide) rfl (fun ls hl => ?_)
    refine lv_iload_n hx hb dX12_count_23 rfl (lv_at hl 2 rfl) ?_
    by_cases c24_0 : v1 = 0
    · have hf := gb_t c24_0 hf
      refine lv_tableIn (tgt := 76) (off := 52) hx hb dX12_count_24 (by rw [c24_0]; decide) (by rw [c24_0]; decide) (by rw [c24_0]; rfl) (by decide) ?_
      refine lv_aload_n hx hb dX12_count_76 rfl (lv_at hl 1 rfl) ?_
      refine gp_get (v := .int i_lampMany) (C := RX12) (T := TX12) (N := 33) (ci := 10) hx hb hts hin hown hK hG mg_o rfl 11 (by decide) (hts _ (List.mem_of_getElem? (i := 2) rfl)) (fun _ h9 => h9) rfl dX12_count_77 ?_
      have hf := Option.some.inj hf
      subst hf
      exact gp_retI hx hb hr hlocks hG hS (Nat.le_refl _) (Nat.le_refl _) dX12_count_80
    · have hf := gb_f c24_0 hf
      by_cases c24_1 : v1 = 1
      · have hf := gb_t c24_1 hf
        refine lv_tableIn (tgt := 81) (off := 57) hx hb dX12_count_24 (by rw [c24_1]; decide) (by rw [c24_1]; decide) (by rw [c24_1]; rfl) (by decide) ?_
        refine lv_aload_n hx hb dX12_count_81 rfl (lv_at hl 1 rfl) ?_
        refine gp_get (v := .int i_people) (C := RX12) (T := TX12) (N := 33) (ci := 10) hx hb hts hin hown hK hG mg_o rfl 12 (by decide) (hts _ (List.mem_of_getElem? (i := 3) rfl)) (fun _ h9 => h9) rfl dX12_count_82 ?_
        have hf := Option.some.inj hf
        subst hf
        exact gp_retI hx hb hr hlocks hG hS (Nat.le_refl _) (Nat.le_refl _) dX12_count_85
      · have hf := gb_f c24_1 hf
        by_cases c24_2 : v1 = 2
        · have hf := gb_t c24_2 hf
          refine lv_tableIn (tgt := 86) (off := 62) hx hb dX12_count_24 (by rw [c24_2]; decide) (by rw [c24_2]; decide) (by rw [c24_2]; rfl) (by decide) ?_
          refine lv_aload_n hx hb dX12_count_86 rfl (lv_at hl 1 rfl) ?_
          obtain ⟨o87, hc87, hf⟩ := gb_b hf
          refine gp_callI (va_runV (As := []) (rest := []) ⟨hx, hb, hml, hown, hts⟩ (c_X12_wallMany (l := l) (D := D) (b := b) (M := M) (cI := cI) (cL := cL) hc87) (cwV 0 hts gX12_count_X12_wallMany rfl rfl rfl (by decide +kernel) ⟨Nat.le_of_ble_eq_true rfl, Nat.le_of_ble_eq_true rfl⟩) (gp_preV hKn hG mg_o rfl) rfl rfl hl.1 rfl (lv_room (Nat.le_of_ble_eq_true rfl)) dX12_count_87 ⟨Nat.le_of_ble_eq_true rfl, Nat.le_of_ble_eq_true rfl⟩) hS (fun H locs hG hS => ?_)
          have hf := Option.some.inj hf
          subst hf
          exact gp_retI hx hb hr hlocks hG hS (Nat.le_refl _) (Nat.le_refl _) dX12_count_90
        · have hf := gb_f c24_2 hf
          by_cases c24_3 : v1 = 3
          · have hf := gb_t c24_3 hf
            refine lv_tableIn (tgt := 91) (off := 67) hx hb dX12_count_24 (by rw [c24_3]; decide) (by rw [c24_3]; decide) (by rw [c24_3]; rfl) (by decide) ?_
            refine lv_aload_n hx hb dX12_count_91 rfl (lv_at hl 1 rfl) ?_
            refine gp_get (v := .int i_minute) (C := RX12) (T := TX12) (N := 33) (ci := 10) hx hb hts hin hown hK hG mg_o rfl 13 (by decide) (hts _ (List.mem_of_getElem? (i := 4) rfl)) (fun _ h9 => h9) rfl dX12_count_92 ?_
            have hf := Option.some.inj hf
            subst hf
            exact gp_retI hx hb hr hlocks hG hS (Nat.le_refl _) (Nat.le_refl _) dX12_count_95
          · have hf := gb_f c24_3 hf
            by_cases c24_4 : v1 = 4
            · have hf := gb_t c24_4 hf
              refine lv_tableIn (tgt := 96) (off := 72) hx hb dX12_count_24 (by rw [c24_4]; decide) (by rw [c24_4]; decide) (by rw [c24_4]; rfl) (by decide) ?_
              refine lv_iconst (v := 0) hx hb dX12_count_96 (by decide) ?_
              refine lv_istore_n (lv' := [(3, .int 0), (2, .int 0), (0, .ref h0), (1, .int v1)]) hx hb dX12_count_97 rfl hl (by decide) rfl (fun ls hl => ?_)
              refine w_X12_count_98 X _ _ _ hf (fun x98_121 hf H locs ls hG hS hl => ?_) _ _ _ hG hS (lv_sub hl [2, 1, 0] rfl)
              · refine lv_iload_n hx hb dX12_count_121 rfl (lv_at hl 0 rfl) ?_
                have hf := Option.some.inj hf
                subst hf
                exact gp_retI hx hb hr hlocks hG hS (Nat.le_refl _) (Nat.le_refl _) dX12_count_122
            · have hf := gb_f c24_4 hf
              by_cases c24_5 : v1 = 5
              · have hf := gb_t c24_5 hf
                refine lv_tableIn (tgt := 123) (off := 99) hx hb dX12_count_24 (by rw [c24_5]; decide) (by rw [c24_5]; decide) (by rw [c24_5]; rfl) (by decide) ?_
                refine lv_aload_n hx hb dX12_count_123 rfl (lv_at hl 1 rfl) ?_
                refine lv_aload_n hx hb dX12_count_124 rfl (lv_at hl 1 rfl) ?_
                obtain ⟨o125, hc125, hf⟩ := gb_b hf
                refine gp_callI (va_runV (As := []) (rest := [.ref h0]) ⟨hx, hb, hml, hown, hts⟩ (c_X12_litBits (l := l) (D := D) (b := b) (M := M) (cI := cI) (cL := cL) hc125) (cwV 0 hts gX12_count_X12_litBits rfl rfl rfl (by decide +kernel) ⟨Nat.le_of_ble_eq_true rfl, Nat.le_of_ble_eq_true rfl⟩) (gp_preV hKn hG mg_o rfl) rfl rfl hl.1 rfl (lv_room (Nat.le_of_ble_eq_true rfl)) dX12_count_125 ⟨Nat.le_of_ble_eq_true rfl, Nat.le_of_ble_eq_true rfl⟩) hS (fun H locs hG hS => ?_)
                obtain ⟨o128, hc128, hf⟩ := gb_b hf
                refine gp_callI (va_runV (As := [.int o125]) (rest := []) ⟨hx, hb, hml, hown, hts⟩ (c_X12_cellsLitBy (l := l) (D := D) (b := b) (M := M) (cI := cI) (cL := cL) hc128) (cwV 1 hts gX12_count_X12_cellsLitBy rfl rfl rfl (by decide +kernel) ⟨Nat.le_of_ble_eq_true rfl, Nat.le_of_ble_eq_true rfl⟩) (gp_preV hKn hG mg_o rfl) rfl rfl hl.1 rfl (lv_room (Nat.le_of_ble_eq_true rfl)) dX12_count_128 ⟨Nat.le_of_ble_eq_true rfl, Nat.le_of_ble_eq_true rfl⟩) hS (fun H locs hG hS => ?_)
                have hf := Option.some.inj hf
                subst hf
                exact gp_retI hx hb hr hlocks hG hS (Nat.le_refl _) (Nat.le_refl _) dX12_count_131
              · have hf := gb_f c24_5 hf
                by_cases c24_6 : v1 = 6
                · have hf := gb_t c24_6 hf
                  refine lv_tableIn (tgt := 132) (off := 108) hx hb dX12_count_24 (by rw [c24_6]; decide) (by rw [c24_6]; decide) (by rw [c24_6]; rfl) (by decide) ?_
                  refine lv_aload_n hx hb dX12_count_132 rfl (lv_at hl 1 rfl) ?_
                  obtain ⟨o133, hc133, hf⟩ := gb_b hf
                  refine gp_callI (va_runV (As := []) (rest := []) ⟨hx, hb, hml, hown, hts⟩ (c_X12_litBits (l := l) (D := D) (b := b) (M := M) (cI := cI) (cL := cL) hc133) (cwV 0 hts gX12_count_X12_litBits rfl rfl rfl (by decide +kernel) ⟨Nat.le_of_ble_eq_true rfl, Nat.le_of_ble_eq_true rfl⟩) (gp_preV hKn hG mg_o rfl) rfl rfl hl.1 rfl (lv_room (Nat.le_of_ble_eq_true rfl)) dX12_count_133 ⟨Nat.le_of_ble_eq_true rfl, Nat.le_of_ble_eq_true rfl⟩) hS (fun H locs hG hS => ?_)
                  have hf := Option.some.inj hf
                  subst hf
                  exact gp_retI hx hb hr hlocks hG hS (Nat.le_refl _) (Nat.le_refl _) dX12_count_136
                · have hf := gb_f c24_6 hf
                  by_cases c24_7 : v1 = 7
                  · have hf := gb_t c24_7 hf
                    refine lv_tableIn (tgt := 137) (off := 113) hx hb dX12_count_24 (by rw [c24_7]; decide) (by rw [c24_7]; decide) (by rw [c24_7]; rfl) (by decide) ?_
                    refine lv_aload_n hx hb dX12_count_137 rfl (lv_at hl 1 rfl) ?_
                    refine gp_get (v := .int i_rowMany) (C := RX12) (T := TX12) (N := 33) (ci := 10) hx hb hts hin hown hK hG mg_o rfl 32 (by decide) (hts _ (List.mem_of_getElem? (i := 6) rfl)) (fun _ h9 => h9) rfl dX12_count_138 ?_
                    have hf := Option.some.inj hf
                    subst hf
                    exact gp_retI hx hb hr hlocks hG hS (Nat.le_refl _) (Nat.le_refl _) dX12_count_141
                  · have hf := gb_f c24_7 hf
                    by_cases c24_8 : v1 = 8
                    · have hf := gb_t c24_8 hf
                      refine lv_tableIn (tgt := 142) (off := 118) hx hb dX12_count_24 (by rw [c24_8]; decide) (by rw [c24_8]; decide) (by rw [c24_8]; rfl) (by decide) ?_
                      refine lv_aload_n hx hb dX12_count_142 rfl (lv_at hl 1 rfl) ?_
                      refine gp_get (v := .int i_taped) (C := RX12) (T := TX12) (N := 33) (ci := 10) hx hb hts hin hown hK hG mg_o rfl 18 (by decide) (hts _ (List.mem_of_getElem? (i := 7) rfl)) (fun _ h9 => h9) rfl dX12_count_143 ?_
                      have hf := Option.some.inj hf
                      subst hf
                      exact gp_retI hx hb hr hlocks hG hS (Nat.le_refl _) (Nat.le_refl _) dX12_count_146
                    · have hf := gb_f c24_8 hf
                      have ho24 : (v1).toInt < 0 ∨ 8 < (v1).toInt := by
                        have q : ∀ k : Int32, ¬ v1 = k → ¬ (v1).toInt = k.toInt := fun k hk h => hk (Int32.toInt_inj.mp h)
                        have q0 := q 0 c24_0; rw [show (0 : Int32).toInt = 0 from rfl] at q0
                        have q1 := q 1 c24_1; rw [show (1 : Int32).toInt = 1 from rfl] at q1
                        have q2 := q 2 c24_2; rw [show (2 : Int32).toInt = 2 from rfl] at q2
                        have q3 := q 3 c24_3; rw [show (3 : Int32).toInt = 3 from rfl] at q3
                        have q4 := q 4 c24_4; rw [show (4 : Int32).toInt = 4 from rfl] at q4
                        have q5 := q 5 c24_5; rw [show (5 : Int32).toInt = 5 from rfl] at q5
                        have q6 := q 6 c24_6; rw [show (6 : Int32).toInt = 6 from rfl] at q6
                        have q7 := q 7 c24_7; rw [show (7 : Int32).toInt = 7 from rfl] at q7
                        have q8 := q 8 c24_8; rw [show (8 : Int32).toInt = 8 from rfl] at q8
                        omega
                      refine lv_tableOut (tgt := 147) hx hb dX12_count_24 ho24 (by decide) ?_
                      refine lv_bipush (v := (-9 : Int32)) hx hb dX12_count_147 (by decide) ?_
                      have hf := Option.some.inj hf
                      subst hf
                      exact gp_retI hx hb hr hlocks hG hS (Nat.le_refl _) (Nat.le_refl _) dX12_count_149
  · have hf := gb_f c8 hf
    refine lv_aload_n hx hb dX12_count_11 rfl (lv_at hl 0 rfl) ?_
    refine gp_get (v := .ref (h0 + 1)) (C := RX12) (T := TX12) (N := 33) (ci := 10) hx hb hts hin hown hK hG mg_o rfl 0 (by decide) (hts _ (List.mem_of_getElem? (i := 1) rfl)) (fun _ h9 => h9) rfl dX12_count_12 ?_
    refine lv_iload_n hx hb dX12_count_15 rfl (lv_at hl 1 rfl) ?_
    refine lv_bipush (v := 10) hx hb dX12_count_16 (by decide) ?_
    refine lv_isub hx hb dX12_count_18 ?_
    obtain ⟨b19, hf⟩ := gb_ix hf
    refine gp_iald hx hb hK hG mg_refused b19 dX12_count_19 ?_
    have hf := Option.some.inj hf
    subst hf
    exact gp_retI hx hb hr hlocks hG hS (Nat.le_refl _) (Nat.le_refl _) dX12_count_20
end
