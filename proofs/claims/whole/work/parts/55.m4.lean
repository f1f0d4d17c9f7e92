section
variable {p : Program} {l : Launch} {e : Env} {s : State} {m : MethodId} {args : Array Value} {below : List Frame} {meth : Method} {c : Code} {D : va_G} {b : GB} {M : Nat} {cI cL : ClassId} {h0 : Nat} {g0 gh : Nat → va_E} {Q : State → Prop}
variable {a_refused : Nat → Int32} {a_isWall : Nat → Int32} {a_kind : Nat → Int32} {a_lampCell : Nat → Int32} {a_range : Nat → Int32} {a_lit : Nat → Int32} {a_scenes : Nat → Int32} {a_who : Nat → Int32} {a_cell : Nat → Int32} {a_minuteOf : Nat → Int32} {a_standsAt : Nat → Int32} {i_lampMany : Int32} {i_people : Int32} {i_minute : Int32} {a_tape : Nat → Int32} {a_letter : Nat → Int32} {a_letterAt : Nat → Int32} {a_told : Nat → Int32} {i_taped : Int32} {i_at : Int32} {i_statements : Int32} {a_kept : Nat → Int32} {i_hasImage : Int32} {i_isKeeping : Int32} {i_cursor : Int32} {a_far : Nat → Int32} {a_shut : Nat → Int32} {a_queue : Nat → Int32} {i_queued : Int32} {a_litBy : Nat → Int32} {a_may : Nat → Int32} {a_row : Nat → Int32} {i_rowMany : Int32}
-- X12_image
abbrev rm_X12_image : Room := { frames := 2, cells := 0, slots := 0, locals := 44 }
set_option maxHeartbeats 4000000 in
set_option maxRecDepth 100000 in
theorem c_X12_image {R : Int32 × (Nat → Int32) × (Nat → Int32) × (Nat → Int32) × (Nat → Int32) × (Nat → Int32) × (Nat → Int32) × (Nat → Int32) × (Nat → Int32) × (Nat → Int32) × (Nat → Int32) × Int32 × Int32 × Int32 × (Nat → Int32) × Int32 × Int32 × Int32} (hf : f_X12_image a_isWall a_kind a_lampCell a_range a_lit a_scenes a_who a_cell a_minuteOf a_standsAt i_lampMany i_people i_minute a_kept i_hasImage i_isKeeping i_cursor = some R) : Met l yX12_image wsX12_image rm_X12_image (va_Pc [.ref h0] (gPre D b M (mg cI h0 a_refused a_isWall a_kind a_lampCell a_range a_lit a_scenes a_who a_cell a_minuteOf a_standsAt i_lampMany i_people i_minute a_tape a_letter a_letterAt a_told i_taped i_at i_statements a_kept i_hasImage i_isKeeping i_cursor a_far a_shut a_queue i_queued a_litBy a_may a_row i_rowMany g0) (gTy cI cL))) (gQ D b (some (.int R.1)) M (mg cI h0 a_refused R.2.1 R.2.2.1 R.2.2.2.1 R.2.2.2.2.1 R.2.2.2.2.2.1 R.2.2.2.2.2.2.1 R.2.2.2.2.2.2.2.1 R.2.2.2.2.2.2.2.2.1 R.2.2.2.2.2.2.2.2.2.1 R.2.2.2.2.2.2.2.2.2.2.1 R.2.2.2.2.2.2.2.2.2.2.2.1 R.2.2.2.2.2.2.2.2.2.2.2.2.1 R.2.2.2.2.2.2.2.2.2.2.2.2.2.1 a_tape a_letter a_letterAt a_told i_taped i_at i_statements R.2.2.2.2.2.2.2.2.2.2.2.2.2.2.1 R.2.2.2.2.2.2.2.2.2.2.2.2.2.2.2.1 R.2.2.2.2.2.2.2.2.2.2.2.2.2.2.2.2.1 R.2.2.2.2.2.2.2.2.2.2.2.2.2.2.2.2.2 a_far a_shut a_queue i_queued a_litBy a_may a_row i_rowMany g0)) 0 0 (gA b) := by
  refine gp_met (cc := cX12_image) (maxL := 1) (ret := (some .int)) (by decide) rfl (Nat.le_of_ble_eq_true rfl) ?_
  intro p e s m below meth c X ls hG hl
  have hS : va_S (gA b) s.heap s.heap [] := va_S.rf
  obtain ⟨H, hH0⟩ : ∃ H : Heap, H = s.heap := ⟨_, rfl⟩
  rw [← hH0] at hG ⊢
  have hS : va_S (gA b) s.heap H [] := by rw [hH0]; exact va_S.rf
  obtain ⟨locs, hlo⟩ : ∃ z : List Loc, z = [] := ⟨_, rfl⟩
  rw [← hlo] at hS ⊢
  unfold f_X12_image at hf
  obtain ⟨hx, hb, hr, hml, hown, hts, hlocks, hKn, hBs⟩ := id X
  have hK := hKn.1
  have hin : ∀ w ∈ wsX120, w ∈ wsX12_image := fun w h => List.mem_cons_of_mem _ (List.mem_append_right _ h)
  have hl : lv_has ls 1 [(0, .ref h0)] := hl
  refine lv_aload_n hx hb dX12_image_0 rfl (lv_at hl 0 rfl) ?_
  refine lv_iconst (v := 1) hx hb dX12_image_1 (by decide) ?_
  refine gp_put (v := .int 1) (tyk := .boolean) (C := RX12) (T := TX12) (N := 33) (ci := 10) hx hb hts hin tyX12 tyX12_ok nmX12 hown hK hG hS mg_o rfl 22 (by decide) (hts _ (List.mem_of_getElem? (i := 1) rfl)) (fun _ h9 => h9) rfl rfl (by decide) (by decide) (Nat.le_of_ble_eq_true rfl) mu_hasImage dX12_image_2 (fun H locs hG hS => ?_)
  refine lv_aload_n hx hb dX12_image_5 rfl (lv_at hl 0 rfl) ?_
  refine lv_iconst (v := 0) hx hb dX12_image_6 (by decide) ?_
  refine lv_iconst (v := 1) hx hb dX12_image_7 (by decide) ?_
  obtain ⟨o8, hc8, hf⟩ := gb_b hf
  refine gp_callV (va_runV (As := [.int 0, .int 1]) (rest := []) ⟨hx, hb, hml, hown, hts⟩ (c_X12_passesAll (l := l) (D := D) (b := b) (M := M) (cI := cI) (cL := cL) hc8) (cwV 2 hts gX12_image_X12_passesAll rfl rfl rfl (by decide +kernel) ⟨Nat.le_of_ble_eq_true rfl, Nat.le_of_ble_eq_true rfl⟩) (gp_preV hKn hG mg_o rfl) rfl rfl hl.1 rfl (lv_room (Nat.le_of_ble_eq_true rfl)) dX12_image_8 ⟨Nat.le_of_ble_eq_true rfl, Nat.le_of_ble_eq_true rfl⟩) hS (fun H locs hG hS => ?_)
  refine lv_aload_n hx hb dX12_image_11 rfl (lv_at hl 0 rfl) ?_
  refine gp_get (v := .int o8.2.2.2.2.2.2.2.2.2.2.2.2.1) (C := RX12) (T := TX12) (N := 33) (ci := 10) hx hb hts hin hown hK hG mg_o rfl 13 (by decide) (hts _ (List.mem_of_getElem? (i := 2) rfl)) (fun _ h9 => h9) rfl dX12_image_12 ?_
  have hf := Option.some.inj hf
  subst hf
  exact gp_retI hx hb hr hlocks hG hS (Nat.le_refl _) (Nat.le_refl _) dX12_image_15
-- X12_on
abbrev rm_X12_on : Room := { frames := 2, cells := 0, slots := 0, locals := 44 }
set_option maxHeartbeats 4000000 in
set_option maxRecDepth 100000 in
theorem c_X12_on {R : Int32 × (Nat → Int32) × (Nat → Int32) × (Nat → Int32) × (Nat → Int32) × (Nat → Int32) × (Nat → Int32) × (Nat → Int32) × (Nat → Int32) × (Nat → Int32) × (Nat → Int32) × (Nat → Int32) × Int32 × Int32 × Int32 × (Nat → Int32) × Int32 × Int32} (hf : f_X12_on a_refused a_isWall a_kind a_lampCell a_range a_lit a_scenes a_who a_cell a_minuteOf a_standsAt i_lampMany i_people i_minute a_kept i_hasImage i_isKeeping i_cursor = some R) : Met l yX12_on wsX12_on rm_X12_on (va_Pc [.ref h0] (gPre D b M (mg cI h0 a_refused a_isWall a_kind a_lampCell a_range a_lit a_scenes a_who a_cell a_minuteOf a_standsAt i_lampMany i_people i_minute a_tape a_letter a_letterAt a_told i_taped i_at i_statements a_kept i_hasImage i_isKeeping i_cursor a_far a_shut a_queue i_queued a_litBy a_may a_row i_rowMany g0) (gTy cI cL))) (gQ D b (some (.int R.1)) M (mg cI h0 R.2.1 R.2.2.1 R.2.2.2.1 R.2.2.2.2.1 R.2.2.2.2.2.1 R.2.2.2.2.2.2.1 R.2.2.2.2.2.2.2.1 R.2.2.2.2.2.2.2.2.1 R.2.2.2.2.2.2.2.2.2.1 R.2.2.2.2.2.2.2.2.2.2.1 R.2.2.2.2.2.2.2.2.2.2.2.1 R.2.2.2.2.2.2.2.2.2.2.2.2.1 R.2.2.2.2.2.2.2.2.2.2.2.2.2.1 R.2.2.2.2.2.2.2.2.2.2.2.2.2.2.1 a_tape a_letter a_letterAt a_told i_taped i_at i_statements R.2.2.2.2.2.2.2.2.2.2.2.2.2.2.2.1 i_hasImage R.2.2.2.2.2.2.2.2.2.2.2.2.2.2.2.2.1 R.2.2.2.2.2.2.2.2.2.2.2.2.2.2.2.2.2 a_far a_shut a_queue i_queued a_litBy a_may a_row i_rowMany g0)) 0 0 (gA b) := by
  refine gp_met (cc := cX12_on) (maxL := 1) (ret := (some .int)) (by decide) rfl (Nat.le_of_ble_eq_true rfl) ?_
  intro p e s m below meth c X ls hG hl
  have hS : va_S (gA b) s.heap s.heap [] := va_S.rf
  obtain ⟨H, hH0⟩ : ∃ H : Heap, H = s.heap := ⟨_, rfl⟩
  rw [← hH0] at hG ⊢
  have hS : va_S (gA b) s.heap H [] := by rw [hH0]; exact va_S.rf
  obtain ⟨locs, hlo⟩ : ∃ z : List Loc, z = [] := ⟨_, rfl⟩
  rw [← hlo] at hS ⊢
  unfold f_X12_on at hf
  obtain ⟨hx, hb, hr, hml, hown, hts, hlocks, hKn, hBs⟩ := id X
  have hK := hKn.1
  have hin : ∀ w ∈ wsX120, w ∈ wsX12_on := fun w h => List.mem_cons_of_mem _ (List.mem_append_right _ h)
  have hl : lv_has ls 1 [(0, .ref h0)] := hl
  refine lv_aload_n hx hb dX12_on_0 rfl (lv_at hl 0 rfl) ?_
  refine gp_get (v := .int i_hasImage) (C := RX12) (T := TX12) (N := 33) (ci := 10) hx hb hts hin hown hK hG mg_o rfl 22 (by decide) (hts _ (List.mem_of_getElem? (i := 1) rfl)) (fun _ h9 => h9) rfl dX12_on_1 ?_
  refine lv_if_ne (tgt := 14) hx hb dX12_on_4 (by decide) (fun c4 => ?_) (fun c4 => ?_)
  · have hf := gb_f c4 hf
    refine lv_aload_n hx hb dX12_on_14 rfl (lv_at hl 0 rfl) ?_
    refine lv_iconst (v := 0) hx hb dX12_on_15 (by decide) ?_
    refine lv_iconst (v := 0) hx hb dX12_on_16 (by decide) ?_
    obtain ⟨o17, hc17, hf⟩ := gb_b hf
    refine gp_callV (va_runV (As := [.int 0, .int 0]) (rest := []) ⟨hx, hb, hml, hown, hts⟩ (c_X12_passesAll (l := l) (D := D) (b := b) (M := M) (cI := cI) (cL := cL) hc17) (cwV 2 hts gX12_on_X12_passesAll rfl rfl rfl (by decide +kernel) ⟨Nat.le_of_ble_eq_true rfl, Nat.le_of_ble_eq_true rfl⟩) (gp_preV hKn hG mg_o rfl) rfl rfl hl.1 rfl (lv_room (Nat.le_of_ble_eq_true rfl)) dX12_on_17 ⟨Nat.le_of_ble_eq_true rfl, Nat.le_of_ble_eq_true rfl⟩) hS (fun H locs hG hS => ?_)
    refine lv_aload_n hx hb dX12_on_20 rfl (lv_at hl 0 rfl) ?_
    refine gp_get (v := .int o17.2.2.2.2.2.2.2.2.2.2.2.2.1) (C := RX12) (T := TX12) (N := 33) (ci := 10) hx hb hts hin hown hK hG mg_o rfl 13 (by decide) (hts _ (List.mem_of_getElem? (i := 2) rfl)) (fun _ h9 => h9) rfl dX12_on_21 ?_
    have hf := Option.some.inj hf
    subst hf
    exact gp_retI hx hb hr hlocks hG hS (Nat.le_refl _) (Nat.le_refl _) dX12_on_24
  · have hf := gb_t c4 hf
    refine lv_aload_n hx hb dX12_on_7 rfl (lv_at hl 0 rfl) ?_
    refine lv_bipush (v := (-3 : Int32)) hx hb dX12_on_8 (by decide) ?_
    obtain ⟨o10, hc10, hf⟩ := gb_b hf
    refine gp_callI (va_runV (As := [.int (-3 : Int32)]) (rest := []) ⟨hx, hb, hml, hown, hts⟩ (c_X12_no (l := l) (D := D) (b := b) (M := M) (cI := cI) (cL := cL) hc10) (cwV 1 hts gX12_on_X12_no rfl rfl rfl (by decide +kernel) ⟨Nat.le_of_ble_eq_true rfl, Nat.le_of_ble_eq_true rfl⟩) (gp_preV hKn hG mg_o rfl) rfl rfl hl.1 rfl (lv_room (Nat.le_of_ble_eq_true rfl)) dX12_on_10 ⟨Nat.le_of_ble_eq_true rfl, Nat.le_of_ble_eq_true rfl⟩) hS (fun H locs hG hS => ?_)
    have hf := Option.some.inj hf
    subst hf
    exact gp_retI hx hb hr hlocks hG hS (Nat.le_refl _) (Nat.le_refl _) dX12_on_13
-- X12_litBits
abbrev rm_X12_litBits : Room := { frames := 0, cells := 0, slots := 0, locals := 0 }
set_option maxHeartbeats 4000000 in
set_option maxRecDepth 100000 in
theorem w_X12_litBits_4 {α : Type} {R : α} {K29 : Int32 → Option α} (X : gC p s m args meth c cX12_litBits 3 (some .int) wsX12_litBits RX12 D b (gTy cI cL)) : ∀ (n : Nat) (v1 : Int32) (v2 : Int32), L_X12_litBits_4 K29 a_lit i_lampMany n v1 v2 = some R → (∀ (x : Int32), K29 x = some R → ∀ (H : Heap) (locs : List Loc) (ls : Array Slot), GP D b M (mg cI h0 a_refused a_isWall a_kind a_lampCell a_range a_lit a_scenes a_who a_cell a_minuteOf a_standsAt i_lampMany i_people i_minute a_tape a_letter a_letterAt a_told i_taped i_at i_statements a_kept i_hasImage i_isKeeping i_cursor a_far a_shut a_queue i_queued a_litBy a_may a_row i_rowMany g0) H → va_S (gA b) s.heap H locs → lv_has ls 3 [(1, .int x)] → W p l e rm_X12_litBits s m args below meth c H locs 0 0 Q (F0 m 29 ls [])) → ∀ (H : Heap) (locs : List Loc) (ls : Array Slot), GP D b M (mg cI h0 a_refused a_isWall a_kind a_lampCell a_range a_lit a_scenes a_who a_cell a_minuteOf a_standsAt i_lampMany i_people i_minute a_tape a_letter a_letterAt a_told i_taped i_at i_statements a_kept i_hasImage i_isKeeping i_cursor a_far a_shut a_queue i_queued a_litBy a_may a_row i_rowMany g0) H → va_S (gA b) s.heap H locs → lv_has ls 3 [(0, .ref h0), (1, .int v1), (2, .int v2)] → W p l e rm_X12_litBits s m args below meth c H locs 0 0 Q (F0 m 4 ls []) := by
  obtain ⟨hx, hb, hr, hml, hown, hts, hlocks, hKn, hBs⟩ := id X
  have hK := hKn.1
  have hin : ∀ w ∈ wsX120, w ∈ wsX12_litBits := fun w h => List.mem_cons_of_mem _ (List.mem_append_right _ h)
  intro n
  induction n with
  | zero =>
    intro v1 v2 hf
    cases hf
  | succ n ih =>
    intro v1 v2 hf hk29 H locs ls hG hS hl
    rw [L_X12_litBits_4.eq_2] at hf
    refine lv_iload_n hx hb dX12_litBits_4 rfl (lv_at hl 2 rfl) ?_
    refine lv_aload_n hx hb dX12_litBits_5 rfl (lv_at hl 0 rfl) ?_
    refine gp_get (v := .int i_lampMany) (C := RX12) (T := TX12) (N := 33) (ci := 10) hx hb hts hin hown hK hG mg_o rfl 11 (by decide) (hts _ (List.mem_of_getElem? (i := 1) rfl)) (fun _ h9 => h9) rfl dX12_litBits_6 ?_
    refine lv_icmp_ge (tgt := 29) hx hb dX12_litBits_9 (by decide) (fun c9 => ?_) (fun c9 => ?_)
    · have hf := gb_t c9 hf
      exact hk29 _ hf _ _ _ hG hS (lv_sub hl [1] rfl)
    · have hf := gb_f c9 hf
      refine lv_iload_n hx hb dX12_litBits_12 rfl (lv_at hl 1 rfl) ?_
      refine lv_aload_n hx hb dX12_litBits_13 rfl (lv_at hl 0 rfl) ?_
      refine gp_get (v := .ref (h0 + 6)) (C := RX12) (T := TX12) (N := 33) (ci := 10) hx hb hts hin hown hK hG mg_o rfl 5 (by decide) (hts _ (List.mem_of_getElem? (i := 2) rfl)) (fun _ h9 => h9) rfl dX12_litBits_14 ?_
      refine lv_iload_n hx hb dX12_litBits_17 rfl (lv_at hl 2 rfl) ?_
      obtain ⟨b18, hf⟩ := gb_ix hf
      refine gp_iald hx hb hK hG mg_lit b18 dX12_litBits_18 ?_
      refine lv_iload_n hx hb dX12_litBits_19 rfl (lv_at hl 2 rfl) ?_
      refine lv_ishl hx hb dX12_litBits_20 ?_
      refine lv_ior hx hb dX12_litBits_21 ?_
      refine lv_istore_n (lv' := [(1, .int (v1 ||| ((a_lit v2.toNatClampNeg) <<< (v2 &&& 31)))), (0, .ref h0), (2, .int v2)]) hx hb dX12_litBits_22 rfl hl (by decide) rfl (fun ls hl => ?_)
      refine lv_iinc (v := v2 + 1) (lv' := [(2, .int (v2 + 1)), (1, .int (v1 ||| ((a_lit v2.toNatClampNeg) <<< (v2 &&& 31)))), (0, .ref h0)]) hx hb dX12_litBits_23 hl (k := 2) rfl rfl (by decide) rfl (fun ls hl => ?_)
      refine lv_goto (tgt := 4) hx hb dX12_litBits_26 (by decide) ?_
      exact ih _ _ hf hk29 _ _ _ hG hS (lv_sub hl [2, 1, 0] rfl)
set_option maxHeartbeats 4000000 in
set_option maxRecDepth 100000 in
theorem c_X12_litBits {R : Int32} (hf : f_X12_litBits a_lit i_lampMany = some R) : Met l yX12_litBits wsX12_litBits rm_X12_litBits (va_Pc [.ref h0] (gPre D b M (mg cI h0 a_refused a_isWall a_kind a_lampCell a_range a_lit a_scenes a_who a_cell a_minuteOf a_standsAt i_lampMany i_people i_minute a_tape a_letter a_letterAt a_told i_taped i_at i_statements a_kept i_hasImage i_isKeeping i_cursor a_far a_shut a_queue i_queued a_litBy a_may a_row i_rowMany g0) (gTy cI cL))) (gQ D b (some (.int R)) M (mg cI h0 a_refused a_isWall a_kind a_lampCell a_range a_lit a_scenes a_who a_cell a_minuteOf a_standsAt i_lampMany i_people i_minute a_tape a_letter a_letterAt a_told i_taped i_at i_statements a_kept i_hasImage i_isKeeping i_cursor a_far a_shut a_queue i_queued a_litBy a_may a_row i_rowMany g0)) 0 0 (gA b) := by
  refine gp_met (cc := cX12_litBits) (maxL := 3) (ret := (some .int)) (by decide) rfl (Nat.le_of_ble_eq_true rfl) ?_
  intro p e s m below meth c X ls hG hl
  have hS : va_S (gA b) s.heap s.heap [] := va_S.rf
  obtain ⟨H, hH0⟩ : ∃ H : Heap, H = s.heap := ⟨_, rfl⟩
  rw [← hH0] at hG ⊢
  have hS : va_S (gA b) s.heap H [] := by rw [hH0]; exact va_S.rf
  obtain ⟨locs, hlo⟩ : ∃ z : List Loc, z = [] := ⟨_, rfl⟩
  rw [← hlo] at hS ⊢
  unfold f_X12_litBits at hf
  obtain ⟨hx, hb, hr, hml, hown, hts, hlocks, hKn, hBs⟩ := id X
  have hK := hKn.1
  have hin : ∀ w ∈ wsX120, w ∈ wsX12_litBits := fun w h => List.mem_cons_of_mem _ (List.mem_append_right _ h)
  have hl : lv_has ls 3 [(0, .ref h0)] := hl
  refine lv_iconst (v := 0) hx hb dX12_litBits_0 (by decide) ?_
  refine lv_istore_n (lv' := [(1, .int 0), (0, .ref h0)]) hx hb dX12_litBits_1 rfl hl (by decide) rfl (fun ls hl => ?_)
  refine lv_iconst (v := 0) hx hb dX12_litBits_2 (by decide) ?_
  refine lv_istore_n (lv' := [(2, .int 0), (1, .int 0), (0, .ref h0)]) hx hb dX12_litBits_3 rfl hl (by decide) rfl (fun ls hl => ?_)
  refine w_X12_litBits_4 X _ _ _ hf (fun x4_29 hf H locs ls hG hS hl => ?_) _ _ _ hG hS (lv_sub hl [2, 1, 0] rfl)
  · refine lv_iload_n hx hb dX12_litBits_29 rfl (lv_at hl 0 rfl) ?_
    have hf := Option.some.inj hf
    subst hf
    exact gp_retI hx hb hr hlocks hG hS (Nat.le_refl _) (Nat.le_refl _) dX12_litBits_30
-- X12_cellsLitBy
abbrev rm_X12_cellsLitBy : Room := { frames := 4, cells := 0, slots := 0, locals := 90 }
set_option maxHeartbeats 4000000 in
set_option maxRecDepth 100000 in
theorem w_X12_cellsLitBy_8 {α : Type} {R : α} {K39 : Int32 → Option α} {v1 : Int32} (X : gC p s m args meth c cX12_cellsLitBy 4 (some .int) wsX12_cellsLitBy RX12 D b (gTy cI cL)) : ∀ (n : Nat) (v2 : Int32) (v3 : Int32), L_X12_cellsLitBy_8 K39 a_litBy v1 n v2 v3 = some R → (∀ (x : Int32), K39 x = some R → ∀ (H : Heap) (locs : List Loc) (ls : Array Slot), GP D b M (mg cI h0 a_refused a_isWall a_kind a_lampCell a_range a_lit a_scenes a_who a_cell a_minuteOf a_standsAt i_lampMany i_people i_minute a_tape a_letter a_letterAt a_told i_taped i_at i_statements a_kept i_hasImage i_isKeeping i_cursor a_far a_shut a_queue i_queued a_litBy a_may a_row i_rowMany g0) H → va_S (gA b) s.heap H locs → lv_has ls 4 [(2, .int x)] → W p l e rm_X12_cellsLitBy s m args below meth c H locs 0 0 Q (F0 m 39 ls [])) → ∀ (H : Heap) (locs : List Loc) (ls : Array Slot), GP D b M (mg cI h0 a_refused a_isWall a_kind a_lampCell a_range a_lit a_scenes a_who a_cell a_minuteOf a_standsAt i_lampMany i_people i_minute a_tape a_letter a_letterAt a_told i_taped i_at i_statements a_kept i_hasImage i_isKeeping i_cursor a_far a_shut a_queue i_queued a_litBy a_may a_row i_rowMany g0) H → va_S (gA b) s.heap H locs → lv_has ls 4 [(0, .ref h0), (1, .int v1), (2, .int v2), (3, .int v3)] → W p l e rm_X12_cellsLitBy s m args below meth c H locs 0 0 Q (F0 m 8 ls []) := by
  obtain ⟨hx, hb, hr, hml, hown, hts, hlocks, hKn, hBs⟩ := id X
  have hK := hKn.1
  have hin : ∀ w ∈ wsX120, w ∈ wsX12_cellsLitBy := fun w h => List.mem_cons_of_mem _ (List.mem_append_right _ h)
  intro n
  induction n with
  | zero =>
    intro v2 v3 hf
    cases hf
  | succ n ih =>
    intro v2 v3 hf hk39 H locs ls hG hS hl
    rw [L_X12_cellsLitBy_8.eq_2] at hf
    refine lv_iload_n hx hb dX12_cellsLitBy_8 rfl (lv_at hl 3 rfl) ?_
    refine lv_bipush (v := 36) hx hb dX12_cellsLitBy_9 (by decide) ?_
    refine lv_icmp_ge (tgt := 39) hx hb dX12_cellsLitBy_11 (by decide) (fun c11 => ?_) (fun c11 => ?_)
    · have hf := gb_t c11 hf
      exact hk39 _ hf _ _ _ hG hS (lv_sub hl [2] rfl)
    · have hf := gb_f c11 hf
      refine lv_iload_n hx hb dX12_cellsLitBy_14 rfl (lv_at hl 2 rfl) ?_
      refine lv_aload_n hx hb dX12_cellsLitBy_15 rfl (lv_at hl 0 rfl) ?_
      refine gp_get (v := .ref (h0 + 20)) (C := RX12) (T := TX12) (N := 33) (ci := 10) hx hb hts hin hown hK hG mg_o rfl 29 (by decide) (hts _ (List.mem_of_getElem? (i := 1) rfl)) (fun _ h9 => h9) rfl dX12_cellsLitBy_16 ?_
      refine lv_iload_n hx hb dX12_cellsLitBy_19 rfl (lv_at hl 3 rfl) ?_
      obtain ⟨b20, hf⟩ := gb_ix hf
      refine gp_iald hx hb hK hG mg_litBy b20 dX12_cellsLitBy_20 ?_
      refine lv_iload_n hx hb dX12_cellsLitBy_21 rfl (lv_at hl 1 rfl) ?_
      refine lv_iand hx hb dX12_cellsLitBy_22 ?_
      have hJ23 : ∀ Z : Int32, Z = (if ((a_litBy v3.toNatClampNeg) &&& v1) = 0 then 0 else 1) → W p l e rm_X12_cellsLitBy s m args below meth c H locs 0 0 Q (F0 m 31 ls (.int Z :: [.int v2])) := by
        intro Z hZ
        subst hZ
        refine lv_iadd hx hb dX12_cellsLitBy_31 ?_
        refine lv_istore_n (lv' := [(2, .int (v2 + (if ((a_litBy v3.toNatClampNeg) &&& v1) = 0 then 0 else 1))), (0, .ref h0), (1, .int v1), (3, .int v3)]) hx hb dX12_cellsLitBy_32 rfl hl (by decide) rfl (fun ls hl => ?_)
        refine lv_iinc (v := v3 + 1) (lv' := [(3, .int (v3 + 1)), (2, .int (v2 + (if ((a_litBy v3.toNatClampNeg) &&& v1) = 0 then 0 else 1))), (0, .ref h0), (1, .int v1)]) hx hb dX12_cellsLitBy_33 hl (k := 3) rfl rfl (by decide) rfl (fun ls hl => ?_)
        refine lv_goto (tgt := 8) hx hb dX12_cellsLitBy_36 (by decide) ?_
        exact ih _ _ hf hk39 _ _ _ hG hS (lv_sub hl [2, 3, 1, 0] rfl)
      refine lv_if_eq (tgt := 30) hx hb dX12_cellsLitBy_23 (by decide) (fun c23 => ?_) (fun c23 => ?_)
      · rw [if_pos c23] at hJ23
        refine lv_iconst (v := 0) hx hb dX12_cellsLitBy_30 (by decide) ?_
        exact hJ23 _ rfl
      · rw [if_neg c23] at hJ23
        refine lv_iconst (v := 1) hx hb dX12_cellsLitBy_26 (by decide) ?_
        refine lv_goto (tgt := 31) hx hb dX12_cellsLitBy_27 (by decide) ?_
        exact hJ23 _ rfl
set_option maxHeartbeats 4000000 in
set_option maxRecDepth 100000 in
theorem c_X12_cellsLitBy {v1 : Int32} {R : Int32 × (Nat → Int32) × (Nat → Int32) × (Nat → Int32) × Int32 × (Nat → Int32)} (hf : f_X12_cellsLitBy a_isWall a_kind a_lampCell a_range a_standsAt i_lampMany i_people a_far a_shut a_queue i_queued a_litBy v1 = some R) : Met l yX12_cellsLitBy wsX12_cellsLitBy rm_X12_cellsLitBy (va_Pc [.ref h0, .int v1] (gPre D b M (mg cI h0 a_refused a_isWall a_kind a_lampCell a_range a_lit a_scenes a_who a_cell a_minuteOf a_standsAt i_lampMany i_people i_minute a_tape a_letter a_letterAt a_told i_taped i_at i_statements a_kept i_hasImage i_isKeeping i_cursor a_far a_shut a_queue i_queued a_litBy a_may a_row i_rowMany g0) (gTy cI cL))) (gQ D b (some (.int R.1)) M (mg cI h0 a_refused a_isWall a_kind a_lampCell a_range a_lit a_scenes a_who a_cell a_minuteOf a_standsAt i_lampMany i_people i_minute a_tape a_letter a_letterAt a_told i_taped i_at i_statements a_kept i_hasImage i_isKeeping i_cursor R.2.1 R.2.2.1 R.2.2.2.1 R.2.2.2.2.1 R.2.2.2.2.2 a_may a_row i_rowMany g0)) 0 0 (gA b) := by
  refine gp_met (cc := cX12_cellsLitBy) (maxL := 4) (ret := (some .int)) (by decide) rfl (Nat.le_of_ble_eq_true rfl) ?_
  intro p e s m below meth c X ls hG hl
  have hS : va_S (gA b) s.heap s.heap [] := va_S.rf
  obtain ⟨H, hH0⟩ : ∃ H : Heap, H = s.heap := ⟨_, rfl⟩
  rw [← hH0] at hG ⊢
  have hS : va_S (gA b) s.heap H [] := by rw [hH0]; exact va_S.rf
  obtain ⟨locs, hlo⟩ : ∃ z : List Loc, z = [] := ⟨_, rfl⟩
  rw [← hlo] at hS ⊢
  unfold f_X12_cellsLitBy at hf
  obtain ⟨hx, hb, hr, hml, hown, hts, hlocks, hKn, hBs⟩ := id X
  have hK := hKn.1
  have hin : ∀ w ∈ wsX120, w ∈ wsX12_cellsLitBy := fun w h => List.mem_cons_of_mem _ (List.mem_append_right _ h)
  have hl : lv_has ls 4 [(0, .ref h0), (1, .int v1)] := hl
  refine lv_aload_n hx hb dX12_cellsLitBy_0 rfl (lv_at hl 0 rfl) ?_
  obtain ⟨o1, hc1, hf⟩ := gb_b hf
  refine gp_callV (va_runV (As := []) (rest := []) ⟨hx, hb, hml, hown, hts⟩ (c_X12_findLit (l := l) (D := D) (b := b) (M := M) (cI := cI) (cL := cL) hc1) (cwV 0 hts gX12_cellsLitBy_X12_findLit rfl rfl rfl (by decide +kernel) ⟨Nat.le_of_ble_eq_true rfl, Nat.le_of_ble_eq_true rfl⟩) (gp_preV hKn hG mg_o rfl) rfl rfl hl.1 rfl (lv_room (Nat.le_of_ble_eq_true rfl)) dX12_cellsLitBy_1 ⟨Nat.le_of_ble_eq_true rfl, Nat.le_of_ble_eq_true rfl⟩) hS (fun H locs hG hS => ?_)
  refine lv_iconst (v := 0) hx hb dX12_cellsLitBy_4 (by decide) ?_
  refine lv_istore_n (lv' := [(2, .int 0), (0, .ref h0), (1, .int v1)]) hx hb dX12_cellsLitBy_5 rfl hl (by decide) rfl (fun ls hl => ?_)
  refine lv_iconst (v := 0) hx hb dX12_cellsLitBy_6 (by decide) ?_
  refine lv_istore_n (lv' := [(3, .int 0), (2, .int 0), (0, .ref h0), (1, .int v1)]) hx hb dX12_cellsLitBy_7 rfl hl (by decide) rfl (fun ls hl => ?_)
  refine w_X12_cellsLitBy_8 X _ _ _ hf (fun x8_39 hf H locs ls hG hS hl => ?_) _ _ _ hG hS (lv_sub hl [2, 3, 1, 0] rfl)
  · refine lv_iload_n hx hb dX12_cellsLitBy_39 rfl (lv_at hl 0 rfl) ?_
    have hf := Option.some.inj hf
    subst hf
    exact gp_retI hx hb hr hlocks hG hS (Nat.le_refl _) (Nat.le_refl _) dX12_cellsLitBy_40
-- X12_lamp
abbrev rm_X12_lamp : Room := { frames := 5, cells := 0, slots := 0, locals := 113 }
set_option maxHeartbeats 4000000 in
set_option maxRecDepth 100000 in
theorem c_X12_lamp {v1 : Int32} {v2 : Int32} {R : Int32 × (Nat → Int32) × (Nat → Int32) × (Nat → Int32) × (Nat → Int32) × Int32 × (Nat → Int32)} (hf : f_X12_lamp a_refused a_isWall a_kind a_lampCell a_range a_lit a_scenes a_standsAt i_lampMany i_people a_far a_shut a_queue i_queued a_litBy v1 v2 = some R) : Met l yX12_lamp wsX12_lamp rm_X12_lamp (va_Pc [.ref h0, .int v1, .int v2] (gPre D b M (mg cI h0 a_refused a_isWall a_kind a_lampCell a_range a_lit a_scenes a_who a_cell a_minuteOf a_standsAt i_lampMany i_people i_minute a_tape a_letter a_letterAt a_told i_taped i_at i_statements a_kept i_hasImage i_isKeeping i_cursor a_far a_shut a_queue i_queued a_litBy a_may a_row i_rowMany g0) (gTy cI cL))) (gQ D b (some (.int R.1)) M (mg cI h0 R.2.1 a_isWall a_kind a_lampCell a_range a_lit a_scenes a_who a_cell a_minuteOf a_standsAt i_lampMany i_people i_minute a_tape a_letter a_letterAt a_told i_taped i_at i_statements a_kept i_hasImage i_isKeeping i_cursor R.2.2.1 R.2.2.2.1 R.2.2.2.2.1 R.2.2.2.2.2.1 R.2.2.2.2.2.2 a_may a_row i_rowMany g0)) 0 0 (gA b) := by
  refine gp_met (cc := cX12_lamp) (maxL := 3) (ret := (some .int)) (by decide) rfl (Nat.le_of_ble_eq_true rfl) ?_
  intro p e s m below meth c X ls hG hl
  have hS : va_S (gA b) s.heap s.heap [] := va_S.rf
  obtain ⟨H, hH0⟩ : ∃ H : Heap, H = s.heap := ⟨_, rfl⟩
  rw [← hH0] at hG ⊢
  have hS : va_S (gA b) s.heap H [] := by rw [hH0]; exact va_S.rf
  obtain ⟨locs, hlo⟩ : ∃ z : List Loc, z = [] := ⟨_, rfl⟩
  rw [← hlo] at hS ⊢
  unfold f_X12_lamp at hf
  obtain ⟨hx, hb, hr, hml, hown, hts, hlocks, hKn, hBs⟩ := id X
  have hK := hKn.1
  have hin : ∀ w ∈ wsX120, w ∈ wsX12_lamp := fun w h => List.mem_cons_of_mem _ (List.mem_append_right _ h)
  have hl : lv_has ls 3 [(0, .ref h0), (1, .int v1), (2, .int v2)] := hl
  refine lv_aload_n hx hb dX12_lamp_0 rfl (lv_at hl 0 rfl) ?_
  refine lv_iload_n hx hb dX12_lamp_1 rfl (lv_at hl 1 rfl) ?_
  obtain ⟨o2, hc2, hf⟩ := gb_b hf
  refine gp_callI (va_runV (As := [.int v1]) (rest := []) ⟨hx, hb, hml, hown, hts⟩ (c_X12_isLamp (l := l) (D := D) (b := b) (M := M) (cI := cI) (cL := cL) hc2) (cwV 1 hts gX12_lamp_X12_isLamp rfl rfl rfl (by decide +kernel) ⟨Nat.le_of_ble_eq_true rfl, Nat.le_of_ble_eq_true rfl⟩) (gp_preV hKn hG mg_o rfl) rfl rfl hl.1 rfl (lv_room (Nat.le_of_ble_eq_true rfl)) dX12_lamp_2 ⟨Nat.le_of_ble_eq_true rfl, Nat.le_of_ble_eq_true rfl⟩) hS (fun H locs hG hS => ?_)
  refine lv_if_ne (tgt := 14) hx hb dX12_lamp_5 (by decide) (fun c5 => ?_) (fun c5 => ?_)
  · have hf := gb_f c5 hf
    refine lv_iload_n hx hb dX12_lamp_14 rfl (lv_at hl 2 rfl) ?_
    by_cases c15_0 : v2 = 0
    · have hf := gb_t c15_0 hf
      refine lv_tableIn (tgt := 52) (off := 37) hx hb dX12_lamp_15 (by rw [c15_0]; decide) (by rw [c15_0]; decide) (by rw [c15_0]; rfl) (by decide) ?_
      refine lv_aload_n hx hb dX12_lamp_52 rfl (lv_at hl 0 rfl) ?_
      refine gp_get (v := .ref (h0 + 3)) (C := RX12) (T := TX12) (N := 33) (ci := 10) hx hb hts hin hown hK hG mg_o rfl 2 (by decide) (hts _ (List.mem_of_getElem? (i := 1) rfl)) (fun _ h9 => h9) rfl dX12_lamp_53 ?_
      refine lv_iload_n hx hb dX12_lamp_56 rfl (lv_at hl 1 rfl) ?_
      obtain ⟨b57, hf⟩ := gb_ix hf
      refine gp_iald hx hb hK hG mg_kind b57 dX12_lamp_57 ?_
      have hf := Option.some.inj hf
      subst hf
      exact gp_retI hx hb hr hlocks hG hS (Nat.le_refl _) (Nat.le_refl _) dX12_lamp_58
    · have hf := gb_f c15_0 hf
      by_cases c15_1 : v2 = 1
      · have hf := gb_t c15_1 hf
        refine lv_tableIn (tgt := 59) (off := 44) hx hb dX12_lamp_15 (by rw [c15_1]; decide) (by rw [c15_1]; decide) (by rw [c15_1]; rfl) (by decide) ?_
        refine lv_aload_n hx hb dX12_lamp_59 rfl (lv_at hl 0 rfl) ?_
        refine lv_iload_n hx hb dX12_lamp_60 rfl (lv_at hl 1 rfl) ?_
        obtain ⟨o61, hc61, hf⟩ := gb_b hf
        refine gp_callI (va_runV (As := [.int v1]) (rest := []) ⟨hx, hb, hml, hown, hts⟩ (c_X12_cellOf (l := l) (D := D) (b := b) (M := M) (cI := cI) (cL := cL) hc61) (cwV 1 hts gX12_lamp_X12_cellOf rfl rfl rfl (by decide +kernel) ⟨Nat.le_of_ble_eq_true rfl, Nat.le_of_ble_eq_true rfl⟩) (gp_preV hKn hG mg_o rfl) rfl rfl hl.1 rfl (lv_room (Nat.le_of_ble_eq_true rfl)) dX12_lamp_61 ⟨Nat.le_of_ble_eq_true rfl, Nat.le_of_ble_eq_true rfl⟩) hS (fun H locs hG hS => ?_)
        have hf := Option.some.inj hf
        subst hf
        exact gp_retI hx hb hr hlocks hG hS (Nat.le_refl _) (Nat.le_refl _) dX12_lamp_64
      · have hf := gb_f c15_1 hf
        by_cases c15_2 : v2 = 2
        · have hf := gb_t c15_2 hf
          refine lv_tableIn (tgt := 65) (off := 50) hx hb dX12_lamp_15 (by rw [c15_2]; decide) (by rw [c15_2]; decide) (by rw [c15_2]; rfl) (by decide) ?_
          refine lv_aload_n hx hb dX12_lamp_65 rfl (lv_at hl 0 rfl) ?_
          refine gp_get (v := .ref (h0 + 5)) (C := RX12) (T := TX12) (N := 33) (ci := 10) hx hb hts hin hown hK hG mg_o rfl 4 (by decide) (hts _ (List.mem_of_getElem? (i := 2) rfl)) (fun _ h9 => h9) rfl dX12_lamp_66 ?_
          refine lv_iload_n hx hb dX12_lamp_69 rfl (lv_at hl 1 rfl) ?_
          obtain ⟨b70, hf⟩ := gb_ix hf
          refine gp_iald hx hb hK hG mg_range b70 dX12_lamp_70 ?_
          have hf := Option.some.inj hf
          subst hf
          exact gp_retI hx hb hr hlocks hG hS (Nat.le_refl _) (Nat.le_refl _) dX12_lamp_71
        · have hf := gb_f c15_2 hf
          by_cases c15_3 : v2 = 3
          · have hf := gb_t c15_3 hf
            refine lv_tableIn (tgt := 72) (off := 57) hx hb dX12_lamp_15 (by rw [c15_3]; decide) (by rw [c15_3]; decide) (by rw [c15_3]; rfl) (by decide) ?_
            refine lv_aload_n hx hb dX12_lamp_72 rfl (lv_at hl 0 rfl) ?_
            refine gp_get (v := .ref (h0 + 6)) (C := RX12) (T := TX12) (N := 33) (ci := 10) hx hb hts hin hown hK hG mg_o rfl 5 (by decide) (hts _ (List.mem_of_getElem? (i := 3) rfl)) (fun _ h9 => h9) rfl dX12_lamp_73 ?_
            refine lv_iload_n hx hb dX12_lamp_76 rfl (lv_at hl 1 rfl) ?_
            obtain ⟨b77, hf⟩ := gb_ix hf
            refine gp_iald hx hb hK hG mg_lit b77 dX12_lamp_77 ?_
            have hf := Option.some.inj hf
            subst hf
            exact gp_retI hx hb hr hlocks hG hS (Nat.le_refl _) (Nat.le_refl _) dX12_lamp_78
          · have hf := gb_f c15_3 hf
            by_cases c15_4 : v2 = 4
            · have hf := gb_t c15_4 hf
              refine lv_tableIn (tgt := 79) (off := 64) hx hb dX12_lamp_15 (by rw [c15_4]; decide) (by rw [c15_4]; decide) (by rw [c15_4]; rfl) (by decide) ?_
              refine lv_aload_n hx hb dX12_lamp_79 rfl (lv_at hl 0 rfl) ?_
              refine gp_get (v := .ref (h0 + 7)) (C := RX12) (T := TX12) (N := 33) (ci := 10) hx hb hts hin hown hK hG mg_o rfl 6 (by decide) (hts _ (List.mem_of_getElem? (i := 4) rfl)) (fun _ h9 => h9) rfl dX12_lamp_80 ?_
              refine lv_iload_n hx hb dX12_lamp_83 rfl (lv_at hl 1 rfl) ?_
              obtain ⟨b84, hf⟩ := gb_ix hf
              refine gp_iald hx hb hK hG mg_scenes b84 dX12_lamp_84 ?_
              have hf := Option.some.inj hf
              subst hf
              exact gp_retI hx hb hr hlocks hG hS (Nat.le_refl _) (Nat.le_refl _) dX12_lamp_85
            · have hf := gb_f c15_4 hf
              by_cases c15_5 : v2 = 5
              · have hf := gb_t c15_5 hf
                refine lv_tableIn (tgt := 86) (off := 71) hx hb dX12_lamp_15 (by rw [c15_5]; decide) (by rw [c15_5]; decide) (by rw [c15_5]; rfl) (by decide) ?_
                refine lv_aload_n hx hb dX12_lamp_86 rfl (lv_at hl 0 rfl) ?_
                refine lv_iconst (v := 1) hx hb dX12_lamp_87 (by decide) ?_
                refine lv_iload_n hx hb dX12_lamp_88 rfl (lv_at hl 1 rfl) ?_
                refine lv_ishl hx hb dX12_lamp_89 ?_
                obtain ⟨o90, hc90, hf⟩ := gb_b hf
                refine gp_callI (va_runV (As := [.int ((1 : Int32) <<< (v1 &&& 31))]) (rest := []) ⟨hx, hb, hml, hown, hts⟩ (c_X12_cellsLitBy (l := l) (D := D) (b := b) (M := M) (cI := cI) (cL := cL) hc90) (cwV 1 hts gX12_lamp_X12_cellsLitBy rfl rfl rfl (by decide +kernel) ⟨Nat.le_of_ble_eq_true rfl, Nat.le_of_ble_eq_true rfl⟩) (gp_preV hKn hG mg_o rfl) rfl rfl hl.1 rfl (lv_room (Nat.le_of_ble_eq_true rfl)) dX12_lamp_90 ⟨Nat.le_of_ble_eq_true rfl, Nat.le_of_ble_eq_true rfl⟩) hS (fun H locs hG hS => ?_)
                have hf := Option.some.inj hf
                subst hf
                exact gp_retI hx hb hr hlocks hG hS (Nat.le_refl _) (Nat.le_refl _) dX12_lamp_93
              · have hf := gb_f c15_5 hf
                have ho15 : (v2).toInt < 0 ∨ 5 < (v2).toInt := by
                  have q : ∀ k : Int32, ¬ v2 = k → ¬ (v2).toInt = k.toInt := fun k hk h => hk (Int32.toInt_inj.mp h)
                  have q0 := q 0 c15_0; rw [show (0 : Int32).toInt = 0 from rfl] at q0
                  have q1 := q 1 c15_1; rw [show (1 : Int32).toInt = 1 from rfl] at q1
                  have q2 := q 2 c15_2; rw [show (2 : Int32).toInt = 2 from rfl] at q2
                  have q3 := q 3 c15_3; rw [show (3 : Int32).toInt = 3 from rfl] at q3
                  have q4 := q 4 c15_4; rw [show (4 : Int32).toInt = 4 from rfl] at q4
                  have q5 := q 5 c15_5; rw [show (5 : Int32).toInt = 5 from rfl] at q5
                  omega
                refine lv_tableOut (tgt := 94) hx hb dX12_lamp_15 ho15 (by decide) ?_
                refine lv_aload_n hx hb dX12_lamp_94 rfl (lv_at hl 0 rfl) ?_
                refine lv_bipush (v := (-2 : Int32)) hx hb dX12_lamp_95 (by decide) ?_
                obtain ⟨o97, hc97, hf⟩ := gb_b hf
                refine gp_callI (va_runV (As := [.int (-2 : Int32)]) (rest := []) ⟨hx, hb, hml, hown, hts⟩ (c_X12_no (l := l) (D := D) (b := b) (M := M) (cI := cI) (cL := cL) hc97) (cwV 1 hts gX12_lamp_X12_no rfl rfl rfl (by decide +kernel) ⟨Nat.le_of_ble_eq_true rfl, Nat.le_of_ble_eq_true rfl⟩) (gp_preV hKn hG mg_o rfl) rfl rfl hl.1 rfl (lv_room (Nat.le_of_ble_eq_true rfl)) dX12_lamp_97 ⟨Nat.le_of_ble_eq_true rfl, Nat.le_of_ble_eq_true rfl⟩) hS (fun H locs hG hS => ?_)
                have hf := Option.some.inj hf
                subst hf
                exact gp_retI hx hb hr hlocks hG hS (Nat.le_refl _) (Nat.le_refl _) dX12_lamp_100
  · have hf := gb_t c5 hf
    refine lv_aload_n hx hb dX12_lamp_8 rfl (lv_at hl 0 rfl) ?_
    refine lv_iconst (v := (-1 : Int32)) hx hb dX12_lamp_9 (by decide) ?_
    obtain ⟨o10, hc10, hf⟩ := gb_b hf
    refine gp_callI (va_runV (As := [.int (-1 : Int32)]) (rest := []) ⟨hx, hb, hml, hown, hts⟩ (c_X12_no (l := l) (D := D) (b := b) (M := M) (cI := cI) (cL := cL) hc10) (cwV 1 hts gX12_lamp_X12_no rfl rfl rfl (by decide +kernel) ⟨Nat.le_of_ble_eq_true rfl, Nat.le_of_ble_eq_true rfl⟩) (gp_preV hKn hG mg_o rfl) rfl rfl hl.1 rfl (lv_room (Nat.le_of_ble_eq_true rfl)) dX12_lamp_10 ⟨Nat.le_of_ble_eq_true rfl, Nat.le_of_ble_eq_true rfl⟩) hS (fun H locs hG hS => ?_)
    have hf := Option.some.inj hf
    subst hf
    exact gp_retI hx hb hr hlocks hG hS (Nat.le_refl _) (Nat.le_refl _) dX12_lamp_13
-- X12_wall
abbrev rm_X12_wall : Room := { frames := 2, cells := 0, slots := 0, locals := 43 }
set_option maxHeartbeats 4000000 in
set_option maxRecDepth 100000 in
theorem c_X12_wall {v1 : Int32} {R : Int32 × (Nat → Int32) × (Nat → Int32)} (hf : f_X12_wall a_refused a_isWall a_standsAt i_people v1 = some R) : Met l yX12_wall wsX12_wall rm_X12_wall (va_Pc [.ref h0, .int v1] (gPre D b M (mg cI h0 a_refused a_isWall a_kind a_lampCell a_range a_lit a_scenes a_who a_cell a_minuteOf a_standsAt i_lampMany i_people i_minute a_tape a_letter a_letterAt a_told i_taped i_at i_statements a_kept i_hasImage i_isKeeping i_cursor a_far a_shut a_queue i_queued a_litBy a_may a_row i_rowMany g0) (gTy cI cL))) (gQ D b (some (.int R.1)) M (mg cI h0 R.2.1 R.2.2 a_kind a_lampCell a_range a_lit a_scenes a_who a_cell a_minuteOf a_standsAt i_lampMany i_people i_minute a_tape a_letter a_letterAt a_told i_taped i_at i_statements a_kept i_hasImage i_isKeeping i_cursor a_far a_shut a_queue i_queued a_litBy a_may a_row i_rowMany g0)) 0 0 (gA b) := by
  refine gp_met (cc := cX12_wall) (maxL := 3) (ret := (some .int)) (by decide) rfl (Nat.le_of_ble_eq_true rfl) ?_
  intro p e s m below meth c X ls hG hl
  have hS : va_S (gA b) s.heap s.heap [] := va_S.rf
  obtain ⟨H, hH0⟩ : ∃ H : Heap, H = s.heap := ⟨_, rfl⟩
  rw [← hH0] at hG ⊢
  have hS : va_S (gA b) s.heap H [] := by rw [hH0]; exact va_S.rf
  obtain ⟨locs, hlo⟩ : ∃ z : List Loc, z = [] := ⟨_, rfl⟩
  rw [← hlo] at hS ⊢
  unfold f_X12_wall at hf
  obtain ⟨hx, hb, hr, hml, hown, hts, hlocks, hKn, hBs⟩ := id X
  have hK := hKn.1
  have hin : ∀ w ∈ wsX120, w ∈ wsX12_wall := fun w h => List.mem_cons_of_mem _ (List.mem_append_right _ h)
  have hl : lv_has ls 3 [(0, .ref h0), (1, .int v1)] := hl
  refine lv_aload_n hx hb dX12_wall_0 rfl (lv_at hl 0 rfl) ?_
  refine lv_iload_n hx hb dX12_wall_1 rfl (lv_at hl 1 rfl) ?_
  obtain ⟨o2, hc2, hf⟩ := gb_b hf
  refine gp_callI (va_runV (As := [.int v1]) (rest := []) ⟨hx, hb, hml, hown, hts⟩ (c_X12_notWall (l := l) (D := D) (b := b) (M := M) (cI := cI) (cL := cL) hc2) (cwV 1 hts gX12_wall_X12_notWall rfl rfl rfl (by decide +kernel) ⟨Nat.le_of_ble_eq_true rfl, Nat.le_of_ble_eq_true rfl⟩) (gp_preV hKn hG mg_o rfl) rfl rfl hl.1 rfl (lv_room (Nat.le_of_ble_eq_true rfl)) dX12_wall_2 ⟨Nat.le_of_ble_eq_true rfl, Nat.le_of_ble_eq_true rfl⟩) hS (fun H locs hG hS => ?_)
  refine lv_istore_n (lv' := [(2, .int o2), (0, .ref h0), (1, .int v1)]) hx hb dX12_wall_5 rfl hl (by decide) rfl (fun ls hl => ?_)
  refine lv_iload_n hx hb dX12_wall_6 rfl (lv_at hl 0 rfl) ?_
  refine lv_if_eq (tgt := 16) hx hb dX12_wall_7 (by decide) (fun c7 => ?_) (fun c7 => ?_)
  · have hf := gb_t c7 hf
    refine lv_aload_n hx hb dX12_wall_16 rfl (lv_at hl 1 rfl) ?_
    refine gp_get (v := .ref (h0 + 2)) (C := RX12) (T := TX12) (N := 33) (ci := 10) hx hb hts hin hown hK hG mg_o rfl 1 (by decide) (hts _ (List.mem_of_getElem? (i := 1) rfl)) (fun _ h9 => h9) rfl dX12_wall_17 ?_
    refine lv_iload_n hx hb dX12_wall_20 rfl (lv_at hl 2 rfl) ?_
    refine lv_iconst (v := 1) hx hb dX12_wall_21 (by decide) ?_
    refine lv_aload_n hx hb dX12_wall_22 rfl (lv_at hl 1 rfl) ?_
    refine gp_get (v := .ref (h0 + 2)) (C := RX12) (T := TX12) (N := 33) (ci := 10) hx hb hts hin hown hK hG mg_o rfl 1 (by decide) (hts _ (List.mem_of_getElem? (i := 1) rfl)) (fun _ h9 => h9) rfl dX12_wall_23 ?_
    refine lv_iload_n hx hb dX12_wall_26 rfl (lv_at hl 2 rfl) ?_
    obtain ⟨b27, hf⟩ := gb_ix hf
    refine gp_iald hx hb hK hG mg_isWall b27 dX12_wall_27 ?_
    refine lv_isub hx hb dX12_wall_28 ?_
    obtain ⟨b29, hf⟩ := gb_ix hf
    refine gp_iast hx hb hK hG hS mg_isWall b29 mu_isWall dX12_wall_29 (fun H locs hG hS => ?_)
    refine lv_aload_n hx hb dX12_wall_30 rfl (lv_at hl 1 rfl) ?_
    refine gp_get (v := .ref (h0 + 2)) (C := RX12) (T := TX12) (N := 33) (ci := 10) hx hb hts hin hown hK hG mg_o rfl 1 (by decide) (hts _ (List.mem_of_getElem? (i := 1) rfl)) (fun _ h9 => h9) rfl dX12_wall_31 ?_
    refine lv_iload_n hx hb dX12_wall_34 rfl (lv_at hl 2 rfl) ?_
    obtain ⟨b35, hf⟩ := gb_ix hf
    refine gp_iald hx hb hK hG mg_isWall b35 dX12_wall_35 ?_
    have hf := Option.some.inj hf
    subst hf
    exact gp_retI hx hb hr hlocks hG hS (Nat.le_refl _) (Nat.le_refl _) dX12_wall_36
  · have hf := gb_f c7 hf
    refine lv_aload_n hx hb dX12_wall_10 rfl (lv_at hl 1 rfl) ?_
    refine lv_iload_n hx hb dX12_wall_11 rfl (lv_at hl 0 rfl) ?_
    obtain ⟨o12, hc12, hf⟩ := gb_b hf
    refine gp_callI (va_runV (As := [.int o2]) (rest := []) ⟨hx, hb, hml, hown, hts⟩ (c_X12_no (l := l) (D := D) (b := b) (M := M) (cI := cI) (cL := cL) hc12) (cwV 1 hts gX12_wall_X12_no rfl rfl rfl (by decide +kernel) ⟨Nat.le_of_ble_eq_true rfl, Nat.le_of_ble_eq_true rfl⟩) (gp_preV hKn hG mg_o rfl) rfl rfl hl.1 rfl (lv_room (Nat.le_of_ble_eq_true rfl)) dX12_wall_12 ⟨Nat.le_of_ble_eq_true rfl, Nat.le_of_ble_eq_true rfl⟩) hS (fun H locs hG hS => ?_)
    have hf := Option.some.inj hf
    subst hf
    exact gp_retI hx hb hr hlocks hG hS (Nat.le_refl _) (Nat.le_refl _) dX12_wall_15
-- X12_person
abbrev rm_X12_person : Room := { frames := 2, cells := 0, slots := 0, locals := 41 }
set_option maxHeartbeats 4000000 in
set_option maxRecDepth 100000 in
theorem c_X12_person {v1 : Int32} {R : Int32 × (Nat → Int32) × (Nat → Int32) × Int32} (hf : f_X12_person a_refused a_isWall a_standsAt i_people v1 = some R) : Met l yX12_person wsX12_person rm_X12_person (va_Pc [.ref h0, .int v1] (gPre D b M (mg cI h0 a_refused a_isWall a_kind a_lampCell a_range a_lit a_scenes a_who a_cell a_minuteOf a_standsAt i_lampMany i_people i_minute a_tape a_letter a_letterAt a_told i_taped i_at i_statements a_kept i_hasImage i_isKeeping i_cursor a_far a_shut a_queue i_queued a_litBy a_may a_row i_rowMany g0) (gTy cI cL))) (gQ D b (some (.int R.1)) M (mg cI h0 R.2.1 a_isWall a_kind a_lampCell a_range a_lit a_scenes a_who a_cell a_minuteOf R.2.2.1 i_lampMany R.2.2.2 i_minute a_tape a_letter a_letterAt a_told i_taped i_at i_statements a_kept i_hasImage i_isKeeping i_cursor a_far a_shut a_queue i_queued a_litBy a_may a_row i_rowMany g0)) 0 0 (gA b) := by
  refine gp_met (cc := cX12_person) (maxL := 3) (ret := (some .int)) (by decide) rfl (Nat.le_of_ble_eq_true rfl) ?_
  intro p e s m below meth c X ls hG hl
  have hS : va_S (gA b) s.heap s.heap [] := va_S.rf
  obtain ⟨H, hH0⟩ : ∃ H : Heap, H = s.heap := ⟨_, rfl⟩
  rw [← hH0] at hG ⊢
  have hS : va_S (gA b) s.heap H [] := by rw [hH0]; exact va_S.rf
  obtain ⟨locs, hlo⟩ : ∃ z : List Loc, z = [] := ⟨_, rfl⟩
  rw [← hlo] at hS ⊢
  unfold f_X12_person at hf
  obtain ⟨hx, hb, hr, hml, hown, hts, hlocks, hKn, hBs⟩ := id X
  have hK := hKn.1
  have hin : ∀ w ∈ wsX120, w ∈ wsX12_person := fun w h => List.mem_cons_of_mem _ (List.mem_append_right _ h)
  have hl : lv_has ls 3 [(0, .ref h0), (1, .int v1)] := hl
  refine lv_aload_n hx hb dX12_person_0 rfl (lv_at hl 0 rfl) ?_
  refine lv_iload_n hx hb dX12_person_1 rfl (lv_at hl 1 rfl) ?_
  obtain ⟨o2, hc2, hf⟩ := gb_b hf
  refine gp_callI (va_runV (As := [.int v1]) (rest := []) ⟨hx, hb, hml, hown, hts⟩ (c_X12_notPerson (l := l) (D := D) (b := b) (M := M) (cI := cI) (cL := cL) hc2) (cwV 1 hts gX12_person_X12_notPerson rfl rfl rfl (by decide +kernel) ⟨Nat.le_of_ble_eq_true rfl, Nat.le_of_ble_eq_true rfl⟩) (gp_preV hKn hG mg_o rfl) rfl rfl hl.1 rfl (lv_room (Nat.le_of_ble_eq_true rfl)) dX12_person_2 ⟨Nat.le_of_ble_eq_true rfl, Nat.le_of_ble_eq_true rfl⟩) hS (fun H locs hG hS => ?_)
  refine lv_istore_n (lv' := [(2, .int o2), (0, .ref h0), (1, .int v1)]) hx hb dX12_person_5 rfl hl (by decide) rfl (fun ls hl => ?_)
  refine lv_iload_n hx hb dX12_person_6 rfl (lv_at hl 0 rfl) ?_
  refine lv_if_eq (tgt := 16) hx hb dX12_person_7 (by decide) (fun c7 => ?_) (fun c7 => ?_)
  · have hf := gb_t c7 hf
    refine lv_aload_n hx hb dX12_person_16 rfl (lv_at hl 1 rfl) ?_
    refine gp_get (v := .ref (h0 + 11)) (C := RX12) (T := TX12) (N := 33) (ci := 10) hx hb hts hin hown hK hG mg_o rfl 10 (by decide) (hts _ (List.mem_of_getElem? (i := 1) rfl)) (fun _ h9 => h9) rfl dX12_person_17 ?_
    refine lv_aload_n hx hb dX12_person_20 rfl (lv_at hl 1 rfl) ?_
    refine gp_get (v := .int i_people) (C := RX12) (T := TX12) (N := 33) (ci := 10) hx hb hts hin hown hK hG mg_o rfl 12 (by decide) (hts _ (List.mem_of_getElem? (i := 2) rfl)) (fun _ h9 => h9) rfl dX12_person_21 ?_
    refine lv_iload_n hx hb dX12_person_24 rfl (lv_at hl 2 rfl) ?_
    obtain ⟨b25, hf⟩ := gb_ix hf
    refine gp_iast hx hb hK hG hS mg_standsAt b25 mu_standsAt dX12_person_25 (fun H locs hG hS => ?_)
    refine lv_aload_n hx hb dX12_person_26 rfl (lv_at hl 1 rfl) ?_
    refine lv_dup hx hb dX12_person_27 rfl ?_
    refine gp_get (v := .int i_people) (C := RX12) (T := TX12) (N := 33) (ci := 10) hx hb hts hin hown hK hG mg_o rfl 12 (by decide) (hts _ (List.mem_of_getElem? (i := 2) rfl)) (fun _ h9 => h9) rfl dX12_person_28 ?_
    refine lv_iconst (v := 1) hx hb dX12_person_31 (by decide) ?_
    refine lv_iadd hx hb dX12_person_32 ?_
    refine gp_put (v := .int (i_people + 1)) (tyk := .int) (C := RX12) (T := TX12) (N := 33) (ci := 10) hx hb hts hin tyX12 tyX12_ok nmX12 hown hK hG hS mg_o rfl 12 (by decide) (hts _ (List.mem_of_getElem? (i := 2) rfl)) (fun _ h9 => h9) rfl rfl rfl rfl (Nat.le_of_ble_eq_true rfl) mu_people dX12_person_33 (fun H locs hG hS => ?_)
    refine lv_aload_n hx hb dX12_person_36 rfl (lv_at hl 1 rfl) ?_
    refine gp_get (v := .int (i_people + 1)) (C := RX12) (T := TX12) (N := 33) (ci := 10) hx hb hts hin hown hK hG mg_o rfl 12 (by decide) (hts _ (List.mem_of_getElem? (i := 2) rfl)) (fun _ h9 => h9) rfl dX12_person_37 ?_
    refine lv_iconst (v := 1) hx hb dX12_person_40 (by decide) ?_
    refine lv_isub hx hb dX12_person_41 ?_
    have hf := Option.some.inj hf
    subst hf
    exact gp_retI hx hb hr hlocks hG hS (Nat.le_refl _) (Nat.le_refl _) dX12_person_42
  · have hf := gb_f c7 hf
    refine lv_aload_n hx hb dX12_person_10 rfl (lv_at hl 1 rfl) ?_
    refine lv_iload_n hx hb dX12_person_11 rfl (lv_at hl 0 rfl) ?_
    obtain ⟨o12, hc12, hf⟩ := gb_b hf
    refine gp_callI (va_runV (As := [.int o2]) (rest := []) ⟨hx, hb, hml, hown, hts⟩ (c_X12_no (l := l) (D := D) (b := b) (M := M) (cI := cI) (cL := cL) hc12) (cwV 1 hts gX12_person_X12_no rfl rfl rfl (by decide +kernel) ⟨Nat.le_of_ble_eq_true rfl, Nat.le_of_ble_eq_true rfl⟩) (gp_preV hKn hG mg_o rfl) rfl rfl hl.1 rfl (lv_room (Nat.le_of_ble_eq_true rfl)) dX12_person_12 ⟨Nat.le_of_ble_eq_true rfl, Nat.le_of_ble_eq_true rfl⟩) hS (fun H locs hG hS => ?_)
    have hf := Option.some.inj hf
    subst hf
    exact gp_retI hx hb hr hlocks hG hS (Nat.le_refl _) (Nat.le_refl _) dX12_person_15
-- X12_where
abbrev rm_X12_where : Room := { frames := 1, cells := 0, slots := 0, locals := 21 }
set_option maxHeartbeats 4000000 in
set_option maxRecDepth 100000 in
theorem c_X12_where {v1 : Int32} {R : Int32 × (Nat → Int32)} (hf : f_X12_where a_refused a_standsAt i_people v1 = some R) : Met l yX12_where wsX12_where rm_X12_where (va_Pc [.ref h0, .int v1] (gPre D b M (mg cI h0 a_refused a_isWall a_kind a_lampCell a_range a_lit a_scenes a_who a_cell a_minuteOf a_standsAt i_lampMany i_people i_minute a_tape a_letter a_letterAt a_told i_taped i_at i_statements a_kept i_hasImage i_isKeeping i_cursor a_far a_shut a_queue i_queued a_litBy a_may a_row i_rowMany g0) (gTy cI cL))) (gQ D b (some (.int R.1)) M (mg cI h0 R.2 a_isWall a_kind a_lampCell a_range a_lit a_scenes a_who a_cell a_minuteOf a_standsAt i_lampMany i_people i_minute a_tape a_letter a_letterAt a_told i_taped i_at i_statements a_kept i_hasImage i_isKeeping i_cursor a_far a_shut a_queue i_queued a_litBy a_may a_row i_rowMany g0)) 0 0 (gA b) := by
  refine gp_met (cc := cX12_where) (maxL := 2) (ret := (some .int)) (by decide) rfl (Nat.le_of_ble_eq_true rfl) ?_
  intro p e s m below meth c X ls hG hl
  have hS : va_S (gA b) s.heap s.heap [] := va_S.rf
  obtain ⟨H, hH0⟩ : ∃ H : Heap, H = s.heap := ⟨_, rfl⟩
  rw [← hH0] at hG ⊢
  have hS : va_S (gA b) s.heap H [] := by rw [hH0]; exact va_S.rf
  obtain ⟨locs, hlo⟩ : ∃ z : List Loc, z = [] := ⟨_, rfl⟩
  rw [← hlo] at hS ⊢
  unfold f_X12_where at hf
  obtain ⟨hx, hb, hr, hml, hown, hts, hlocks, hKn, hBs⟩ := id X
  have hK := hKn.1
  have hin : ∀ w ∈ wsX120, w ∈ wsX12_where := fun w h => List.mem_cons_of_mem _ (List.mem_append_right _ h)
  have hl : lv_has ls 2 [(0, .ref h0), (1, .int v1)] := hl
  refine lv_aload_n hx hb dX12_where_0 rfl (lv_at hl 0 rfl) ?_
  refine lv_iload_n hx hb dX12_where_1 rfl (lv_at hl 1 rfl) ?_
  obtain ⟨o2, hc2, hf⟩ := gb_b hf
  refine gp_callI (va_runV (As := [.int v1]) (rest := []) ⟨hx, hb, hml, hown, hts⟩ (c_X12_isPerson (l := l) (D := D) (b := b) (M := M) (cI := cI) (cL := cL) hc2) (cwV 1 hts gX12_where_X12_isPerson rfl rfl rfl (by decide +kernel) ⟨Nat.le_of_ble_eq_true rfl, Nat.le_of_ble_eq_true rfl⟩) (gp_preV hKn hG mg_o rfl) rfl rfl hl.1 rfl (lv_room (Nat.le_of_ble_eq_true rfl)) dX12_where_2 ⟨Nat.le_of_ble_eq_true rfl, Nat.le_of_ble_eq_true rfl⟩) hS (fun H locs hG hS => ?_)
  obtain ⟨j5, hj5, hf⟩ := gb_b hf
  have hJ5 : ∀ (H : Heap) (locs : List Loc) (ls : Array Slot), GP D b M (mg cI h0 j5.2 a_isWall a_kind a_lampCell a_range a_lit a_scenes a_who a_cell a_minuteOf a_standsAt i_lampMany i_people i_minute a_tape a_letter a_letterAt a_told i_taped i_at i_statements a_kept i_hasImage i_isKeeping i_cursor a_far a_shut a_queue i_queued a_litBy a_may a_row i_rowMany g0) H → va_S (gA b) s.heap H locs → lv_has ls 2 [] → W p l e rm_X12_where s m [.ref h0, .int v1].toArray below meth c H locs 0 0 (MQ below (gQ D b (some (.int R.1)) M (mg cI h0 R.2 a_isWall a_kind a_lampCell a_range a_lit a_scenes a_who a_cell a_minuteOf a_standsAt i_lampMany i_people i_minute a_tape a_letter a_letterAt a_told i_taped i_at i_statements a_kept i_hasImage i_isKeeping i_cursor a_far a_shut a_queue i_queued a_litBy a_may a_row i_rowMany g0)) [.ref h0, .int v1].toArray s 0 0 (gA b)) (F0 m 22 ls [.int j5.1]) := by
    intro H locs ls hG hS hl
    have hf := Option.some.inj hf
    subst hf
    exact gp_retI hx hb hr hlocks hG hS (Nat.le_refl _) (Nat.le_refl _) dX12_where_22
  refine lv_if_eq (tgt := 17) hx hb dX12_where_5 (by decide) (fun c5 => ?_) (fun c5 => ?_)
  · have hj5 := gb_t c5 hj5
    refine lv_aload_n hx hb dX12_where_17 rfl (lv_at hl 0 rfl) ?_
    refine lv_iconst (v := (-1 : Int32)) hx hb dX12_where_18 (by decide) ?_
    obtain ⟨o19, hc19, hj5⟩ := gb_b hj5
    refine gp_callI (va_runV (As := [.int (-1 : Int32)]) (rest := []) ⟨hx, hb, hml, hown, hts⟩ (c_X12_no (l := l) (D := D) (b := b) (M := M) (cI := cI) (cL := cL) hc19) (cwV 1 hts gX12_where_X12_no rfl rfl rfl (by decide +kernel) ⟨Nat.le_of_ble_eq_true rfl, Nat.le_of_ble_eq_true rfl⟩) (gp_preV hKn hG mg_o rfl) rfl rfl hl.1 rfl (lv_room (Nat.le_of_ble_eq_true rfl)) dX12_where_19 ⟨Nat.le_of_ble_eq_true rfl, Nat.le_of_ble_eq_true rfl⟩) hS (fun H locs hG hS => ?_)
    have hj5 := Option.some.inj hj5
    subst hj5
    exact hJ5 H locs ls hG hS (lv_sub hl [] rfl)
  · have hj5 := gb_f c5 hj5
    refine lv_aload_n hx hb dX12_where_8 rfl (lv_at hl 0 rfl) ?_
    refine gp_get (v := .ref (h0 + 11)) (C := RX12) (T := TX12) (N := 33) (ci := 10) hx hb hts hin hown hK hG mg_o rfl 10 (by decide) (hts _ (List.mem_of_getElem? (i := 1) rfl)) (fun _ h9 => h9) rfl dX12_where_9 ?_
    refine lv_iload_n hx hb dX12_where_12 rfl (lv_at hl 1 rfl) ?_
    obtain ⟨b13, hj5⟩ := gb_ix hj5
    refine gp_iald hx hb hK hG mg_standsAt b13 dX12_where_13 ?_
    refine lv_goto (tgt := 22) hx hb dX12_where_14 (by decide) ?_
    have hj5 := Option.some.inj hj5
    subst hj5
    exact hJ5 H locs ls hG hS (lv_sub hl [] rfl)
-- X12_go
abbrev rm_X12_go : Room := { frames := 6, cells := 0, slots := 0, locals := 139 }
set_option maxHeartbeats 4000000 in
set_option maxRecDepth 100000 in
theorem c_X12_go {v1 : Int32} {v2 : Int32} {R : Int32 × (Nat → Int32) × (Nat → Int32) × (Nat → Int32) × (Nat → Int32) × (Nat → Int32) × (Nat → Int32) × Int32 × (Nat → Int32) × (Nat → Int32) × (Nat → Int32) × Int32 × (Nat → Int32)} (hf : f_X12_go a_refused a_isWall a_kind a_lampCell a_range a_lit a_scenes a_who a_cell a_minuteOf a_standsAt i_lampMany i_people i_minute a_far a_shut a_queue i_queued a_litBy v1 v2 = some R) : Met l yX12_go wsX12_go rm_X12_go (va_Pc [.ref h0, .int v1, .int v2] (gPre D b M (mg cI h0 a_refused a_isWall a_kind a_lampCell a_range a_lit a_scenes a_who a_cell a_minuteOf a_standsAt i_lampMany i_people i_minute a_tape a_letter a_letterAt a_told i_taped i_at i_statements a_kept i_hasImage i_isKeeping i_cursor a_far a_shut a_queue i_queued a_litBy a_may a_row i_rowMany g0) (gTy cI cL))) (gQ D b (some (.int R.1)) M (mg cI h0 R.2.1 a_isWall a_kind a_lampCell a_range a_lit R.2.2.1 R.2.2.2.1 R.2.2.2.2.1 R.2.2.2.2.2.1 R.2.2.2.2.2.2.1 i_lampMany i_people R.2.2.2.2.2.2.2.1 a_tape a_letter a_letterAt a_told i_taped i_at i_statements a_kept i_hasImage i_isKeeping i_cursor R.2.2.2.2.2.2.2.2.1 R.2.2.2.2.2.2.2.2.2.1 R.2.2.2.2.2.2.2.2.2.2.1 R.2.2.2.2.2.2.2.2.2.2.2.1 R.2.2.2.2.2.2.2.2.2.2.2.2 a_may a_row i_rowMany g0)) 0 0 (gA b) := by
  refine gp_met (cc := cX12_go) (maxL := 4) (ret := (some .int)) (by decide) rfl (Nat.le_of_ble_eq_true rfl) ?_
  intro p e s m below meth c X ls hG hl
  have hS : va_S (gA b) s.heap s.heap [] := va_S.rf
  obtain ⟨H, hH0⟩ : ∃ H : Heap, H = s.heap := ⟨_, rfl⟩
  rw [← hH0] at hG ⊢
  have hS : va_S (gA b) s.heap H [] := by rw [hH0]; exact va_S.rf
  obtain ⟨locs, hlo⟩ : ∃ z : List Loc, z = [] := ⟨_, rfl⟩
  rw [← hlo] at hS ⊢
  unfold f_X12_go at hf
  obtain ⟨hx, hb, hr, hml, hown, hts, hlocks, hKn, hBs⟩ := id X
  have hK := hKn.1
  have hin : ∀ w ∈ wsX120, w ∈ wsX12_go := fun w h => List.mem_cons_of_mem _ (List.mem_append_right _ h)
  have hl : lv_has ls 4 [(0, .ref h0), (1, .int v1), (2, .int v2)] := hl
  refine lv_aload_n hx hb dX12_go_0 rfl (lv_at hl 0 rfl) ?_
  refine lv_iload_n hx hb dX12_go_1 rfl (lv_at hl 1 rfl) ?_
  refine lv_iload_n hx hb dX12_go_2 rfl (lv_at hl 2 rfl) ?_
  obtain ⟨o3, hc3, hf⟩ := gb_b hf
  refine gp_callI (va_runV (As := [.int v1, .int v2]) (rest := []) ⟨hx, hb, hml, hown, hts⟩ (c_X12_notGo (l := l) (D := D) (b := b) (M := M) (cI := cI) (cL := cL) hc3) (cwV 2 hts gX12_go_X12_notGo rfl rfl rfl (by decide +kernel) ⟨Nat.le_of_ble_eq_true rfl, Nat.le_of_ble_eq_true rfl⟩) (gp_preV hKn hG mg_o rfl) rfl rfl hl.1 rfl (lv_room (Nat.le_of_ble_eq_true rfl)) dX12_go_3 ⟨Nat.le_of_ble_eq_true rfl, Nat.le_of_ble_eq_true rfl⟩) hS (fun H locs hG hS => ?_)
  refine lv_istore_n (lv' := [(3, .int o3.1), (0, .ref h0), (1, .int v1), (2, .int v2)]) hx hb dX12_go_6 rfl hl (by decide) rfl (fun ls hl => ?_)
  refine lv_iload_n hx hb dX12_go_7 rfl (lv_at hl 0 rfl) ?_
  obtain ⟨j8, hj8, hf⟩ := gb_b hf
  have hJ8 : ∀ (H : Heap) (locs : List Loc) (ls : Array Slot), GP D b M (mg cI h0 j8.2.1 a_isWall a_kind a_lampCell a_range a_lit j8.2.2.1 j8.2.2.2.1 j8.2.2.2.2.1 j8.2.2.2.2.2.1 j8.2.2.2.2.2.2.1 i_lampMany i_people j8.2.2.2.2.2.2.2.1 a_tape a_letter a_letterAt a_told i_taped i_at i_statements a_kept i_hasImage i_isKeeping i_cursor j8.2.2.2.2.2.2.2.2.1 j8.2.2.2.2.2.2.2.2.2.1 j8.2.2.2.2.2.2.2.2.2.2.1 j8.2.2.2.2.2.2.2.2.2.2.2.1 j8.2.2.2.2.2.2.2.2.2.2.2.2 a_may a_row i_rowMany g0) H → va_S (gA b) s.heap H locs → lv_has ls 4 [] → W p l e rm_X12_go s m [.ref h0, .int v1, .int v2].toArray below meth c H locs 0 0 (MQ below (gQ D b (some (.int R.1)) M (mg cI h0 R.2.1 a_isWall a_kind a_lampCell a_range a_lit R.2.2.1 R.2.2.2.1 R.2.2.2.2.1 R.2.2.2.2.2.1 R.2.2.2.2.2.2.1 i_lampMany i_people R.2.2.2.2.2.2.2.1 a_tape a_letter a_letterAt a_told i_taped i_at i_statements a_kept i_hasImage i_isKeeping i_cursor R.2.2.2.2.2.2.2.2.1 R.2.2.2.2.2.2.2.2.2.1 R.2.2.2.2.2.2.2.2.2.2.1 R.2.2.2.2.2.2.2.2.2.2.2.1 R.2.2.2.2.2.2.2.2.2.2.2.2 a_may a_row i_rowMany g0)) [.ref h0, .int v1, .int v2].toArray s 0 0 (gA b)) (F0 m 25 ls [.int j8.1]) := by
    intro H locs ls hG hS hl
    have hf := Option.some.inj hf
    subst hf
    exact gp_retI hx hb hr hlocks hG hS (Nat.le_refl _) (Nat.le_refl _) dX12_go_25
  refine lv_if_eq (tgt := 19) hx hb dX12_go_8 (by decide) (fun c8 => ?_) (fun c8 => ?_)
  · have hj8 := gb_t c8 hj8
    refine lv_aload_n hx hb dX12_go_19 rfl (lv_at hl 1 rfl) ?_
    refine lv_iload_n hx hb dX12_go_20 rfl (lv_at hl 2 rfl) ?_
    refine lv_iload_n hx hb dX12_go_21 rfl (lv_at hl 3 rfl) ?_
    obtain ⟨o22, hc22, hj8⟩ := gb_b hj8
    refine gp_callI (va_runV (As := [.int v1, .int v2]) (rest := []) ⟨hx, hb, hml, hown, hts⟩ (c_X12_goesTo (l := l) (D := D) (b := b) (M := M) (cI := cI) (cL := cL) hc22) (cwV 2 hts gX12_go_X12_goesTo rfl rfl rfl (by decide +kernel) ⟨Nat.le_of_ble_eq_true rfl, Nat.le_of_ble_eq_true rfl⟩) (gp_preV hKn hG mg_o rfl) rfl rfl hl.1 rfl (lv_room (Nat.le_of_ble_eq_true rfl)) dX12_go_22 ⟨Nat.le_of_ble_eq_true rfl, Nat.le_of_ble_eq_true rfl⟩) hS (fun H locs hG hS => ?_)
    have hj8 := Option.some.inj hj8
    subst hj8
    exact hJ8 H locs ls hG hS (lv_sub hl [] rfl)
  · have hj8 := gb_f c8 hj8
    refine lv_aload_n hx hb dX12_go_11 rfl (lv_at hl 1 rfl) ?_
    refine lv_iload_n hx hb dX12_go_12 rfl (lv_at hl 0 rfl) ?_
    obtain ⟨o13, hc13, hj8⟩ := gb_b hj8
    refine gp_callI (va_runV (As := [.int o3.1]) (rest := []) ⟨hx, hb, hml, hown, hts⟩ (c_X12_no (l := l) (D := D) (b := b) (M := M) (cI := cI) (cL := cL) hc13) (cwV 1 hts gX12_go_X12_no rfl rfl rfl (by decide +kernel) ⟨Nat.le_of_ble_eq_true rfl, Nat.le_of_ble_eq_true rfl⟩) (gp_preV hKn hG mg_o rfl) rfl rfl hl.1 rfl (lv_room (Nat.le_of_ble_eq_true rfl)) dX12_go_13 ⟨Nat.le_of_ble_eq_true rfl, Nat.le_of_ble_eq_true rfl⟩) hS (fun H locs hG hS => ?_)
    refine lv_goto (tgt := 25) hx hb dX12_go_16 (by decide) ?_
    have hj8 := Option.some.inj hj8
    subst hj8
    exact hJ8 H locs ls hG hS (lv_sub hl [] rfl)
-- X12_light
abbrev rm_X12_light : Room := { frames := 1, cells := 0, slots := 0, locals := 22 }
set_option maxHeartbeats 4000000 in
set_option maxRecDepth 100000 in
theorem c_X12_light {v1 : Int32} {v2 : Int32} {R : Int32 × (Nat → Int32) × (Nat → Int32)} (hf : f_X12_light a_refused a_lit i_lampMany v1 v2 = some R) : Met l yX12_light wsX12_light rm_X12_light (va_Pc [.ref h0, .int v1, .int v2] (gPre D b M (mg cI h0 a_refused a_isWall a_kind a_lampCell a_range a_lit a_scenes a_who a_cell a_minuteOf a_standsAt i_lampMany i_people i_minute a_tape a_letter a_letterAt a_told i_taped i_at i_statements a_kept i_hasImage i_isKeeping i_cursor a_far a_shut a_queue i_queued a_litBy a_may a_row i_rowMany g0) (gTy cI cL))) (gQ D b (some (.int R.1)) M (mg cI h0 R.2.1 a_isWall a_kind a_lampCell a_range R.2.2 a_scenes a_who a_cell a_minuteOf a_standsAt i_lampMany i_people i_minute a_tape a_letter a_letterAt a_told i_taped i_at i_statements a_kept i_hasImage i_isKeeping i_cursor a_far a_shut a_queue i_queued a_litBy a_may a_row i_rowMany g0)) 0 0 (gA b) := by
  refine gp_met (cc := cX12_light) (maxL := 5) (ret := (some .int)) (by decide) rfl (Nat.le_of_ble_eq_true rfl) ?_
  intro p e s m below meth c X ls hG hl
  have hS : va_S (gA b) s.heap s.heap [] := va_S.rf
  obtain ⟨H, hH0⟩ : ∃ H : Heap, H = s.heap := ⟨_, rfl⟩
  rw [← hH0] at hG ⊢
  have hS : va_S (gA b) s.heap H [] := by rw [hH0]; exact va_S.rf
  obtain ⟨locs, hlo⟩ : ∃ z : List Loc, z = [] := ⟨_, rfl⟩
  rw [← hlo] at hS ⊢
  unfold f_X12_light at hf
  obtain ⟨hx, hb, hr, hml, hown, hts, hlocks, hKn, hBs⟩ := id X
  have hK := hKn.1
  have hin : ∀ w ∈ wsX120, w ∈ wsX12_light := fun w h => List.mem_cons_of_mem _ (List.mem_append_right _ h)
  have hl : lv_has ls 5 [(0, .ref h0), (1, .int v1), (2, .int v2)] := hl
  refine lv_aload_n hx hb dX12_light_0 rfl (lv_at hl 0 rfl) ?_
  refine lv_iload_n hx hb dX12_light_1 rfl (lv_at hl 1 rfl) ?_
  obtain ⟨o2, hc2, hf⟩ := gb_b hf
  refine gp_callI (va_runV (As := [.int v1]) (rest := []) ⟨hx, hb, hml, hown, hts⟩ (c_X12_isLamp (l := l) (D := D) (b := b) (M := M) (cI := cI) (cL := cL) hc2) (cwV 1 hts gX12_light_X12_isLamp rfl rfl rfl (by decide +kernel) ⟨Nat.le_of_ble_eq_true rfl, Nat.le_of_ble_eq_true rfl⟩) (gp_preV hKn hG mg_o rfl) rfl rfl hl.1 rfl (lv_room (Nat.le_of_ble_eq_true rfl)) dX12_light_2 ⟨Nat.le_of_ble_eq_true rfl, Nat.le_of_ble_eq_true rfl⟩) hS (fun H locs hG hS => ?_)
  obtain ⟨j5, hj5, hf⟩ := gb_b hf
  have hJ5 : ∀ (H : Heap) (locs : List Loc) (ls : Array Slot), GP D b M (mg cI h0 a_refused a_isWall a_kind a_lampCell a_range a_lit a_scenes a_who a_cell a_minuteOf a_standsAt i_lampMany i_people i_minute a_tape a_letter a_letterAt a_told i_taped i_at i_statements a_kept i_hasImage i_isKeeping i_cursor a_far a_shut a_queue i_queued a_litBy a_may a_row i_rowMany g0) H → va_S (gA b) s.heap H locs → lv_has ls 5 [(0, .ref h0), (1, .int v1), (2, .int v2)] → W p l e rm_X12_light s m [.ref h0, .int v1, .int v2].toArray below meth c H locs 0 0 (MQ below (gQ D b (some (.int R.1)) M (mg cI h0 R.2.1 a_isWall a_kind a_lampCell a_range R.2.2 a_scenes a_who a_cell a_minuteOf a_standsAt i_lampMany i_people i_minute a_tape a_letter a_letterAt a_told i_taped i_at i_statements a_kept i_hasImage i_isKeeping i_cursor a_far a_shut a_queue i_queued a_litBy a_may a_row i_rowMany g0)) [.ref h0, .int v1, .int v2].toArray s 0 0 (gA b)) (F0 m 27 ls [.int j5]) := by
    intro H locs ls hG hS hl
    refine lv_istore_n (lv' := [(3, .int j5), (0, .ref h0), (1, .int v1), (2, .int v2)]) hx hb dX12_light_27 rfl hl (by decide) rfl (fun ls hl => ?_)
    refine lv_iload_n hx hb dX12_light_28 rfl (lv_at hl 0 rfl) ?_
    refine lv_if_eq (tgt := 38) hx hb dX12_light_29 (by decide) (fun c29 => ?_) (fun c29 => ?_)
    · have hf := gb_t c29 hf
      refine lv_aload_n hx hb dX12_light_38 rfl (lv_at hl 1 rfl) ?_
      refine gp_get (v := .ref (h0 + 6)) (C := RX12) (T := TX12) (N := 33) (ci := 10) hx hb hts hin hown hK hG mg_o rfl 5 (by decide) (hts _ (List.mem_of_getElem? (i := 1) rfl)) (fun _ h9 => h9) rfl dX12_light_39 ?_
      refine lv_iload_n hx hb dX12_light_42 rfl (lv_at hl 2 rfl) ?_
      obtain ⟨b43, hf⟩ := gb_ix hf
      refine gp_iald hx hb hK hG mg_lit b43 dX12_light_43 ?_
      refine lv_istore (lv' := [(4, .int (a_lit v1.toNatClampNeg)), (3, .int j5), (0, .ref h0), (1, .int v1), (2, .int v2)]) hx hb dX12_light_44 hl (by decide) rfl (fun ls hl => ?_)
      refine lv_aload_n hx hb dX12_light_46 rfl (lv_at hl 2 rfl) ?_
      refine gp_get (v := .ref (h0 + 6)) (C := RX12) (T := TX12) (N := 33) (ci := 10) hx hb hts hin hown hK hG mg_o rfl 5 (by decide) (hts _ (List.mem_of_getElem? (i := 1) rfl)) (fun _ h9 => h9) rfl dX12_light_47 ?_
      refine lv_iload_n hx hb dX12_light_50 rfl (lv_at hl 3 rfl) ?_
      refine lv_iload_n hx hb dX12_light_51 rfl (lv_at hl 4 rfl) ?_
      obtain ⟨b52, hf⟩ := gb_ix hf
      refine gp_iast hx hb hK hG hS mg_lit b52 mu_lit dX12_light_52 (fun H locs hG hS => ?_)
      refine lv_iload hx hb dX12_light_53 (lv_at hl 0 rfl) ?_
      have hf := Option.some.inj hf
      subst hf
      exact gp_retI hx hb hr hlocks hG hS (Nat.le_refl _) (Nat.le_refl _) dX12_light_55
    · have hf := gb_f c29 hf
      refine lv_aload_n hx hb dX12_light_32 rfl (lv_at hl 1 rfl) ?_
      refine lv_iload_n hx hb dX12_light_33 rfl (lv_at hl 0 rfl) ?_
      obtain ⟨o34, hc34, hf⟩ := gb_b hf
      refine gp_callI (va_runV (As := [.int j5]) (rest := []) ⟨hx, hb, hml, hown, hts⟩ (c_X12_no (l := l) (D := D) (b := b) (M := M) (cI := cI) (cL := cL) hc34) (cwV 1 hts gX12_light_X12_no rfl rfl rfl (by decide +kernel) ⟨Nat.le_of_ble_eq_true rfl, Nat.le_of_ble_eq_true rfl⟩) (gp_preV hKn hG mg_o rfl) rfl rfl hl.1 rfl (lv_room (Nat.le_of_ble_eq_true rfl)) dX12_light_34 ⟨Nat.le_of_ble_eq_true rfl, Nat.le_of_ble_eq_true rfl⟩) hS (fun H locs hG hS => ?_)
      have hf := Option.some.inj hf
      subst hf
      exact gp_retI hx hb hr hlocks hG hS (Nat.le_refl _) (Nat.le_refl _) dX12_light_37
  refine lv_if_ne (tgt := 12) hx hb dX12_light_5 (by decide) (fun c5 => ?_) (fun c5 => ?_)
  · have hj5 := gb_f c5 hj5
    refine lv_iload_n hx hb dX12_light_12 rfl (lv_at hl 2 rfl) ?_
    refine lv_iconst (v := 0) hx hb dX12_light_13 (by decide) ?_
    refine lv_iconst (v := 1) hx hb dX12_light_14 (by decide) ?_
    obtain ⟨o15, hc15, hj5⟩ := gb_b hj5
    refine gp_callI (va_runS (As := [.int v2, .int 0, .int 1]) (rest := []) ⟨hx, hb, hml, hown, hts⟩ (c_X12_isIn (l := l) (D := D) (b := b) (M := M) (cI := cI) (cL := cL) hc15) (va_cwS 3 hts gX12_light_X12_isIn rfl rfl rfl (by decide +kernel) ⟨Nat.le_of_ble_eq_true rfl, Nat.le_of_ble_eq_true rfl⟩) (gp_preS hKn hG) rfl rfl hl.1 rfl (lv_room (Nat.le_of_ble_eq_true rfl)) dX12_light_15 ⟨Nat.le_of_ble_eq_true rfl, Nat.le_of_ble_eq_true rfl⟩) hS (fun H locs hG hS => ?_)
    refine lv_if_ne (tgt := 26) hx hb dX12_light_18 (by decide) (fun c18 => ?_) (fun c18 => ?_)
    · have hj5 := gb_f c18 hj5
      refine lv_iconst (v := 0) hx hb dX12_light_26 (by decide) ?_
      have hj5 := Option.some.inj hj5
      subst hj5
      exact hJ5 H locs ls hG hS (lv_sub hl [0, 1, 2] rfl)
    · have hj5 := gb_t c18 hj5
      refine lv_bipush (v := (-2 : Int32)) hx hb dX12_light_21 (by decide) ?_
      refine lv_goto (tgt := 27) hx hb dX12_light_23 (by decide) ?_
      have hj5 := Option.some.inj hj5
      subst hj5
      exact hJ5 H locs ls hG hS (lv_sub hl [0, 1, 2] rfl)
  · have hj5 := gb_t c5 hj5
    refine lv_iconst (v := (-1 : Int32)) hx hb dX12_light_8 (by decide) ?_
    refine lv_goto (tgt := 27) hx hb dX12_light_9 (by decide) ?_
    have hj5 := Option.some.inj hj5
    subst hj5
    exact hJ5 H locs ls hG hS (lv_sub hl [0, 1, 2] rfl)
-- X12_steps
abbrev rm_X12_steps : Room := { frames := 3, cells := 0, slots := 0, locals := 67 }
set_option maxHeartbeats 4000000 in
set_option maxRecDepth 100000 in
theorem c_X12_steps {v1 : Int32} {v2 : Int32} {R : Int32 × (Nat → Int32) × (Nat → Int32) × (Nat → Int32) × (Nat → Int32) × Int32} (hf : f_X12_steps a_refused a_isWall a_far a_shut a_queue i_queued v1 v2 = some R) : Met l yX12_steps wsX12_steps rm_X12_steps (va_Pc [.ref h0, .int v1, .int v2] (gPre D b M (mg cI h0 a_refused a_isWall a_kind a_lampCell a_range a_lit a_scenes a_who a_cell a_minuteOf a_standsAt i_lampMany i_people i_minute a_tape a_letter a_letterAt a_told i_taped i_at i_statements a_kept i_hasImage i_isKeeping i_cursor a_far a_shut a_queue i_queued a_litBy a_may a_row i_rowMany g0) (gTy cI cL))) (gQ D b (some (.int R.1)) M (mg cI h0 R.2.1 a_isWall a_kind a_lampCell a_range a_lit a_scenes a_who a_cell a_minuteOf a_standsAt i_lampMany i_people i_minute a_tape a_letter a_letterAt a_told i_taped i_at i_statements a_kept i_hasImage i_isKeeping i_cursor R.2.2.1 R.2.2.2.1 R.2.2.2.2.1 R.2.2.2.2.2 a_litBy a_may a_row i_rowMany g0)) 0 0 (gA b) := by
  refine gp_met (cc := cX12_steps) (maxL := 3) (ret := (some .int)) (by decide) rfl (Nat.le_of_ble_eq_true rfl) ?_
  intro p e s m below meth c X ls hG hl
  have hS : va_S (gA b) s.heap s.heap [] := va_S.rf
  obtain ⟨H, hH0⟩ : ∃ H : Heap, H = s.heap := ⟨_, rfl⟩
  rw [← hH0] at hG ⊢
  have hS : va_S (gA b) s.heap H [] := by rw [hH0]; exact va_S.rf
  obtain ⟨locs, hlo⟩ : ∃ z : List Loc, z = [] := ⟨_, rfl⟩
  rw [← hlo] at hS ⊢
  unfold f_X12_steps at hf
  obtain ⟨hx, hb, hr, hml, hown, hts, hlocks, hKn, hBs⟩ := id X
  have hK := hKn.1
  have hin : ∀ w ∈ wsX120, w ∈ wsX12_steps := fun w h => List.mem_cons_of_mem _ (List.mem_append_right _ h)
  have hl : lv_has ls 3 [(0, .ref h0), (1, .int v1), (2, .int v2)] := hl
  refine lv_iload_n hx hb dX12_steps_0 rfl (lv_at hl 1 rfl) ?_
  obtain ⟨o1, hc1, hf⟩ := gb_b hf
  refine gp_callI (va_runS (As := [.int v1]) (rest := []) ⟨hx, hb, hml, hown, hts⟩ (c_X12_isCell (l := l) (D := D) (b := b) (M := M) (cI := cI) (cL := cL) hc1) (va_cwS 1 hts gX12_steps_X12_isCell rfl rfl rfl (by decide +kernel) ⟨Nat.le_of_ble_eq_true rfl, Nat.le_of_ble_eq_true rfl⟩) (gp_preS hKn hG) rfl rfl hl.1 rfl (lv_room (Nat.le_of_ble_eq_true rfl)) dX12_steps_1 ⟨Nat.le_of_ble_eq_true rfl, Nat.le_of_ble_eq_true rfl⟩) hS (fun H locs hG hS => ?_)
  obtain ⟨j4, hj4, hf⟩ := gb_b hf
  have hJ4 : ∀ (H : Heap) (locs : List Loc) (ls : Array Slot), GP D b M (mg cI h0 j4.2.1 a_isWall a_kind a_lampCell a_range a_lit a_scenes a_who a_cell a_minuteOf a_standsAt i_lampMany i_people i_minute a_tape a_letter a_letterAt a_told i_taped i_at i_statements a_kept i_hasImage i_isKeeping i_cursor j4.2.2.1 j4.2.2.2.1 j4.2.2.2.2.1 j4.2.2.2.2.2 a_litBy a_may a_row i_rowMany g0) H → va_S (gA b) s.heap H locs → lv_has ls 3 [] → W p l e rm_X12_steps s m [.ref h0, .int v1, .int v2].toArray below meth c H locs 0 0 (MQ below (gQ D b (some (.int R.1)) M (mg cI h0 R.2.1 a_isWall a_kind a_lampCell a_range a_lit a_scenes a_who a_cell a_minuteOf a_standsAt i_lampMany i_people i_minute a_tape a_letter a_letterAt a_told i_taped i_at i_statements a_kept i_hasImage i_isKeeping i_cursor R.2.2.1 R.2.2.2.1 R.2.2.2.2.1 R.2.2.2.2.2 a_litBy a_may a_row i_rowMany g0)) [.ref h0, .int v1, .int v2].toArray s 0 0 (gA b)) (F0 m 28 ls [.int j4.1]) := by
    intro H locs ls hG hS hl
    have hf := Option.some.inj hf
    subst hf
    exact gp_retI hx hb hr hlocks hG hS (Nat.le_refl _) (Nat.le_refl _) dX12_steps_28
  refine lv_if_eq (tgt := 23) hx hb dX12_steps_4 (by decide) (fun c4 => ?_) (fun c4 => ?_)
  · have hj4 := gb_t c4 hj4
    refine lv_aload_n hx hb dX12_steps_23 rfl (lv_at hl 0 rfl) ?_
    refine lv_iconst (v := (-1 : Int32)) hx hb dX12_steps_24 (by decide) ?_
    obtain ⟨o25, hc25, hj4⟩ := gb_b hj4
    refine gp_callI (va_runV (As := [.int (-1 : Int32)]) (rest := []) ⟨hx, hb, hml, hown, hts⟩ (c_X12_no (l := l) (D := D) (b := b) (M := M) (cI := cI) (cL := cL) hc25) (cwV 1 hts gX12_steps_X12_no rfl rfl rfl (by decide +kernel) ⟨Nat.le_of_ble_eq_true rfl, Nat.le_of_ble_eq_true rfl⟩) (gp_preV hKn hG mg_o rfl) rfl rfl hl.1 rfl (lv_room (Nat.le_of_ble_eq_true rfl)) dX12_steps_25 ⟨Nat.le_of_ble_eq_true rfl, Nat.le_of_ble_eq_true rfl⟩) hS (fun H locs hG hS => ?_)
    have hj4 := Option.some.inj hj4
    subst hj4
    exact hJ4 H locs ls hG hS (lv_sub hl [] rfl)
  · have hj4 := gb_f c4 hj4
    refine lv_iload_n hx hb dX12_steps_7 rfl (lv_at hl 2 rfl) ?_
    obtain ⟨o8, hc8, hj4⟩ := gb_b hj4
    refine gp_callI (va_runS (As := [.int v2]) (rest := []) ⟨hx, hb, hml, hown, hts⟩ (c_X12_isCell (l := l) (D := D) (b := b) (M := M) (cI := cI) (cL := cL) hc8) (va_cwS 1 hts gX12_steps_X12_isCell rfl rfl rfl (by decide +kernel) ⟨Nat.le_of_ble_eq_true rfl, Nat.le_of_ble_eq_true rfl⟩) (gp_preS hKn hG) rfl rfl hl.1 rfl (lv_room (Nat.le_of_ble_eq_true rfl)) dX12_steps_8 ⟨Nat.le_of_ble_eq_true rfl, Nat.le_of_ble_eq_true rfl⟩) hS (fun H locs hG hS => ?_)
    refine lv_if_eq (tgt := 23) hx hb dX12_steps_11 (by decide) (fun c11 => ?_) (fun c11 => ?_)
    · have hj4 := gb_t c11 hj4
      refine lv_aload_n hx hb dX12_steps_23 rfl (lv_at hl 0 rfl) ?_
      refine lv_iconst (v := (-1 : Int32)) hx hb dX12_steps_24 (by decide) ?_
      obtain ⟨o25, hc25, hj4⟩ := gb_b hj4
      refine gp_callI (va_runV (As := [.int (-1 : Int32)]) (rest := []) ⟨hx, hb, hml, hown, hts⟩ (c_X12_no (l := l) (D := D) (b := b) (M := M) (cI := cI) (cL := cL) hc25) (cwV 1 hts gX12_steps_X12_no rfl rfl rfl (by decide +kernel) ⟨Nat.le_of_ble_eq_true rfl, Nat.le_of_ble_eq_true rfl⟩) (gp_preV hKn hG mg_o rfl) rfl rfl hl.1 rfl (lv_room (Nat.le_of_ble_eq_true rfl)) dX12_steps_25 ⟨Nat.le_of_ble_eq_true rfl, Nat.le_of_ble_eq_true rfl⟩) hS (fun H locs hG hS => ?_)
      have hj4 := Option.some.inj hj4
      subst hj4
      exact hJ4 H locs ls hG hS (lv_sub hl [] rfl)
    · have hj4 := gb_f c11 hj4
      refine lv_aload_n hx hb dX12_steps_14 rfl (lv_at hl 0 rfl) ?_
      refine lv_iload_n hx hb dX12_steps_15 rfl (lv_at hl 1 rfl) ?_
      refine lv_iload_n hx hb dX12_steps_16 rfl (lv_at hl 2 rfl) ?_
      obtain ⟨o17, hc17, hj4⟩ := gb_b hj4
      refine gp_callI (va_runV (As := [.int v1, .int v2]) (rest := []) ⟨hx, hb, hml, hown, hts⟩ (c_X12_stepsOf (l := l) (D := D) (b := b) (M := M) (cI := cI) (cL := cL) hc17) (cwV 2 hts gX12_steps_X12_stepsOf rfl rfl rfl (by decide +kernel) ⟨Nat.le_of_ble_eq_true rfl, Nat.le_of_ble_eq_true rfl⟩) (gp_preV hKn hG mg_o rfl) rfl rfl hl.1 rfl (lv_room (Nat.le_of_ble_eq_true rfl)) dX12_steps_17 ⟨Nat.le_of_ble_eq_true rfl, Nat.le_of_ble_eq_true rfl⟩) hS (fun H locs hG hS => ?_)
      refine lv_goto (tgt := 28) hx hb dX12_steps_20 (by decide) ?_
      have hj4 := Option.some.inj hj4
      subst hj4
      exact hJ4 H locs ls hG hS (lv_sub hl [] rfl)
-- X12_lights
abbrev rm_X12_lights : Room := { frames := 4, cells := 0, slots := 0, locals := 90 }
set_option maxHeartbeats 4000000 in
set_option maxRecDepth 100000 in
theorem c_X12_lights {v1 : Int32} {v2 : Int32} {R : Int32 × (Nat → Int32) × (Nat → Int32) × (Nat → Int32) × (Nat → Int32) × Int32 × (Nat → Int32)} (hf : f_X12_lights a_refused a_isWall a_kind a_lampCell a_range a_standsAt i_lampMany i_people a_far a_shut a_queue i_queued a_litBy v1 v2 = some R) : Met l yX12_lights wsX12_lights rm_X12_lights (va_Pc [.ref h0, .int v1, .int v2] (gPre D b M (mg cI h0 a_refused a_isWall a_kind a_lampCell a_range a_lit a_scenes a_who a_cell a_minuteOf a_standsAt i_lampMany i_people i_minute a_tape a_letter a_letterAt a_told i_taped i_at i_statements a_kept i_hasImage i_isKeeping i_cursor a_far a_shut a_queue i_queued a_litBy a_may a_row i_rowMany g0) (gTy cI cL))) (gQ D b (some (.int R.1)) M (mg cI h0 R.2.1 a_isWall a_kind a_lampCell a_range a_lit a_scenes a_who a_cell a_minuteOf a_standsAt i_lampMany i_people i_minute a_tape a_letter a_letterAt a_told i_taped i_at i_statements a_kept i_hasImage i_isKeeping i_cursor R.2.2.1 R.2.2.2.1 R.2.2.2.2.1 R.2.2.2.2.2.1 R.2.2.2.2.2.2 a_may a_row i_rowMany g0)) 0 0 (gA b) := by
  refine gp_met (cc := cX12_lights) (maxL := 3) (ret := (some .int)) (by decide) rfl (Nat.le_of_ble_eq_true rfl) ?_
  intro p e s m below meth c X ls hG hl
  have hS : va_S (gA b) s.heap s.heap [] := va_S.rf
  obtain ⟨H, hH0⟩ : ∃ H : Heap, H = s.heap := ⟨_, rfl⟩
  rw [← hH0] at hG ⊢
  have hS : va_S (gA b) s.heap H [] := by rw [hH0]; exact va_S.rf
  obtain ⟨locs, hlo⟩ : ∃ z : List Loc, z = [] := ⟨_, rfl⟩
  rw [← hlo] at hS ⊢
  unfold f_X12_lights at hf
  obtain ⟨hx, hb, hr, hml, hown, hts, hlocks, hKn, hBs⟩ := id X
  have hK := hKn.1
  have hin : ∀ w ∈ wsX120, w ∈ wsX12_lights := fun w h => List.mem_cons_of_mem _ (List.mem_append_right _ h)
  have hl : lv_has ls 3 [(0, .ref h0), (1, .int v1), (2, .int v2)] := hl
  refine lv_aload_n hx hb dX12_lights_0 rfl (lv_at hl 0 rfl) ?_
  refine lv_iload_n hx hb dX12_lights_1 rfl (lv_at hl 1 rfl) ?_
  obtain ⟨o2, hc2, hf⟩ := gb_b hf
  refine gp_callI (va_runV (As := [.int v1]) (rest := []) ⟨hx, hb, hml, hown, hts⟩ (c_X12_isLamp (l := l) (D := D) (b := b) (M := M) (cI := cI) (cL := cL) hc2) (cwV 1 hts gX12_lights_X12_isLamp rfl rfl rfl (by decide +kernel) ⟨Nat.le_of_ble_eq_true rfl, Nat.le_of_ble_eq_true rfl⟩) (gp_preV hKn hG mg_o rfl) rfl rfl hl.1 rfl (lv_room (Nat.le_of_ble_eq_true rfl)) dX12_lights_2 ⟨Nat.le_of_ble_eq_true rfl, Nat.le_of_ble_eq_true rfl⟩) hS (fun H locs hG hS => ?_)
  refine lv_if_eq (tgt := 15) hx hb dX12_lights_5 (by decide) (fun c5 => ?_) (fun c5 => ?_)
  · have hf := gb_t c5 hf
    refine lv_aload_n hx hb dX12_lights_15 rfl (lv_at hl 0 rfl) ?_
    refine lv_iconst (v := (-1 : Int32)) hx hb dX12_lights_16 (by decide) ?_
    obtain ⟨o17, hc17, hf⟩ := gb_b hf
    refine gp_callI (va_runV (As := [.int (-1 : Int32)]) (rest := []) ⟨hx, hb, hml, hown, hts⟩ (c_X12_no (l := l) (D := D) (b := b) (M := M) (cI := cI) (cL := cL) hc17) (cwV 1 hts gX12_lights_X12_no rfl rfl rfl (by decide +kernel) ⟨Nat.le_of_ble_eq_true rfl, Nat.le_of_ble_eq_true rfl⟩) (gp_preV hKn hG mg_o rfl) rfl rfl hl.1 rfl (lv_room (Nat.le_of_ble_eq_true rfl)) dX12_lights_17 ⟨Nat.le_of_ble_eq_true rfl, Nat.le_of_ble_eq_true rfl⟩) hS (fun H locs hG hS => ?_)
    have hf := Option.some.inj hf
    subst hf
    exact gp_retI hx hb hr hlocks hG hS (Nat.le_refl _) (Nat.le_refl _) dX12_lights_20
  · have hf := gb_f c5 hf
    refine lv_iload_n hx hb dX12_lights_8 rfl (lv_at hl 2 rfl) ?_
    obtain ⟨o9, hc9, hf⟩ := gb_b hf
    refine gp_callI (va_runS (As := [.int v2]) (rest := []) ⟨hx, hb, hml, hown, hts⟩ (c_X12_isCell (l := l) (D := D) (b := b) (M := M) (cI := cI) (cL := cL) hc9) (va_cwS 1 hts gX12_lights_X12_isCell rfl rfl rfl (by decide +kernel) ⟨Nat.le_of_ble_eq_true rfl, Nat.le_of_ble_eq_true rfl⟩) (gp_preS hKn hG) rfl rfl hl.1 rfl (lv_room (Nat.le_of_ble_eq_true rfl)) dX12_lights_9 ⟨Nat.le_of_ble_eq_true rfl, Nat.le_of_ble_eq_true rfl⟩) hS (fun H locs hG hS => ?_)
    refine lv_if_ne (tgt := 21) hx hb dX12_lights_12 (by decide) (fun c12 => ?_) (fun c12 => ?_)
    · have hf := gb_f c12 hf
      refine lv_aload_n hx hb dX12_lights_21 rfl (lv_at hl 0 rfl) ?_
      obtain ⟨o22, hc22, hf⟩ := gb_b hf
      refine gp_callV (va_runV (As := []) (rest := []) ⟨hx, hb, hml, hown, hts⟩ (c_X12_findLit (l := l) (D := D) (b := b) (M := M) (cI := cI) (cL := cL) hc22) (cwV 0 hts gX12_lights_X12_findLit rfl rfl rfl (by decide +kernel) ⟨Nat.le_of_ble_eq_true rfl, Nat.le_of_ble_eq_true rfl⟩) (gp_preV hKn hG mg_o rfl) rfl rfl hl.1 rfl (lv_room (Nat.le_of_ble_eq_true rfl)) dX12_lights_22 ⟨Nat.le_of_ble_eq_true rfl, Nat.le_of_ble_eq_true rfl⟩) hS (fun H locs hG hS => ?_)
      refine lv_aload_n hx hb dX12_lights_25 rfl (lv_at hl 0 rfl) ?_
      refine gp_get (v := .ref (h0 + 20)) (C := RX12) (T := TX12) (N := 33) (ci := 10) hx hb hts hin hown hK hG mg_o rfl 29 (by decide) (hts _ (List.mem_of_getElem? (i := 1) rfl)) (fun _ h9 => h9) rfl dX12_lights_26 ?_
      refine lv_iload_n hx hb dX12_lights_29 rfl (lv_at hl 2 rfl) ?_
      obtain ⟨b30, hf⟩ := gb_ix hf
      refine gp_iald hx hb hK hG mg_litBy b30 dX12_lights_30 ?_
      refine lv_iload_n hx hb dX12_lights_31 rfl (lv_at hl 1 rfl) ?_
      refine lv_ishr hx hb dX12_lights_32 ?_
      refine lv_iconst (v := 1) hx hb dX12_lights_33 (by decide) ?_
      refine lv_iand hx hb dX12_lights_34 ?_
      have hf := Option.some.inj hf
      subst hf
      exact gp_retI hx hb hr hlocks hG hS (Nat.le_refl _) (Nat.le_refl _) dX12_lights_35
    · have hf := gb_t c12 hf
      refine lv_aload_n hx hb dX12_lights_15 rfl (lv_at hl 0 rfl) ?_
      refine lv_iconst (v := (-1 : Int32)) hx hb dX12_lights_16 (by decide) ?_
      obtain ⟨o17, hc17, hf⟩ := gb_b hf
      refine gp_callI (va_runV (As := [.int (-1 : Int32)]) (rest := []) ⟨hx, hb, hml, hown, hts⟩ (c_X12_no (l := l) (D := D) (b := b) (M := M) (cI := cI) (cL := cL) hc17) (cwV 1 hts gX12_lights_X12_no rfl rfl rfl (by decide +kernel) ⟨Nat.le_of_ble_eq_true rfl, Nat.le_of_ble_eq_true rfl⟩) (gp_preV hKn hG mg_o rfl) rfl rfl hl.1 rfl (lv_room (Nat.le_of_ble_eq_true rfl)) dX12_lights_17 ⟨Nat.le_of_ble_eq_true rfl, Nat.le_of_ble_eq_true rfl⟩) hS (fun H locs hG hS => ?_)
      have hf := Option.some.inj hf
      subst hf
      exact gp_retI hx hb hr hlocks hG hS (Nat.le_refl _) (Nat.le_refl _) dX12_lights_20
-- X12_shown
abbrev rm_X12_shown : Room := { frames := 1, cells := 0, slots := 0, locals := 22 }
set_option maxHeartbeats 4000000 in
set_option maxRecDepth 100000 in
theorem c_X12_shown {v1 : Int32} {v2 : Int32} {v3 : Int32} {R : Int32 × (Nat → Int32)} (hf : f_X12_shown a_refused a_kind a_scenes a_who a_cell a_minuteOf i_lampMany v1 v2 v3 = some R) : Met l yX12_shown wsX12_shown rm_X12_shown (va_Pc [.ref h0, .int v1, .int v2, .int v3] (gPre D b M (mg cI h0 a_refused a_isWall a_kind a_lampCell a_range a_lit a_scenes a_who a_cell a_minuteOf a_standsAt i_lampMany i_people i_minute a_tape a_letter a_letterAt a_told i_taped i_at i_statements a_kept i_hasImage i_isKeeping i_cursor a_far a_shut a_queue i_queued a_litBy a_may a_row i_rowMany g0) (gTy cI cL))) (gQ D b (some (.int R.1)) M (mg cI h0 R.2 a_isWall a_kind a_lampCell a_range a_lit a_scenes a_who a_cell a_minuteOf a_standsAt i_lampMany i_people i_minute a_tape a_letter a_letterAt a_told i_taped i_at i_statements a_kept i_hasImage i_isKeeping i_cursor a_far a_shut a_queue i_queued a_litBy a_may a_row i_rowMany g0)) 0 0 (gA b) := by
  refine gp_met (cc := cX12_shown) (maxL := 6) (ret := (some .int)) (by decide) rfl (Nat.le_of_ble_eq_true rfl) ?_
  intro p e s m below meth c X ls hG hl
  have hS : va_S (gA b) s.heap s.heap [] := va_S.rf
  obtain ⟨H, hH0⟩ : ∃ H : Heap, H = s.heap := ⟨_, rfl⟩
  rw [← hH0] at hG ⊢
  have hS : va_S (gA b) s.heap H [] := by rw [hH0]; exact va_S.rf
  obtain ⟨locs, hlo⟩ : ∃ z : List Loc, z = [] := ⟨_, rfl⟩
  rw [← hlo] at hS ⊢
  unfold f_X12_shown at hf
  obtain ⟨hx, hb, hr, hml, hown, hts, hlocks, hKn, hBs⟩ := id X
  have hK := hKn.1
  have hin : ∀ w ∈ wsX120, w ∈ wsX12_shown := fun w h => List.mem_cons_of_mem _ (List.mem_append_right _ h)
  have hl : lv_has ls 6 [(0, .ref h0), (1, .int v1), (2, .int v2), (3, .int v3)] := hl
  refine lv_aload_n hx hb dX12_shown_0 rfl (lv_at hl 0 rfl) ?_
  refine lv_iload_n hx hb dX12_shown_1 rfl (lv_at hl 1 rfl) ?_
  obtain ⟨o2, hc2, hf⟩ := gb_b hf
  refine gp_callI (va_runV (As := [.int v1]) (rest := []) ⟨hx, hb, hml, hown, hts⟩ (c_X12_isLamp (l := l) (D := D) (b := b) (M := M) (cI := cI) (cL := cL) hc2) (cwV 1 hts gX12_shown_X12_isLamp rfl rfl rfl (by decide +kernel) ⟨Nat.le_of_ble_eq_true rfl, Nat.le_of_ble_eq_true rfl⟩) (gp_preV hKn hG mg_o rfl) rfl rfl hl.1 rfl (lv_room (Nat.le_of_ble_eq_true rfl)) dX12_shown_2 ⟨Nat.le_of_ble_eq_true rfl, Nat.le_of_ble_eq_true rfl⟩) hS (fun H locs hG hS => ?_)
  obtain ⟨j5, hj5, hf⟩ := gb_b hf
  have hJ5 : ∀ (H : Heap) (locs : List Loc) (ls : Array Slot), GP D b M (mg cI h0 a_refused a_isWall a_kind a_lampCell a_range a_lit a_scenes a_who a_cell a_minuteOf a_standsAt i_lampMany i_people i_minute a_tape a_letter a_letterAt a_told i_taped i_at i_statements a_kept i_hasImage i_isKeeping i_cursor a_far a_shut a_queue i_queued a_litBy a_may a_row i_rowMany g0) H → va_S (gA b) s.heap H locs → lv_has ls 6 [(0, .ref h0), (1, .int v1), (2, .int v2), (3, .int v3)] → W p l e rm_X12_shown s m [.ref h0, .int v1, .int v2, .int v3].toArray below meth c H locs 0 0 (MQ below (gQ D b (some (.int R.1)) M (mg cI h0 R.2 a_isWall a_kind a_lampCell a_range a_lit a_scenes a_who a_cell a_minuteOf a_standsAt i_lampMany i_people i_minute a_tape a_letter a_letterAt a_told i_taped i_at i_statements a_kept i_hasImage i_isKeeping i_cursor a_far a_shut a_queue i_queued a_litBy a_may a_row i_rowMany g0)) [.ref h0, .int v1, .int v2, .int v3].toArray s 0 0 (gA b)) (F0 m 41 ls [.int j5]) := by
    intro H locs ls hG hS hl
    refine lv_istore (lv' := [(4, .int j5), (0, .ref h0), (1, .int v1), (2, .int v2), (3, .int v3)]) hx hb dX12_shown_41 hl (by decide) rfl (fun ls hl => ?_)
    refine lv_iload hx hb dX12_shown_43 (lv_at hl 0 rfl) ?_
    refine lv_if_eq (tgt := 55) hx hb dX12_shown_45 (by decide) (fun c45 => ?_) (fun c45 => ?_)
    · have hf := gb_t c45 hf
      refine lv_bipush (v := 9) hx hb dX12_shown_55 (by decide) ?_
      refine lv_iload_n hx hb dX12_shown_57 rfl (lv_at hl 2 rfl) ?_
      refine lv_imul hx hb dX12_shown_58 ?_
      refine lv_aload_n hx hb dX12_shown_59 rfl (lv_at hl 1 rfl) ?_
      refine gp_get (v := .ref (h0 + 3)) (C := RX12) (T := TX12) (N := 33) (ci := 10) hx hb hts hin hown hK hG mg_o rfl 2 (by decide) (hts _ (List.mem_of_getElem? (i := 2) rfl)) (fun _ h9 => h9) rfl dX12_shown_60 ?_
      refine lv_iload_n hx hb dX12_shown_63 rfl (lv_at hl 2 rfl) ?_
      obtain ⟨b64, hf⟩ := gb_ix hf
      refine gp_iald hx hb hK hG mg_kind b64 dX12_shown_64 ?_
      refine lv_bipush (v := 6) hx hb dX12_shown_65 (by decide) ?_
      obtain ⟨j67, hj67, hf⟩ := gb_b hf
      have hJ67 : ∀ (H : Heap) (locs : List Loc) (ls : Array Slot), GP D b M (mg cI h0 a_refused a_isWall a_kind a_lampCell a_range a_lit a_scenes a_who a_cell a_minuteOf a_standsAt i_lampMany i_people i_minute a_tape a_letter a_letterAt a_told i_taped i_at i_statements a_kept i_hasImage i_isKeeping i_cursor a_far a_shut a_queue i_queued a_litBy a_may a_row i_rowMany g0) H → va_S (gA b) s.heap H locs → lv_has ls 6 [(0, .ref h0), (3, .int v3)] → W p l e rm_X12_shown s m [.ref h0, .int v1, .int v2, .int v3].toArray below meth c H locs 0 0 (MQ below (gQ D b (some (.int R.1)) M (mg cI h0 R.2 a_isWall a_kind a_lampCell a_range a_lit a_scenes a_who a_cell a_minuteOf a_standsAt i_lampMany i_people i_minute a_tape a_letter a_letterAt a_told i_taped i_at i_statements a_kept i_hasImage i_isKeeping i_cursor a_far a_shut a_queue i_queued a_litBy a_may a_row i_rowMany g0)) [.ref h0, .int v1, .int v2, .int v3].toArray s 0 0 (gA b)) (F0 m 84 ls [.int j67, .int (9 * v1)]) := by
        intro H locs ls hG hS hl
        refine lv_iadd hx hb dX12_shown_84 ?_
        refine lv_istore (lv' := [(5, .int ((9 * v1) + j67)), (0, .ref h0), (3, .int v3)]) hx hb dX12_shown_85 hl (by decide) rfl (fun ls hl => ?_)
        refine lv_iload_n hx hb dX12_shown_87 rfl (lv_at hl 2 rfl) ?_
        obtain ⟨j88, hj88, hf⟩ := gb_b hf
        have hJ88 : ∀ (H : Heap) (locs : List Loc) (ls : Array Slot), GP D b M (mg cI h0 a_refused a_isWall a_kind a_lampCell a_range a_lit a_scenes a_who a_cell a_minuteOf a_standsAt i_lampMany i_people i_minute a_tape a_letter a_letterAt a_told i_taped i_at i_statements a_kept i_hasImage i_isKeeping i_cursor a_far a_shut a_queue i_queued a_litBy a_may a_row i_rowMany g0) H → va_S (gA b) s.heap H locs → lv_has ls 6 [] → W p l e rm_X12_shown s m [.ref h0, .int v1, .int v2, .int v3].toArray below meth c H locs 0 0 (MQ below (gQ D b (some (.int R.1)) M (mg cI h0 R.2 a_isWall a_kind a_lampCell a_range a_lit a_scenes a_who a_cell a_minuteOf a_standsAt i_lampMany i_people i_minute a_tape a_letter a_letterAt a_told i_taped i_at i_statements a_kept i_hasImage i_isKeeping i_cursor a_far a_shut a_queue i_queued a_litBy a_may a_row i_rowMany g0)) [.ref h0, .int v1, .int v2, .int v3].toArray s 0 0 (gA b)) (F0 m 123 ls [.int j88]) := by
          intro H locs ls hG hS hl
          have hf := Option.some.inj hf
          subst hf
          exact gp_retI hx hb hr hlocks hG hS (Nat.le_refl _) (Nat.le_refl _) dX12_shown_123
        refine lv_if_ne (tgt := 101) hx hb dX12_shown_88 (by decide) (fun c88 => ?_) (fun c88 => ?_)
        · have hj88 := gb_f c88 hj88
          refine lv_iload_n hx hb dX12_shown_101 rfl (lv_at hl 2 rfl) ?_
          refine lv_iconst (v := 1) hx hb dX12_shown_102 (by decide) ?_
          refine lv_icmp_ne (tgt := 116) hx hb dX12_shown_103 (by decide) (fun c103 => ?_) (fun c103 => ?_)
          · have hj88 := gb_f c103 hj88
            refine lv_aload_n hx hb dX12_shown_116 rfl (lv_at hl 1 rfl) ?_
            refine gp_get (v := .ref (h0 + 10)) (C := RX12) (T := TX12) (N := 33) (ci := 10) hx hb hts hin hown hK hG mg_o rfl 9 (by decide) (hts _ (List.mem_of_getElem? (i := 5) rfl)) (fun _ h9 => h9) rfl dX12_shown_117 ?_
            refine lv_iload hx hb dX12_shown_120 (lv_at hl 0 rfl) ?_
            obtain ⟨b122, hj88⟩ := gb_ix hj88
            refine gp_iald hx hb hK hG mg_minuteOf b122 dX12_shown_122 ?_
            have hj88 := Option.some.inj hj88
            subst hj88
            exact hJ88 H locs ls hG hS (lv_sub hl [] rfl)
          · have hj88 := gb_t c103 hj88
            refine lv_aload_n hx hb dX12_shown_106 rfl (lv_at hl 1 rfl) ?_
            refine gp_get (v := .ref (h0 + 9)) (C := RX12) (T := TX12) (N := 33) (ci := 10) hx hb hts hin hown hK hG mg_o rfl 8 (by decide) (hts _ (List.mem_of_getElem? (i := 4) rfl)) (fun _ h9 => h9) rfl dX12_shown_107 ?_
            refine lv_iload hx hb dX12_shown_110 (lv_at hl 0 rfl) ?_
            obtain ⟨b112, hj88⟩ := gb_ix hj88
            refine gp_iald hx hb hK hG mg_cell b112 dX12_shown_112 ?_
            refine lv_goto (tgt := 123) hx hb dX12_shown_113 (by decide) ?_
            have hj88 := Option.some.inj hj88
            subst hj88
            exact hJ88 H locs ls hG hS (lv_sub hl [] rfl)
        · have hj88 := gb_t c88 hj88
          refine lv_aload_n hx hb dX12_shown_91 rfl (lv_at hl 1 rfl) ?_
          refine gp_get (v := .ref (h0 + 8)) (C := RX12) (T := TX12) (N := 33) (ci := 10) hx hb hts hin hown hK hG mg_o rfl 7 (by decide) (hts _ (List.mem_of_getElem? (i := 3) rfl)) (fun _ h9 => h9) rfl dX12_shown_92 ?_
          refine lv_iload hx hb dX12_shown_95 (lv_at hl 0 rfl) ?_
          obtain ⟨b97, hj88⟩ := gb_ix hj88
          refine gp_iald hx hb hK hG mg_who b97 dX12_shown_97 ?_
          refine lv_goto (tgt := 123) hx hb dX12_shown_98 (by decide) ?_
          have hj88 := Option.some.inj hj88
          subst hj88
          exact hJ88 H locs ls hG hS (lv_sub hl [] rfl)
      refine lv_icmp_ne (tgt := 74) hx hb dX12_shown_67 (by decide) (fun c67 => ?_) (fun c67 => ?_)
      · have hj67 := gb_f c67 hj67
        refine lv_aload_n hx hb dX12_shown_74 rfl (lv_at hl 1 rfl) ?_
        refine gp_get (v := .ref (h0 + 7)) (C := RX12) (T := TX12) (N := 33) (ci := 10) hx hb hts hin hown hK hG mg_o rfl 6 (by decide) (hts _ (List.mem_of_getElem? (i := 1) rfl)) (fun _ h9 => h9) rfl dX12_shown_75 ?_
        refine lv_iload_n hx hb dX12_shown_78 rfl (lv_at hl 2 rfl) ?_
        obtain ⟨b79, hj67⟩ := gb_ix hj67
        refine gp_iald hx hb hK hG mg_scenes b79 dX12_shown_79 ?_
        refine lv_iconst (v := 1) hx hb dX12_shown_80 (by decide) ?_
        refine lv_isub hx hb dX12_shown_81 ?_
        refine lv_iload_n hx hb dX12_shown_82 rfl (lv_at hl 3 rfl) ?_
        refine lv_isub hx hb dX12_shown_83 ?_
        have hj67 := Option.some.inj hj67
        subst hj67
        exact hJ67 H locs ls hG hS (lv_sub hl [1, 4] rfl)
      · have hj67 := gb_t c67 hj67
        refine lv_iload_n hx hb dX12_shown_70 rfl (lv_at hl 3 rfl) ?_
        refine lv_goto (tgt := 84) hx hb dX12_shown_71 (by decide) ?_
        have hj67 := Option.some.inj hj67
        subst hj67
        exact hJ67 H locs ls hG hS (lv_sub hl [1, 4] rfl)
    · have hf := gb_f c45 hf
      refine lv_aload_n hx hb dX12_shown_48 rfl (lv_at hl 1 rfl) ?_
      refine lv_iload hx hb dX12_shown_49 (lv_at hl 0 rfl) ?_
      obtain ⟨o51, hc51, hf⟩ := gb_b hf
      refine gp_callI (va_runV (As := [.int j5]) (rest := []) ⟨hx, hb, hml, hown, hts⟩ (c_X12_no (l := l) (D := D) (b := b) (M := M) (cI := cI) (cL := cL) hc51) (cwV 1 hts gX12_shown_X12_no rfl rfl rfl (by decide +kernel) ⟨Nat.le_of_ble_eq_true rfl, Nat.le_of_ble_eq_true rfl⟩) (gp_preV hKn hG mg_o rfl) rfl rfl hl.1 rfl (lv_room (Nat.le_of_ble_eq_true rfl)) dX12_shown_51 ⟨Nat.le_of_ble_eq_true rfl, Nat.le_of_ble_eq_true rfl⟩) hS (fun H locs hG hS => ?_)
      have hf := Option.some.inj hf
      subst hf
      exact gp_retI hx hb hr hlocks hG hS (Nat.le_refl _) (Nat.le_refl _) dX12_shown_54
  refine lv_if_eq (tgt := 22) hx hb dX12_shown_5 (by decide) (fun c5 => ?_) (fun c5 => ?_)
  · have hj5 := gb_t c5 hj5
    refine lv_iconst (v := (-1 : Int32)) hx hb dX12_shown_22 (by decide) ?_
    refine lv_goto (tgt := 41) hx hb dX12_shown_23 (by decide) ?_
    have hj5 := Option.some.inj hj5
    subst hj5
    exact hJ5 H locs ls hG hS (lv_sub hl [0, 1, 2, 3] rfl)
  · have hj5 := gb_f c5 hj5
    refine lv_iload_n hx hb dX12_shown_8 rfl (lv_at hl 2 rfl) ?_
    refine lv_if_lt (tgt := 22) hx hb dX12_shown_9 (by decide) (fun c9 => ?_) (fun c9 => ?_)
    · have hj5 := gb_t c9 hj5
      refine lv_iconst (v := (-1 : Int32)) hx hb dX12_shown_22 (by decide) ?_
      refine lv_goto (tgt := 41) hx hb dX12_shown_23 (by decide) ?_
      have hj5 := Option.some.inj hj5
      subst hj5
      exact hJ5 H locs ls hG hS (lv_sub hl [0, 1, 2, 3] rfl)
    · have hj5 := gb_f c9 hj5
      refine lv_iload_n hx hb dX12_shown_12 rfl (lv_at hl 2 rfl) ?_
      refine lv_aload_n hx hb dX12_shown_13 rfl (lv_at hl 0 rfl) ?_
      refine gp_get (v := .ref (h0 + 7)) (C := RX12) (T := TX12) (N := 33) (ci := 10) hx hb hts hin hown hK hG mg_o rfl 6 (by decide) (hts _ (List.mem_of_getElem? (i := 1) rfl)) (fun _ h9 => h9) rfl dX12_shown_14 ?_
      refine lv_iload_n hx hb dX12_shown_17 rfl (lv_at hl 1 rfl) ?_
      obtain ⟨b18, hj5⟩ := gb_ix hj5
      refine gp_iald hx hb hK hG mg_scenes b18 dX12_shown_18 ?_
      refine lv_icmp_lt (tgt := 26) hx hb dX12_shown_19 (by decide) (fun c19 => ?_) (fun c19 => ?_)
      · have hj5 := gb_t c19 hj5
        refine lv_iload_n hx hb dX12_shown_26 rfl (lv_at hl 3 rfl) ?_
        refine lv_iconst (v := 0) hx hb dX12_shown_27 (by decide) ?_
        refine lv_iconst (v := 2) hx hb dX12_shown_28 (by decide) ?_
        obtain ⟨o29, hc29, hj5⟩ := gb_b hj5
        refine gp_callI (va_runS (As := [.int v3, .int 0, .int 2]) (rest := []) ⟨hx, hb, hml, hown, hts⟩ (c_X12_isIn (l := l) (D := D) (b := b) (M := M) (cI := cI) (cL := cL) hc29) (va_cwS 3 hts gX12_shown_X12_isIn rfl rfl rfl (by decide +kernel) ⟨Nat.le_of_ble_eq_true rfl, Nat.le_of_ble_eq_true rfl⟩) (gp_preS hKn hG) rfl rfl hl.1 rfl (lv_room (Nat.le_of_ble_eq_true rfl)) dX12_shown_29 ⟨Nat.le_of_ble_eq_true rfl, Nat.le_of_ble_eq_true rfl⟩) hS (fun H locs hG hS => ?_)
        refine lv_if_ne (tgt := 40) hx hb dX12_shown_32 (by decide) (fun c32 => ?_) (fun c32 => ?_)
        · have hj5 := gb_f c32 hj5
          refine lv_iconst (v := 0) hx hb dX12_shown_40 (by decide) ?_
          have hj5 := Option.some.inj hj5
          subst hj5
          exact hJ5 H locs ls hG hS (lv_sub hl [0, 1, 2, 3] rfl)
        · have hj5 := gb_t c32 hj5
          refine lv_bipush (v := (-2 : Int32)) hx hb dX12_shown_35 (by decide) ?_
          refine lv_goto (tgt := 41) hx hb dX12_shown_37 (by decide) ?_
          have hj5 := Option.some.inj hj5
          subst hj5
          exact hJ5 H locs ls hG hS (lv_sub hl [0, 1, 2, 3] rfl)
      · have hj5 := gb_f c19 hj5
        refine lv_iconst (v := (-1 : Int32)) hx hb dX12_shown_22 (by decide) ?_
        refine lv_goto (tgt := 41) hx hb dX12_shown_23 (by decide) ?_
        have hj5 := Option.some.inj hj5
        subst hj5
        exact hJ5 H locs ls hG hS (lv_sub hl [0, 1, 2, 3] rfl)
-- X12_seen
abbrev rm_X12_seen : Room := { frames := 1, cells := 0, slots := 0, locals := 21 }
set_option maxHeartbeats 4000000 in
set_option maxRecDepth 100000 in
theorem w_X12_seen_21 {α : Type} {R : α} {K68 : Int32 → Option α} {v1 : Int32} (X : gC p s m args meth c cX12_seen 4 (some .int) wsX12_seen RX12 D b (gTy cI cL)) : ∀ (n : Nat) (v2 : Int32) (v3 : Int32), L_X12_seen_21 K68 a_scenes a_who v1 n v2 v3 = some R → (∀ (x : Int32), K68 x = some R → ∀ (H : Heap) (locs : List Loc) (ls : Array Slot), GP D b M (mg cI h0 a_refused a_isWall a_kind a_lampCell a_range a_lit a_scenes a_who a_cell a_minuteOf a_standsAt i_lampMany i_people i_minute a_tape a_letter a_letterAt a_told i_taped i_at i_statements a_kept i_hasImage i_isKeeping i_cursor a_far a_shut a_queue i_queued a_litBy a_may a_row i_rowMany g0) H → va_S (gA b) s.heap H locs → lv_has ls 4 [(2, .int x)] → W p l e rm_X12_seen s m args below meth c H locs 0 0 Q (F0 m 68 ls [])) → ∀ (H : Heap) (locs : List Loc) (ls : Array Slot), GP D b M (mg cI h0 a_refused a_isWall a_kind a_lampCell a_range a_lit a_scenes a_who a_cell a_minuteOf a_standsAt i_lampMany i_people i_minute a_tape a_letter a_letterAt a_told i_taped i_at i_statements a_kept i_hasImage i_isKeeping i_cursor a_far a_shut a_queue i_queued a_litBy a_may a_row i_rowMany g0) H → va_S (gA b) s.heap H locs → lv_has ls 4 [(0, .ref h0), (1, .int v1), (2, .int v2), (3, .int v3)] → W p l e rm_X12_seen s m args below meth c H locs 0 0 Q (F0 m 21 ls []) := by
  obtain ⟨hx, hb, hr, hml, hown, hts, hlocks, hKn, hBs⟩ := id X
  have hK := hKn.1
  have hin : ∀ w ∈ wsX120, w ∈ wsX12_seen := fun w h => List.mem_cons_of_mem _ (List.mem_append_right _ h)
  intro n
  induction n with
  | zero =>
    intro v2 v3 hf
    cases hf
  | succ n ih =>
    intro v2 v3 hf hk68 H locs ls hG hS hl
    rw [L_X12_seen_21.eq_2] at hf
    refine lv_iload_n hx hb dX12_seen_21 rfl (lv_at hl 3 rfl) ?_
    refine lv_bipush (v := 9) hx hb dX12_seen_22 (by decide) ?_
    refine lv_iload_n hx hb dX12_seen_24 rfl (lv_at hl 1 rfl) ?_
    refine lv_imul hx hb dX12_seen_25 ?_
    refine lv_aload_n hx hb dX12_seen_26 rfl (lv_at hl 0 rfl) ?_
    refine gp_get (v := .ref (h0 + 7)) (C := RX12) (T := TX12) (N := 33) (ci := 10) hx hb hts hin hown hK hG mg_o rfl 6 (by decide) (hts _ (List.mem_of_getElem? (i := 1) rfl)) (fun _ h9 => h9) rfl dX12_seen_27 ?_
    refine lv_iload_n hx hb dX12_seen_30 rfl (lv_at hl 1 rfl) ?_
    obtain ⟨b31, hf⟩ := gb_ix hf
    refine gp_iald hx hb hK hG mg_scenes b31 dX12_seen_31 ?_
    refine lv_iadd hx hb dX12_seen_32 ?_
    refine lv_icmp_ge (tgt := 68) hx hb dX12_seen_33 (by decide) (fun c33 => ?_) (fun c33 => ?_)
    · have hf := gb_t c33 hf
      exact hk68 _ hf _ _ _ hG hS (lv_sub hl [2] rfl)
    · have hf := gb_f c33 hf
      refine lv_iload_n hx hb dX12_seen_36 rfl (lv_at hl 2 rfl) ?_
      refine lv_aload_n hx hb dX12_seen_37 rfl (lv_at hl 0 rfl) ?_
      refine gp_get (v := .ref (h0 + 8)) (C := RX12) (T := TX12) (N := 33) (ci := 10) hx hb hts hin hown hK hG mg_o rfl 7 (by decide) (hts _ (List.mem_of_getElem? (i := 2) rfl)) (fun _ h9 => h9) rfl dX12_seen_38 ?_
      refine lv_iload_n hx hb dX12_seen_41 rfl (lv_at hl 3 rfl) ?_
      obtain ⟨b42, hf⟩ := gb_ix hf
      refine gp_iald hx hb hK hG mg_who b42 dX12_seen_42 ?_
      refine lv_bipush (v := 9) hx hb dX12_seen_43 (by decide) ?_
      obtain ⟨j45, hj45, hf⟩ := gb_b hf
      have hJ45 : ∀ (H : Heap) (locs : List Loc) (ls : Array Slot), GP D b M (mg cI h0 a_refused a_isWall a_kind a_lampCell a_range a_lit a_scenes a_who a_cell a_minuteOf a_standsAt i_lampMany i_people i_minute a_tape a_letter a_letterAt a_told i_taped i_at i_statements a_kept i_hasImage i_isKeeping i_cursor a_far a_shut a_queue i_queued a_litBy a_may a_row i_rowMany g0) H → va_S (gA b) s.heap H locs → lv_has ls 4 [(0, .ref h0), (1, .int v1), (3, .int v3)] → W p l e rm_X12_seen s m args below meth c H locs 0 0 Q (F0 m 60 ls [.int j45, .int v2]) := by
        intro H locs ls hG hS hl
        refine lv_ior hx hb dX12_seen_60 ?_
        refine lv_istore_n (lv' := [(2, .int (v2 ||| j45)), (0, .ref h0), (1, .int v1), (3, .int v3)]) hx hb dX12_seen_61 rfl hl (by decide) rfl (fun ls hl => ?_)
        refine lv_iinc (v := v3 + 1) (lv' := [(3, .int (v3 + 1)), (2, .int (v2 ||| j45)), (0, .ref h0), (1, .int v1)]) hx hb dX12_seen_62 hl (k := 3) rfl rfl (by decide) rfl (fun ls hl => ?_)
        refine lv_goto (tgt := 21) hx hb dX12_seen_65 (by decide) ?_
        exact ih _ _ hf hk68 _ _ _ hG hS (lv_sub hl [2, 3, 1, 0] rfl)
      refine lv_icmp_ne (tgt := 52) hx hb dX12_seen_45 (by decide) (fun c45 => ?_) (fun c45 => ?_)
      · have hj45 := gb_f c45 hj45
        refine lv_iconst (v := 1) hx hb dX12_seen_52 (by decide) ?_
        refine lv_aload_n hx hb dX12_seen_53 rfl (lv_at hl 0 rfl) ?_
        refine gp_get (v := .ref (h0 + 8)) (C := RX12) (T := TX12) (N := 33) (ci := 10) hx hb hts hin hown hK hG mg_o rfl 7 (by decide) (hts _ (List.mem_of_getElem? (i := 2) rfl)) (fun _ h9 => h9) rfl dX12_seen_54 ?_
        refine lv_iload_n hx hb dX12_seen_57 rfl (lv_at hl 3 rfl) ?_
        obtain ⟨b58, hj45⟩ := gb_ix hj45
        refine gp_iald hx hb hK hG mg_who b58 dX12_seen_58 ?_
        refine lv_ishl hx hb dX12_seen_59 ?_
        have hj45 := Option.some.inj hj45
        subst hj45
        exact hJ45 H locs ls hG hS (lv_sub hl [0, 1, 3] rfl)
      · have hj45 := gb_t c45 hj45
        refine lv_iconst (v := 0) hx hb dX12_seen_48 (by decide) ?_
        refine lv_goto (tgt := 60) hx hb dX12_seen_49 (by decide) ?_
        have hj45 := Option.some.inj hj45
        subst hj45
        exact hJ45 H locs ls hG hS (lv_sub hl [0, 1, 3] rfl)
set_option maxHeartbeats 4000000 in
set_option maxRecDepth 100000 in
theorem c_X12_seen {v1 : Int32} {R : Int32 × (Nat → Int32)} (hf : f_X12_seen a_refused a_scenes a_who i_lampMany v1 = some R) : Met l yX12_seen wsX12_seen rm_X12_seen (va_Pc [.ref h0, .int v1] (gPre D b M (mg cI h0 a_refused a_isWall a_kind a_lampCell a_range a_lit a_scenes a_who a_cell a_minuteOf a_standsAt i_lampMany i_people i_minute a_tape a_letter a_letterAt a_told i_taped i_at i_statements a_kept i_hasImage i_isKeeping i_cursor a_far a_shut a_queue i_queued a_litBy a_may a_row i_rowMany g0) (gTy cI cL))) (gQ D b (some (.int R.1)) M (mg cI h0 R.2 a_isWall a_kind a_lampCell a_range a_lit a_scenes a_who a_cell a_minuteOf a_standsAt i_lampMany i_people i_minute a_tape a_letter a_letterAt a_told i_taped i_at i_statements a_kept i_hasImage i_isKeeping i_cursor a_far a_shut a_queue i_queued a_litBy a_may a_row i_rowMany g0)) 0 0 (gA b) := by
  refine gp_met (cc := cX12_seen) (maxL := 4) (ret := (some .int)) (by decide) rfl (Nat.le_of_ble_eq_true rfl) ?_
  intro p e s m below meth c X ls hG hl
  have hS : va_S (gA b) s.heap s.heap [] := va_S.rf
  obtain ⟨H, hH0⟩ : ∃ H : Heap, H = s.heap := ⟨_, rfl⟩
  rw [← hH0] at hG ⊢
  have hS : va_S (gA b) s.heap H [] := by rw [hH0]; exact va_S.rf
  obtain ⟨locs, hlo⟩ : ∃ z : List Loc, z = [] := ⟨_, rfl⟩
  rw [← hlo] at hS ⊢
  unfold f_X12_seen at hf
  obtain ⟨hx, hb, hr, hml, hown, hts, hlocks, hKn, hBs⟩ := id X
  have hK := hKn.1
  have hin : ∀ w ∈ wsX120, w ∈ wsX12_seen := fun w h => List.mem_cons_of_mem _ (List.mem_append_right _ h)
  have hl : lv_has ls 4 [(0, .ref h0), (1, .int v1)] := hl
  refine lv_aload_n hx hb dX12_seen_0 rfl (lv_at hl 0 rfl) ?_
  refine lv_iload_n hx hb dX12_seen_1 rfl (lv_at hl 1 rfl) ?_
  obtain ⟨o2, hc2, hf⟩ := gb_b hf
  refine gp_callI (va_runV (As := [.int v1]) (rest := []) ⟨hx, hb, hml, hown, hts⟩ (c_X12_isLamp (l := l) (D := D) (b := b) (M := M) (cI := cI) (cL := cL) hc2) (cwV 1 hts gX12_seen_X12_isLamp rfl rfl rfl (by decide +kernel) ⟨Nat.le_of_ble_eq_true rfl, Nat.le_of_ble_eq_true rfl⟩) (gp_preV hKn hG mg_o rfl) rfl rfl hl.1 rfl (lv_room (Nat.le_of_ble_eq_true rfl)) dX12_seen_2 ⟨Nat.le_of_ble_eq_true rfl, Nat.le_of_ble_eq_true rfl⟩) hS (fun H locs hG hS => ?_)
  refine lv_if_ne (tgt := 14) hx hb dX12_seen_5 (by decide) (fun c5 => ?_) (fun c5 => ?_)
  · have hf := gb_f c5 hf
    refine lv_iconst (v := 0) hx hb dX12_seen_14 (by decide) ?_
    refine lv_istore_n (lv' := [(2, .int 0), (0, .ref h0), (1, .int v1)]) hx hb dX12_seen_15 rfl hl (by decide) rfl (fun ls hl => ?_)
    refine lv_bipush (v := 9) hx hb dX12_seen_16 (by decide) ?_
    refine lv_iload_n hx hb dX12_seen_18 rfl (lv_at hl 2 rfl) ?_
    refine lv_imul hx hb dX12_seen_19 ?_
    refine lv_istore_n (lv' := [(3, .int (9 * v1)), (2, .int 0), (0, .ref h0), (1, .int v1)]) hx hb dX12_seen_20 rfl hl (by decide) rfl (fun ls hl => ?_)
    refine w_X12_seen_21 X _ _ _ hf (fun x21_68 hf H locs ls hG hS hl => ?_) _ _ _ hG hS (lv_sub hl [2, 3, 1, 0] rfl)
    · refine lv_iload_n hx hb dX12_seen_68 rfl (lv_at hl 0 rfl) ?_
      have hf := Option.some.inj hf
      subst hf
      exact gp_retI hx hb hr hlocks hG hS (Nat.le_refl _) (Nat.le_refl _) dX12_seen_69
  · have hf := gb_t c5 hf
    refine lv_aload_n hx hb dX12_seen_8 rfl (lv_at hl 0 rfl) ?_
    refine lv_iconst (v := (-1 : Int32)) hx hb dX12_seen_9 (by decide) ?_
    obtain ⟨o10, hc10, hf⟩ := gb_b hf
    refine gp_callI (va_runV (As := [.int (-1 : Int32)]) (rest := []) ⟨hx, hb, hml, hown, hts⟩ (c_X12_no (l := l) (D := D) (b := b) (M := M) (cI := cI) (cL := cL) hc10) (cwV 1 hts gX12_seen_X12_no rfl rfl rfl (by decide +kernel) ⟨Nat.le_of_ble_eq_true rfl, Nat.le_of_ble_eq_true rfl⟩) (gp_preV hKn hG mg_o rfl) rfl rfl hl.1 rfl (lv_room (Nat.le_of_ble_eq_true rfl)) dX12_seen_10 ⟨Nat.le_of_ble_eq_true rfl, Nat.le_of_ble_eq_true rfl⟩) hS (fun H locs hG hS => ?_)
    have hf := Option.some.inj hf
    subst hf
    exact gp_retI hx hb hr hlocks hG hS (Nat.le_refl _) (Nat.le_refl _) dX12_seen_13
-- X12_sceneAt
abbrev rm_X12_sceneAt : Room := { frames := 0, cells := 0, slots := 0, locals := 0 }
set_option maxHeartbeats 4000000 in
set_option maxRecDepth 100000 in
theorem w_X12_sceneAt_2 {α : Type} {R : α} {K27 : Int32 → Option α} {K35 : Unit → Option α} {v1 : Int32} {v2 : Int32} (X : gC p s m args meth c cX12_sceneAt 4 (some .int) wsX12_sceneAt RX12 D b (gTy cI cL)) : ∀ (n : Nat) (v3 : Int32), L_X12_sceneAt_2 K27 K35 a_scenes a_minuteOf v1 v2 n v3 = some R → (∀ (x : Int32), K27 x = some R → ∀ (H : Heap) (locs : List Loc) (ls : Array Slot), GP D b M (mg cI h0 a_refused a_isWall a_kind a_lampCell a_range a_lit a_scenes a_who a_cell a_minuteOf a_standsAt i_lampMany i_people i_minute a_tape a_letter a_letterAt a_told i_taped i_at i_statements a_kept i_hasImage i_isKeeping i_cursor a_far a_shut a_queue i_queued a_litBy a_may a_row i_rowMany g0) H → va_S (gA b) s.heap H locs → lv_has ls 4 [(3, .int x)] → W p l e rm_X12_sceneAt s m args below meth c H locs 0 0 Q (F0 m 27 ls [])) → (∀ (x : Unit), K35 x = some R → ∀ (H : Heap) (locs : List Loc) (ls : Array Slot), GP D b M (mg cI h0 a_refused a_isWall a_kind a_lampCell a_range a_lit a_scenes a_who a_cell a_minuteOf a_standsAt i_lampMany i_people i_minute a_tape a_letter a_letterAt a_told i_taped i_at i_statements a_kept i_hasImage i_isKeeping i_cursor a_far a_shut a_queue i_queued a_litBy a_may a_row i_rowMany g0) H → va_S (gA b) s.heap H locs → lv_has ls 4 [] → W p l e rm_X12_sceneAt s m args below meth c H locs 0 0 Q (F0 m 35 ls [])) → ∀ (H : Heap) (locs : List Loc) (ls : Array Slot), GP D b M (mg cI h0 a_refused a_isWall a_kind a_lampCell a_range a_lit a_scenes a_who a_cell a_minuteOf a_standsAt i_lampMany i_people i_minute a_tape a_letter a_letterAt a_told i_taped i_at i_statements a_kept i_hasImage i_isKeeping i_cursor a_far a_shut a_queue i_queued a_litBy a_may a_row i_rowMany g0) H → va_S (gA b) s.heap H locs → lv_has ls 4 [(0, .ref h0), (1, .int v1), (2, .int v2), (3, .int v3)] → W p l e rm_X12_sceneAt s m args below meth c H locs 0 0 Q (F0 m 2 ls []) := by
  obtain ⟨hx, hb, hr, hml, hown, hts, hlocks, hKn, hBs⟩ := id X
  have hK := hKn.1
  have hin : ∀ w ∈ wsX120, w ∈ wsX12_sceneAt := fun w h => List.mem_cons_of_mem _ (List.mem_append_right _ h)
  intro n
  induction n with
  | zero =>
    intro v3 hf
    cases hf
  | succ n ih =>
    intro v3 hf hk27 hk35 H locs ls hG hS hl
    rw [L_X12_sceneAt_2.eq_2] at hf
    refine lv_iload_n hx hb dX12_sceneAt_2 rfl (lv_at hl 3 rfl) ?_
    refine lv_aload_n hx hb dX12_sceneAt_3 rfl (lv_at hl 0 rfl) ?_
    refine gp_get (v := .ref (h0 + 7)) (C := RX12) (T := TX12) (N := 33) (ci := 10) hx hb hts hin hown hK hG mg_o rfl 6 (by decide) (hts _ (List.mem_of_getElem? (i := 1) rfl)) (fun _ h9 => h9) rfl dX12_sceneAt_4 ?_
    refine lv_iload_n hx hb dX12_sceneAt_7 rfl (lv_at hl 1 rfl) ?_
    obtain ⟨b8, hf⟩ := gb_ix hf
    refine gp_iald hx hb hK hG mg_scenes b8 dX12_sceneAt_8 ?_
    refine lv_icmp_ge (tgt := 35) hx hb dX12_sceneAt_9 (by decide) (fun c9 => ?_) (fun c9 => ?_)
    · have hf := gb_t c9 hf
      exact hk35 _ hf _ _ _ hG hS (lv_sub hl [] rfl)
    · have hf := gb_f c9 hf
      refine lv_aload_n hx hb dX12_sceneAt_12 rfl (lv_at hl 0 rfl) ?_
      refine gp_get (v := .ref (h0 + 10)) (C := RX12) (T := TX12) (N := 33) (ci := 10) hx hb hts hin hown hK hG mg_o rfl 9 (by decide) (hts _ (List.mem_of_getElem? (i := 2) rfl)) (fun _ h9 => h9) rfl dX12_sceneAt_13 ?_
      refine lv_bipush (v := 9) hx hb dX12_sceneAt_16 (by decide) ?_
      refine lv_iload_n hx hb dX12_sceneAt_18 rfl (lv_at hl 1 rfl) ?_
      refine lv_imul hx hb dX12_sceneAt_19 ?_
      refine lv_iload_n hx hb dX12_sceneAt_20 rfl (lv_at hl 3 rfl) ?_
      refine lv_iadd hx hb dX12_sceneAt_21 ?_
      obtain ⟨b22, hf⟩ := gb_ix hf
      refine gp_iald hx hb hK hG mg_minuteOf b22 dX12_sceneAt_22 ?_
      refine lv_iload_n hx hb dX12_sceneAt_23 rfl (lv_at hl 2 rfl) ?_
      refine lv_icmp_ne (tgt := 29) hx hb dX12_sceneAt_24 (by decide) (fun c24 => ?_) (fun c24 => ?_)
      · have hf := gb_f c24 hf
        refine lv_iinc (v := v3 + 1) (lv' := [(3, .int (v3 + 1)), (0, .ref h0), (1, .int v1), (2, .int v2)]) hx hb dX12_sceneAt_29 hl (k := 3) rfl rfl (by decide) rfl (fun ls hl => ?_)
        refine lv_goto (tgt := 2) hx hb dX12_sceneAt_32 (by decide) ?_
        exact ih _ hf hk27 hk35 _ _ _ hG hS (lv_sub hl [1, 2, 3, 0] rfl)
      · have hf := gb_t c24 hf
        exact hk27 _ hf _ _ _ hG hS (lv_sub hl [3] rfl)
set_option maxHeartbeats 4000000 in
set_option maxRecDepth 100000 in
theorem c_X12_sceneAt {v1 : Int32} {v2 : Int32} {R : Int32} (hf : f_X12_sceneAt a_scenes a_minuteOf v1 v2 = some R) : Met l yX12_sceneAt wsX12_sceneAt rm_X12_sceneAt (va_Pc [.ref h0, .int v1, .int v2] (gPre D b M (mg cI h0 a_refused a_isWall a_kind a_lampCell a_range a_lit a_scenes a_who a_cell a_minuteOf a_standsAt i_lampMany i_people i_minute a_tape a_letter a_letterAt a_told i_taped i_at i_statements a_kept i_hasImage i_isKeeping i_cursor a_far a_shut a_queue i_queued a_litBy a_may a_row i_rowMany g0) (gTy cI cL))) (gQ D b (some (.int R)) M (mg cI h0 a_refused a_isWall a_kind a_lampCell a_range a_lit a_scenes a_who a_cell a_minuteOf a_standsAt i_lampMany i_people i_minute a_tape a_letter a_letterAt a_told i_taped i_at i_statements a_kept i_hasImage i_isKeeping i_cursor a_far a_shut a_queue i_queued a_litBy a_may a_row i_rowMany g0)) 0 0 (gA b) := by
  refine gp_met (cc := cX12_sceneAt) (maxL := 4) (ret := (some .int)) (by decide) rfl (Nat.le_of_ble_eq_true rfl) ?_
  intro p e s m below meth c X ls hG hl
  have hS : va_S (gA b) s.heap s.heap [] := va_S.rf
  obtain ⟨H, hH0⟩ : ∃ H : Heap, H = s.heap := ⟨_, rfl⟩
  rw [← hH0] at hG ⊢
  have hS : va_S (gA b) s.heap H [] := by rw [hH0]; exact va_S.rf
  obtain ⟨locs, hlo⟩ : ∃ z : List Loc, z = [] := ⟨_, rfl⟩
  rw [← hlo] at hS ⊢
  unfold f_X12_sceneAt at hf
  obtain ⟨hx, hb, hr, hml, hown, hts, hlocks, hKn, hBs⟩ := id X
  have hK := hKn.1
  have hin : ∀ w ∈ wsX120, w ∈ wsX12_sceneAt := fun w h => List.mem_cons_of_mem _ (List.mem_append_right _ h)
  have hl : lv_has ls 4 [(0, .ref h0), (1, .int v1), (2, .int v2)] := hl
  refine lv_iconst (v := 0) hx hb dX12_sceneAt_0 (by decide) ?_
  refine lv_istore_n (lv' := [(3, .int 0), (0, .ref h0), (1, .int v1), (2, .int v2)]) hx hb dX12_sceneAt_1 rfl hl (by decide) rfl (fun ls hl => ?_)
  refine w_X12_sceneAt_2 X _ _ hf (fun x2_27 hf H locs ls hG hS hl => ?_) (fun x2_35 hf H locs ls hG hS hl => ?_) _ _ _ hG hS (lv_sub hl [1, 2, 3, 0] rfl)
  · refine lv_iload_n hx hb dX12_sceneAt_27 rfl (lv_at hl 0 rfl) ?_
    have hf := Option.some.inj hf
    subst hf
    exact gp_retI hx hb hr hlocks hG hS (Nat.le_refl _) (Nat.le_refl _) dX12_sceneAt_28
  · refine lv_bipush (v := (-9 : Int32)) hx hb dX12_sceneAt_35 (by decide) ?_
    have hf := Option.some.inj hf
    subst hf
    exact gp_retI hx hb hr hlocks hG hS (Nat.le_refl _) (Nat.le_refl _) dX12_sceneAt_37
-- X12_by
abbrev rm_X12_by : Room := { frames := 1, cells := 0, slots := 0, locals := 23 }
set_option maxHeartbeats 4000000 in
set_option maxRecDepth 100000 in
theorem w_X12_by_37 {α : Type} {R : α} {K97 : Int32 → Option α} {v1 : Int32} {v2 : Int32} (X : gC p s m args meth c cX12_by 6 (some .int) wsX12_by RX12 D b (gTy cI cL)) : ∀ (n : Nat) (v4 : Int32) (v5 : Int32), L_X12_by_37 K97 a_scenes a_who a_minuteOf i_lampMany v1 v2 n v4 v5 = some R → (∀ (x : Int32), K97 x = some R → ∀ (H : Heap) (locs : List Loc) (ls : Array Slot), GP D b M (mg cI h0 a_refused a_isWall a_kind a_lampCell a_range a_lit a_scenes a_who a_cell a_minuteOf a_standsAt i_lampMany i_people i_minute a_tape a_letter a_letterAt a_told i_taped i_at i_statements a_kept i_hasImage i_isKeeping i_cursor a_far a_shut a_queue i_queued a_litBy a_may a_row i_rowMany g0) H → va_S (gA b) s.heap H locs → lv_has ls 6 [(4, .int x)] → W p l e rm_X12_by s m args below meth c H locs 0 0 Q (F0 m 97 ls [])) → ∀ (H : Heap) (locs : List Loc) (ls : Array Slot), GP D b M (mg cI h0 a_refused a_isWall a_kind a_lampCell a_range a_lit a_scenes a_who a_cell a_minuteOf a_standsAt i_lampMany i_people i_minute a_tape a_letter a_letterAt a_told i_taped i_at i_statements a_kept i_hasImage i_isKeeping i_cursor a_far a_shut a_queue i_queued a_litBy a_may a_row i_rowMany g0) H → va_S (gA b) s.heap H locs → lv_has ls 6 [(0, .ref h0), (1, .int v1), (2, .int v2), (4, .int v4), (5, .int v5)] → W p l e rm_X12_by s m args below meth c H locs 0 0 Q (F0 m 37 ls []) := by
  obtain ⟨hx, hb, hr, hml, hown, hts, hlocks, hKn, hBs⟩ := id X
  have hK := hKn.1
  have hin : ∀ w ∈ wsX120, w ∈ wsX12_by := fun w h => List.mem_cons_of_mem _ (List.mem_append_right _ h)
  intro n
  induction n with
  | zero =>
    intro v4 v5 hf
    cases hf
  | succ n ih =>
    intro v4 v5 hf hk97 H locs ls hG hS hl
    rw [L_X12_by_37.eq_2] at hf
    refine lv_iload hx hb dX12_by_37 (lv_at hl 4 rfl) ?_
    refine lv_aload_n hx hb dX12_by_39 rfl (lv_at hl 0 rfl) ?_
    refine gp_get (v := .int i_lampMany) (C := RX12) (T := TX12) (N := 33) (ci := 10) hx hb hts hin hown hK hG mg_o rfl 11 (by decide) (hts _ (List.mem_of_getElem? (i := 1) rfl)) (fun _ h9 => h9) rfl dX12_by_40 ?_
    refine lv_icmp_ge (tgt := 97) hx hb dX12_by_43 (by decide) (fun c43 => ?_) (fun c43 => ?_)
    · have hf := gb_t c43 hf
      exact hk97 _ hf _ _ _ hG hS (lv_sub hl [3] rfl)
    · have hf := gb_f c43 hf
      refine lv_iload hx hb dX12_by_46 (lv_at hl 3 rfl) ?_
      refine lv_aload_n hx hb dX12_by_48 rfl (lv_at hl 0 rfl) ?_
      refine lv_iload hx hb dX12_by_49 (lv_at hl 4 rfl) ?_
      refine lv_iload_n hx hb dX12_by_51 rfl (lv_at hl 2 rfl) ?_
      obtain ⟨o52, hc52, hf⟩ := gb_b hf
      refine gp_callI (va_runV (As := [.int v5, .int v2]) (rest := [.int v4]) ⟨hx, hb, hml, hown, hts⟩ (c_X12_sceneAt (l := l) (D := D) (b := b) (M := M) (cI := cI) (cL := cL) hc52) (cwV 2 hts gX12_by_X12_sceneAt rfl rfl rfl (by decide +kernel) ⟨Nat.le_of_ble_eq_true rfl, Nat.le_of_ble_eq_true rfl⟩) (gp_preV hKn hG mg_o rfl) rfl rfl hl.1 rfl (lv_room (Nat.le_of_ble_eq_true rfl)) dX12_by_52 ⟨Nat.le_of_ble_eq_true rfl, Nat.le_of_ble_eq_true rfl⟩) hS (fun H locs hG hS => ?_)
      obtain ⟨j55, hj55, hf⟩ := gb_b hf
      have hJ55 : ∀ (H : Heap) (locs : List Loc) (ls : Array Slot), GP D b M (mg cI h0 a_refused a_isWall a_kind a_lampCell a_range a_lit a_scenes a_who a_cell a_minuteOf a_standsAt i_lampMany i_people i_minute a_tape a_letter a_letterAt a_told i_taped i_at i_statements a_kept i_hasImage i_isKeeping i_cursor a_far a_shut a_queue i_queued a_litBy a_may a_row i_rowMany g0) H → va_S (gA b) s.heap H locs → lv_has ls 6 [(0, .ref h0), (1, .int v1), (2, .int v2), (5, .int v5)] → W p l e rm_X12_by s m args below meth c H locs 0 0 Q (F0 m 88 ls [.int j55, .int v4]) := by
        intro H locs ls hG hS hl
        refine lv_ior hx hb dX12_by_88 ?_
        refine lv_istore (lv' := [(4, .int (v4 ||| j55)), (0, .ref h0), (1, .int v1), (2, .int v2), (5, .int v5)]) hx hb dX12_by_89 hl (by decide) rfl (fun ls hl => ?_)
        refine lv_iinc (v := v5 + 1) (lv' := [(5, .int (v5 + 1)), (4, .int (v4 ||| j55)), (0, .ref h0), (1, .int v1), (2, .int v2)]) hx hb dX12_by_91 hl (k := 4) rfl rfl (by decide) rfl (fun ls hl => ?_)
        refine lv_goto (tgt := 37) hx hb dX12_by_94 (by decide) ?_
        exact ih _ _ hf hk97 _ _ _ hG hS (lv_sub hl [2, 3, 4, 1, 0] rfl)
      refine lv_if_lt (tgt := 87) hx hb dX12_by_55 (by decide) (fun c55 => ?_) (fun c55 => ?_)
      · have hj55 := gb_t c55 hj55
        refine lv_iconst (v := 0) hx hb dX12_by_87 (by decide) ?_
        have hj55 := Option.some.inj hj55
        subst hj55
        exact hJ55 H locs ls hG hS (lv_sub hl [0, 1, 2, 4] rfl)
      · have hj55 := gb_f c55 hj55
        refine lv_aload_n hx hb dX12_by_58 rfl (lv_at hl 0 rfl) ?_
        refine gp_get (v := .ref (h0 + 8)) (C := RX12) (T := TX12) (N := 33) (ci := 10) hx hb hts hin hown hK hG mg_o rfl 7 (by decide) (hts _ (List.mem_of_getElem? (i := 2) rfl)) (fun _ h9 => h9) rfl dX12_by_59 ?_
        refine lv_bipush (v := 9) hx hb dX12_by_62 (by decide) ?_
        refine lv_iload hx hb dX12_by_64 (lv_at hl 4 rfl) ?_
        refine lv_imul hx hb dX12_by_66 ?_
        refine lv_aload_n hx hb dX12_by_67 rfl (lv_at hl 0 rfl) ?_
        refine lv_iload hx hb dX12_by_68 (lv_at hl 4 rfl) ?_
        refine lv_iload_n hx hb dX12_by_70 rfl (lv_at hl 2 rfl) ?_
        obtain ⟨o71, hc71, hj55⟩ := gb_b hj55
        refine gp_callI (va_runV (As := [.int v5, .int v2]) (rest := [.int (9 * v5), .ref (h0 + 8), .int v4]) ⟨hx, hb, hml, hown, hts⟩ (c_X12_sceneAt (l := l) (D := D) (b := b) (M := M) (cI := cI) (cL := cL) hc71) (cwV 2 hts gX12_by_X12_sceneAt rfl rfl rfl (by decide +kernel) ⟨Nat.le_of_ble_eq_true rfl, Nat.le_of_ble_eq_true rfl⟩) (gp_preV hKn hG mg_o rfl) rfl rfl hl.1 rfl (lv_room (Nat.le_of_ble_eq_true rfl)) dX12_by_71 ⟨Nat.le_of_ble_eq_true rfl, Nat.le_of_ble_eq_true rfl⟩) hS (fun H locs hG hS => ?_)
        refine lv_iadd hx hb dX12_by_74 ?_
        obtain ⟨b75, hj55⟩ := gb_ix hj55
        refine gp_iald hx hb hK hG mg_who b75 dX12_by_75 ?_
        refine lv_iload_n hx hb dX12_by_76 rfl (lv_at hl 1 rfl) ?_
        refine lv_icmp_ne (tgt := 87) hx hb dX12_by_77 (by decide) (fun c77 => ?_) (fun c77 => ?_)
        · have hj55 := gb_f c77 hj55
          refine lv_iconst (v := 0) hx hb dX12_by_87 (by decide) ?_
          have hj55 := Option.some.inj hj55
          subst hj55
          exact hJ55 H locs ls hG hS (lv_sub hl [0, 1, 2, 4] rfl)
        · have hj55 := gb_t c77 hj55
          refine lv_iconst (v := 1) hx hb dX12_by_80 (by decide) ?_
          refine lv_iload hx hb dX12_by_81 (lv_at hl 4 rfl) ?_
          refine lv_ishl hx hb dX12_by_83 ?_
          refine lv_goto (tgt := 88) hx hb dX12_by_84 (by decide) ?_
          have hj55 := Option.some.inj hj55
          subst hj55
          exact hJ55 H locs ls hG hS (lv_sub hl [0, 1, 2, 4] rfl)
set_option maxHeartbeats 4000000 in
set_option maxRecDepth 100000 in
theorem c_X12_by {v1 : Int32} {v2 : Int32} {R : Int32 × (Nat → Int32)} (hf : f_X12_by a_refused a_scenes a_who a_minuteOf i_lampMany i_people v1 v2 = some R) : Met l yX12_by wsX12_by rm_X12_by (va_Pc [.ref h0, .int v1, .int v2] (gPre D b M (mg cI h0 a_refused a_isWall a_kind a_lampCell a_range a_lit a_scenes a_who a_cell a_minuteOf a_standsAt i_lampMany i_people i_minute a_tape a_letter a_letterAt a_told i_taped i_at i_statements a_kept i_hasImage i_isKeeping i_cursor a_far a_shut a_queue i_queued a_litBy a_may a_row i_rowMany g0) (gTy cI cL))) (gQ D b (some (.int R.1)) M (mg cI h0 R.2 a_isWall a_kind a_lampCell a_range a_lit a_scenes a_who a_cell a_minuteOf a_standsAt i_lampMany i_people i_minute a_tape a_letter a_letterAt a_told i_taped i_at i_statements a_kept i_hasImage i_isKeeping i_cursor a_far a_shut a_queue i_queued a_litBy a_may a_row i_rowMany g0)) 0 0 (gA b) := by
  refine gp_met (cc := cX12_by) (maxL := 6) (ret := (some .int)) (by decide) rfl (Nat.le_of_ble_eq_true rfl) ?_
  intro p e s m below meth c X ls hG hl
  have hS : va_S (gA b) s.heap s.heap [] := va_S.rf
  obtain ⟨H, hH0⟩ : ∃ H : Heap, H = s.heap := ⟨_, rfl⟩
  rw [← hH0] at hG ⊢
  have hS : va_S (gA b) s.heap H [] := by rw [hH0]; exact va_S.rf
  obtain ⟨locs, hlo⟩ : ∃ z : List Loc, z = [] := ⟨_, rfl⟩
  rw [← hlo] at hS ⊢
  unfold f_X12_by at hf
  obtain ⟨hx, hb, hr, hml, hown, hts, hlocks, hKn, hBs⟩ := id X
  have hK := hKn.1
  have hin : ∀ w ∈ wsX120, w ∈ wsX12_by := fun w h => List.mem_cons_of_mem _ (List.mem_append_right _ h)
  have hl : lv_has ls 6 [(0, .ref h0), (1, .int v1), (2, .int v2)] := hl
  refine lv_aload_n hx hb dX12_by_0 rfl (lv_at hl 0 rfl) ?_
  refine lv_iload_n hx hb dX12_by_1 rfl (lv_at hl 1 rfl) ?_
  obtain ⟨o2, hc2, hf⟩ := gb_b hf
  refine gp_callI (va_runV (As := [.int v1]) (rest := []) ⟨hx, hb, hml, hown, hts⟩ (c_X12_isPerson (l := l) (D := D) (b := b) (M := M) (cI := cI) (cL := cL) hc2) (cwV 1 hts gX12_by_X12_isPerson rfl rfl rfl (by decide +kernel) ⟨Nat.le_of_ble_eq_true rfl, Nat.le_of_ble_eq_true rfl⟩) (gp_preV hKn hG mg_o rfl) rfl rfl hl.1 rfl (lv_room (Nat.le_of_ble_eq_true rfl)) dX12_by_2 ⟨Nat.le_of_ble_eq_true rfl, Nat.le_of_ble_eq_true rfl⟩) hS (fun H locs hG hS => ?_)
  obtain ⟨j5, hj5, hf⟩ := gb_b hf
  have hJ5 : ∀ (H : Heap) (locs : List Loc) (ls : Array Slot), GP D b M (mg cI h0 a_refused a_isWall a_kind a_lampCell a_range a_lit a_scenes a_who a_cell a_minuteOf a_standsAt i_lampMany i_people i_minute a_tape a_letter a_letterAt a_told i_taped i_at i_statements a_kept i_hasImage i_isKeeping i_cursor a_far a_shut a_queue i_queued a_litBy a_may a_row i_rowMany g0) H → va_S (gA b) s.heap H locs → lv_has ls 6 [(0, .ref h0), (1, .int v1), (2, .int v2)] → W p l e rm_X12_by s m [.ref h0, .int v1, .int v2].toArray below meth c H locs 0 0 (MQ below (gQ D b (some (.int R.1)) M (mg cI h0 R.2 a_isWall a_kind a_lampCell a_range a_lit a_scenes a_who a_cell a_minuteOf a_standsAt i_lampMany i_people i_minute a_tape a_letter a_letterAt a_told i_taped i_at i_statements a_kept i_hasImage i_isKeeping i_cursor a_far a_shut a_queue i_queued a_litBy a_may a_row i_rowMany g0)) [.ref h0, .int v1, .int v2].toArray s 0 0 (gA b)) (F0 m 20 ls [.int j5]) := by
    intro H locs ls hG hS hl
    refine lv_istore_n (lv' := [(3, .int j5), (0, .ref h0), (1, .int v1), (2, .int v2)]) hx hb dX12_by_20 rfl hl (by decide) rfl (fun ls hl => ?_)
    refine lv_iload_n hx hb dX12_by_21 rfl (lv_at hl 0 rfl) ?_
    refine lv_if_eq (tgt := 31) hx hb dX12_by_22 (by decide) (fun c22 => ?_) (fun c22 => ?_)
    · have hf := gb_t c22 hf
      refine lv_iconst (v := 0) hx hb dX12_by_31 (by decide) ?_
      refine lv_istore (lv' := [(4, .int 0), (3, .int j5), (0, .ref h0), (1, .int v1), (2, .int v2)]) hx hb dX12_by_32 hl (by decide) rfl (fun ls hl => ?_)
      refine lv_iconst (v := 0) hx hb dX12_by_34 (by decide) ?_
      refine lv_istore (lv' := [(5, .int 0), (4, .int 0), (3, .int j5), (0, .ref h0), (1, .int v1), (2, .int v2)]) hx hb dX12_by_35 hl (by decide) rfl (fun ls hl => ?_)
      refine w_X12_by_37 X _ _ _ hf (fun x37_97 hf H locs ls hG hS hl => ?_) _ _ _ hG hS (lv_sub hl [3, 4, 5, 1, 0] rfl)
      · refine lv_iload hx hb dX12_by_97 (lv_at hl 0 rfl) ?_
        have hf := Option.some.inj hf
        subst hf
        exact gp_retI hx hb hr hlocks hG hS (Nat.le_refl _) (Nat.le_refl _) dX12_by_99
    · have hf := gb_f c22 hf
      refine lv_aload_n hx hb dX12_by_25 rfl (lv_at hl 1 rfl) ?_
      refine lv_iload_n hx hb dX12_by_26 rfl (lv_at hl 0 rfl) ?_
      obtain ⟨o27, hc27, hf⟩ := gb_b hf
      refine gp_callI (va_runV (As := [.int j5]) (rest := []) ⟨hx, hb, hml, hown, hts⟩ (c_X12_no (l := l) (D := D) (b := b) (M := M) (cI := cI) (cL := cL) hc27) (cwV 1 hts gX12_by_X12_no rfl rfl rfl (by decide +kernel) ⟨Nat.le_of_ble_eq_true rfl, Nat.le_of_ble_eq_true rfl⟩) (gp_preV hKn hG mg_o rfl) rfl rfl hl.1 rfl (lv_room (Nat.le_of_ble_eq_true rfl)) dX12_by_27 ⟨Nat.le_of_ble_eq_true rfl, Nat.le_of_ble_eq_true rfl⟩) hS (fun H locs hG hS => ?_)
      have hf := Option.some.inj hf
      subst hf
      exact gp_retI hx hb hr hlocks hG hS (Nat.le_refl _) (Nat.le_refl _) dX12_by_30
  refine lv_if_ne (tgt := 12) hx hb dX12_by_5 (by decide) (fun c5 => ?_) (fun c5 => ?_)
  · have hj5 := gb_f c5 hj5
    refine lv_iload_n hx hb dX12_by_12 rfl (lv_at hl 2 rfl) ?_
    refine lv_iconst (v := 0) hx hb dX12_by_13 (by decide) ?_
    refine lv_sipush (v := 9999) hx hb dX12_by_14 (by decide) ?_
    obtain ⟨o17, hc17, hj5⟩ := gb_b hj5
    refine gp_callI (va_runS (As := [.int v2, .int 0, .int 9999]) (rest := []) ⟨hx, hb, hml, hown, hts⟩ (c_X12_bound (l := l) (D := D) (b := b) (M := M) (cI := cI) (cL := cL) hc17) (va_cwS 3 hts gX12_by_X12_bound rfl rfl rfl (by decide +kernel) ⟨Nat.le_of_ble_eq_true rfl, Nat.le_of_ble_eq_true rfl⟩) (gp_preS hKn hG) rfl rfl hl.1 rfl (lv_room (Nat.le_of_ble_eq_true rfl)) dX12_by_17 ⟨Nat.le_of_ble_eq_true rfl, Nat.le_of_ble_eq_true rfl⟩) hS (fun H locs hG hS => ?_)
    have hj5 := Option.some.inj hj5
    subst hj5
    exact hJ5 H locs ls hG hS (lv_sub hl [0, 1, 2] rfl)
  · have hj5 := gb_t c5 hj5
    refine lv_iconst (v := (-1 : Int32)) hx hb dX12_by_8 (by decide) ?_
    refine lv_goto (tgt := 20) hx hb dX12_by_9 (by decide) ?_
    have hj5 := Option.some.inj hj5
    subst hj5
    exact hJ5 H locs ls hG hS (lv_sub hl [0, 1, 2] rfl)
end
