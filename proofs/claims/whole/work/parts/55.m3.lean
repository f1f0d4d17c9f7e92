section
variable {p : Program} {l : Launch} {e : Env} {s : State} {m : MethodId} {args : Array Value} {below : List Frame} {meth : Method} {c : Code} {D : va_G} {b : GB} {M : Nat} {cI cL : ClassId} {h0 : Nat} {g0 gh : Nat → va_E} {Q : State → Prop}
variable {a_refused : Nat → Int32} {a_isWall : Nat → Int32} {a_kind : Nat → Int32} {a_lampCell : Nat → Int32} {a_range : Nat → Int32} {a_lit : Nat → Int32} {a_scenes : Nat → Int32} {a_who : Nat → Int32} {a_cell : Nat → Int32} {a_minuteOf : Nat → Int32} {a_standsAt : Nat → Int32} {i_lampMany : Int32} {i_people : Int32} {i_minute : Int32} {a_tape : Nat → Int32} {a_letter : Nat → Int32} {a_letterAt : Nat → Int32} {a_told : Nat → Int32} {i_taped : Int32} {i_at : Int32} {i_statements : Int32} {a_kept : Nat → Int32} {i_hasImage : Int32} {i_isKeeping : Int32} {i_cursor : Int32} {a_far : Nat → Int32} {a_shut : Nat → Int32} {a_queue : Nat → Int32} {i_queued : Int32} {a_litBy : Nat → Int32} {a_may : Nat → Int32} {a_row : Nat → Int32} {i_rowMany : Int32}
-- X12_takesOut
abbrev rm_X12_takesOut : Room := { frames := 0, cells := 0, slots := 0, locals := 0 }
set_option maxHeartbeats 4000000 in
set_option maxRecDepth 100000 in
theorem w_X12_takesOut_17 {α : Type} {R : α} {K80 : ((Nat → Int32) × (Nat → Int32) × (Nat → Int32)) → Option α} {v1 : Int32} (X : gC p s m args meth c cX12_takesOut 4 none wsX12_takesOut RX12 D b (gTy cI cL)) : ∀ (n : Nat) (v3 : Int32) (a_who : Nat → Int32) (a_cell : Nat → Int32) (a_minuteOf : Nat → Int32), L_X12_takesOut_17 K80 a_scenes v1 n v3 a_who a_cell a_minuteOf = some R → (∀ (x : (Nat → Int32) × (Nat → Int32) × (Nat → Int32)), K80 x = some R → ∀ (H : Heap) (locs : List Loc) (ls : Array Slot), GP D b M (mg cI h0 a_refused a_isWall a_kind a_lampCell a_range a_lit a_scenes x.1 x.2.1 x.2.2 a_standsAt i_lampMany i_people i_minute a_tape a_letter a_letterAt a_told i_taped i_at i_statements a_kept i_hasImage i_isKeeping i_cursor a_far a_shut a_queue i_queued a_litBy a_may a_row i_rowMany g0) H → va_S (gA b) s.heap H locs → lv_has ls 4 [] → W p l e rm_X12_takesOut s m args below meth c H locs 0 0 Q (F0 m 80 ls [])) → ∀ (H : Heap) (locs : List Loc) (ls : Array Slot), GP D b M (mg cI h0 a_refused a_isWall a_kind a_lampCell a_range a_lit a_scenes a_who a_cell a_minuteOf a_standsAt i_lampMany i_people i_minute a_tape a_letter a_letterAt a_told i_taped i_at i_statements a_kept i_hasImage i_isKeeping i_cursor a_far a_shut a_queue i_queued a_litBy a_may a_row i_rowMany g0) H → va_S (gA b) s.heap H locs → lv_has ls 4 [(0, .ref h0), (1, .int v1), (3, .int v3)] → W p l e rm_X12_takesOut s m args below meth c H locs 0 0 Q (F0 m 17 ls []) := by
  obtain ⟨hx, hb, hr, hml, hown, hts, hlocks, hKn, hBs⟩ := id X
  have hK := hKn.1
  have hin : ∀ w ∈ wsX120, w ∈ wsX12_takesOut := fun w h => List.mem_cons_of_mem _ (List.mem_append_right _ h)
  intro n
  induction n with
  | zero =>
    intro v3 a_who a_cell a_minuteOf hf
    cases hf
  | succ n ih =>
    intro v3 a_who a_cell a_minuteOf hf hk80 H locs ls hG hS hl
    rw [L_X12_takesOut_17.eq_2] at hf
    refine lv_iload_n hx hb dX12_takesOut_17 rfl (lv_at hl 2 rfl) ?_
    refine lv_bipush (v := 9) hx hb dX12_takesOut_18 (by decide) ?_
    refine lv_iload_n hx hb dX12_takesOut_20 rfl (lv_at hl 1 rfl) ?_
    refine lv_imul hx hb dX12_takesOut_21 ?_
    refine lv_aload_n hx hb dX12_takesOut_22 rfl (lv_at hl 0 rfl) ?_
    refine gp_get (v := .ref (h0 + 7)) (C := RX12) (T := TX12) (N := 33) (ci := 10) hx hb hts hin hown hK hG mg_o rfl 6 (by decide) (hts _ (List.mem_of_getElem? (i := 1) rfl)) (fun _ h9 => h9) rfl dX12_takesOut_23 ?_
    refine lv_iload_n hx hb dX12_takesOut_26 rfl (lv_at hl 1 rfl) ?_
    obtain ⟨b27, hf⟩ := gb_ix hf
    refine gp_iald hx hb hK hG mg_scenes b27 dX12_takesOut_27 ?_
    refine lv_iadd hx hb dX12_takesOut_28 ?_
    refine lv_icmp_ge (tgt := 80) hx hb dX12_takesOut_29 (by decide) (fun c29 => ?_) (fun c29 => ?_)
    · have hf := gb_t c29 hf
      exact hk80 _ hf _ _ _ hG hS (lv_sub hl [] rfl)
    · have hf := gb_f c29 hf
      refine lv_aload_n hx hb dX12_takesOut_32 rfl (lv_at hl 0 rfl) ?_
      refine gp_get (v := .ref (h0 + 8)) (C := RX12) (T := TX12) (N := 33) (ci := 10) hx hb hts hin hown hK hG mg_o rfl 7 (by decide) (hts _ (List.mem_of_getElem? (i := 2) rfl)) (fun _ h9 => h9) rfl dX12_takesOut_33 ?_
      refine lv_iload_n hx hb dX12_takesOut_36 rfl (lv_at hl 2 rfl) ?_
      refine lv_aload_n hx hb dX12_takesOut_37 rfl (lv_at hl 0 rfl) ?_
      refine gp_get (v := .ref (h0 + 8)) (C := RX12) (T := TX12) (N := 33) (ci := 10) hx hb hts hin hown hK hG mg_o rfl 7 (by decide) (hts _ (List.mem_of_getElem? (i := 2) rfl)) (fun _ h9 => h9) rfl dX12_takesOut_38 ?_
      refine lv_iload_n hx hb dX12_takesOut_41 rfl (lv_at hl 2 rfl) ?_
      refine lv_iconst (v := 1) hx hb dX12_takesOut_42 (by decide) ?_
      refine lv_iadd hx hb dX12_takesOut_43 ?_
      obtain ⟨b44, hf⟩ := gb_ix hf
      refine gp_iald hx hb hK hG mg_who b44 dX12_takesOut_44 ?_
      obtain ⟨b45, hf⟩ := gb_ix hf
      refine gp_iast hx hb hK hG hS mg_who b45 mu_who dX12_takesOut_45 (fun H locs hG hS => ?_)
      refine lv_aload_n hx hb dX12_takesOut_46 rfl (lv_at hl 0 rfl) ?_
      refine gp_get (v := .ref (h0 + 9)) (C := RX12) (T := TX12) (N := 33) (ci := 10) hx hb hts hin hown hK hG mg_o rfl 8 (by decide) (hts _ (List.mem_of_getElem? (i := 3) rfl)) (fun _ h9 => h9) rfl dX12_takesOut_47 ?_
      refine lv_iload_n hx hb dX12_takesOut_50 rfl (lv_at hl 2 rfl) ?_
      refine lv_aload_n hx hb dX12_takesOut_51 rfl (lv_at hl 0 rfl) ?_
      refine gp_get (v := .ref (h0 + 9)) (C := RX12) (T := TX12) (N := 33) (ci := 10) hx hb hts hin hown hK hG mg_o rfl 8 (by decide) (hts _ (List.mem_of_getElem? (i := 3) rfl)) (fun _ h9 => h9) rfl dX12_takesOut_52 ?_
      refine lv_iload_n hx hb dX12_takesOut_55 rfl (lv_at hl 2 rfl) ?_
      refine lv_iconst (v := 1) hx hb dX12_takesOut_56 (by decide) ?_
      refine lv_iadd hx hb dX12_takesOut_57 ?_
      obtain ⟨b58, hf⟩ := gb_ix hf
      refine gp_iald hx hb hK hG mg_cell b58 dX12_takesOut_58 ?_
      obtain ⟨b59, hf⟩ := gb_ix hf
      refine gp_iast hx hb hK hG hS mg_cell b59 mu_cell dX12_takesOut_59 (fun H locs hG hS => ?_)
      refine lv_aload_n hx hb dX12_takesOut_60 rfl (lv_at hl 0 rfl) ?_
      refine gp_get (v := .ref (h0 + 10)) (C := RX12) (T := TX12) (N := 33) (ci := 10) hx hb hts hin hown hK hG mg_o rfl 9 (by decide) (hts _ (List.mem_of_getElem? (i := 4) rfl)) (fun _ h9 => h9) rfl dX12_takesOut_61 ?_
      refine lv_iload_n hx hb dX12_takesOut_64 rfl (lv_at hl 2 rfl) ?_
      refine lv_aload_n hx hb dX12_takesOut_65 rfl (lv_at hl 0 rfl) ?_
      refine gp_get (v := .ref (h0 + 10)) (C := RX12) (T := TX12) (N := 33) (ci := 10) hx hb hts hin hown hK hG mg_o rfl 9 (by decide) (hts _ (List.mem_of_getElem? (i := 4) rfl)) (fun _ h9 => h9) rfl dX12_takesOut_66 ?_
      refine lv_iload_n hx hb dX12_takesOut_69 rfl (lv_at hl 2 rfl) ?_
      refine lv_iconst (v := 1) hx hb dX12_takesOut_70 (by decide) ?_
      refine lv_iadd hx hb dX12_takesOut_71 ?_
      obtain ⟨b72, hf⟩ := gb_ix hf
      refine gp_iald hx hb hK hG mg_minuteOf b72 dX12_takesOut_72 ?_
      obtain ⟨b73, hf⟩ := gb_ix hf
      refine gp_iast hx hb hK hG hS mg_minuteOf b73 mu_minuteOf dX12_takesOut_73 (fun H locs hG hS => ?_)
      refine lv_iinc (v := v3 + 1) (lv' := [(3, .int (v3 + 1)), (0, .ref h0), (1, .int v1)]) hx hb dX12_takesOut_74 hl (k := 2) rfl rfl (by decide) rfl (fun ls hl => ?_)
      refine lv_goto (tgt := 17) hx hb dX12_takesOut_77 (by decide) ?_
      exact ih _ _ _ _ hf hk80 _ _ _ hG hS (lv_sub hl [1, 2, 0] rfl)
set_option maxHeartbeats 4000000 in
set_option maxRecDepth 100000 in
theorem c_X12_takesOut {v1 : Int32} {v2 : Int32} {R : (Nat → Int32) × (Nat → Int32) × (Nat → Int32) × (Nat → Int32)} (hf : f_X12_takesOut a_scenes a_who a_cell a_minuteOf v1 v2 = some R) : Met l yX12_takesOut wsX12_takesOut rm_X12_takesOut (va_Pc [.ref h0, .int v1, .int v2] (gPre D b M (mg cI h0 a_refused a_isWall a_kind a_lampCell a_range a_lit a_scenes a_who a_cell a_minuteOf a_standsAt i_lampMany i_people i_minute a_tape a_letter a_letterAt a_told i_taped i_at i_statements a_kept i_hasImage i_isKeeping i_cursor a_far a_shut a_queue i_queued a_litBy a_may a_row i_rowMany g0) (gTy cI cL))) (gQ D b none M (mg cI h0 a_refused a_isWall a_kind a_lampCell a_range a_lit R.1 R.2.1 R.2.2.1 R.2.2.2 a_standsAt i_lampMany i_people i_minute a_tape a_letter a_letterAt a_told i_taped i_at i_statements a_kept i_hasImage i_isKeeping i_cursor a_far a_shut a_queue i_queued a_litBy a_may a_row i_rowMany g0)) 0 0 (gA b) := by
  refine gp_met (cc := cX12_takesOut) (maxL := 4) (ret := none) (by decide) rfl (Nat.le_of_ble_eq_true rfl) ?_
  intro p e s m below meth c X ls hG hl
  have hS : va_S (gA b) s.heap s.heap [] := va_S.rf
  obtain ⟨H, hH0⟩ : ∃ H : Heap, H = s.heap := ⟨_, rfl⟩
  rw [← hH0] at hG ⊢
  have hS : va_S (gA b) s.heap H [] := by rw [hH0]; exact va_S.rf
  obtain ⟨locs, hlo⟩ : ∃ z : List Loc, z = [] := ⟨_, rfl⟩
  rw [← hlo] at hS ⊢
  unfold f_X12_takesOut at hf
  obtain ⟨hx, hb, hr, hml, hown, hts, hlocks, hKn, hBs⟩ := id X
  have hK := hKn.1
  have hin : ∀ w ∈ wsX120, w ∈ wsX12_takesOut := fun w h => List.mem_cons_of_mem _ (List.mem_append_right _ h)
  have hl : lv_has ls 4 [(0, .ref h0), (1, .int v1), (2, .int v2)] := hl
  refine lv_aload_n hx hb dX12_takesOut_0 rfl (lv_at hl 0 rfl) ?_
  refine gp_get (v := .ref (h0 + 7)) (C := RX12) (T := TX12) (N := 33) (ci := 10) hx hb hts hin hown hK hG mg_o rfl 6 (by decide) (hts _ (List.mem_of_getElem? (i := 1) rfl)) (fun _ h9 => h9) rfl dX12_takesOut_1 ?_
  refine lv_iload_n hx hb dX12_takesOut_4 rfl (lv_at hl 1 rfl) ?_
  refine lv_dup2_11 hx hb dX12_takesOut_5 rfl rfl ?_
  obtain ⟨b6, hf⟩ := gb_ix hf
  refine gp_iald hx hb hK hG mg_scenes b6 dX12_takesOut_6 ?_
  refine lv_iconst (v := 1) hx hb dX12_takesOut_7 (by decide) ?_
  refine lv_isub hx hb dX12_takesOut_8 ?_
  obtain ⟨b9, hf⟩ := gb_ix hf
  refine gp_iast hx hb hK hG hS mg_scenes b9 mu_scenes dX12_takesOut_9 (fun H locs hG hS => ?_)
  refine lv_bipush (v := 9) hx hb dX12_takesOut_10 (by decide) ?_
  refine lv_iload_n hx hb dX12_takesOut_12 rfl (lv_at hl 1 rfl) ?_
  refine lv_imul hx hb dX12_takesOut_13 ?_
  refine lv_iload_n hx hb dX12_takesOut_14 rfl (lv_at hl 2 rfl) ?_
  refine lv_iadd hx hb dX12_takesOut_15 ?_
  refine lv_istore_n (lv' := [(3, .int ((9 * v1) + v2)), (0, .ref h0), (1, .int v1), (2, .int v2)]) hx hb dX12_takesOut_16 rfl hl (by decide) rfl (fun ls hl => ?_)
  refine w_X12_takesOut_17 X _ _ _ _ _ hf (fun x17_80 hf H locs ls hG hS hl => ?_) _ _ _ hG hS (lv_sub hl [1, 2, 0] rfl)
  · have hf := Option.some.inj hf
    subst hf
    exact gp_retV hx hb hr hlocks hG hS (Nat.le_refl _) (Nat.le_refl _) dX12_takesOut_80
-- X12_keepsScene
abbrev rm_X12_keepsScene : Room := { frames := 1, cells := 0, slots := 0, locals := 23 }
set_option maxHeartbeats 4000000 in
set_option maxRecDepth 100000 in
theorem w_X12_keepsScene_20 {α : Type} {R : α} {K60 : Int32 → Option α} {K76 : Unit → Option α} {v1 : Int32} {v2 : Int32} {v3 : Int32} {v4 : Int32} (X : gC p s m args meth c cX12_keepsScene 6 none wsX12_keepsScene RX12 D b (gTy cI cL)) : ∀ (n : Nat) (v5 : Int32), L_X12_keepsScene_20 K60 K76 a_kind a_scenes a_cell v1 v2 v3 v4 n v5 = some R → (∀ (x : Int32), K60 x = some R → ∀ (H : Heap) (locs : List Loc) (ls : Array Slot), GP D b M (mg cI h0 a_refused a_isWall a_kind a_lampCell a_range a_lit a_scenes a_who a_cell a_minuteOf a_standsAt i_lampMany i_people i_minute a_tape a_letter a_letterAt a_told i_taped i_at i_statements a_kept i_hasImage i_isKeeping i_cursor a_far a_shut a_queue i_queued a_litBy a_may a_row i_rowMany g0) H → va_S (gA b) s.heap H locs → lv_has ls 6 [(0, .ref h0), (1, .int v1), (2, .int v2), (3, .int v3), (4, .int v4), (5, .int x)] → W p l e rm_X12_keepsScene s m args below meth c H locs 0 0 Q (F0 m 60 ls [])) → (∀ (x : Unit), K76 x = some R → ∀ (H : Heap) (locs : List Loc) (ls : Array Slot), GP D b M (mg cI h0 a_refused a_isWall a_kind a_lampCell a_range a_lit a_scenes a_who a_cell a_minuteOf a_standsAt i_lampMany i_people i_minute a_tape a_letter a_letterAt a_told i_taped i_at i_statements a_kept i_hasImage i_isKeeping i_cursor a_far a_shut a_queue i_queued a_litBy a_may a_row i_rowMany g0) H → va_S (gA b) s.heap H locs → lv_has ls 6 [(0, .ref h0), (1, .int v1), (2, .int v2), (3, .int v3), (4, .int v4)] → W p l e rm_X12_keepsScene s m args below meth c H locs 0 0 Q (F0 m 76 ls [])) → ∀ (H : Heap) (locs : List Loc) (ls : Array Slot), GP D b M (mg cI h0 a_refused a_isWall a_kind a_lampCell a_range a_lit a_scenes a_who a_cell a_minuteOf a_standsAt i_lampMany i_people i_minute a_tape a_letter a_letterAt a_told i_taped i_at i_statements a_kept i_hasImage i_isKeeping i_cursor a_far a_shut a_queue i_queued a_litBy a_may a_row i_rowMany g0) H → va_S (gA b) s.heap H locs → lv_has ls 6 [(0, .ref h0), (1, .int v1), (2, .int v2), (3, .int v3), (4, .int v4), (5, .int v5)] → W p l e rm_X12_keepsScene s m args below meth c H locs 0 0 Q (F0 m 20 ls []) := by
  obtain ⟨hx, hb, hr, hml, hown, hts, hlocks, hKn, hBs⟩ := id X
  have hK := hKn.1
  have hin : ∀ w ∈ wsX120, w ∈ wsX12_keepsScene := fun w h => List.mem_cons_of_mem _ (List.mem_append_right _ h)
  intro n
  induction n with
  | zero =>
    intro v5 hf
    cases hf
  | succ n ih =>
    intro v5 hf hk60 hk76 H locs ls hG hS hl
    rw [L_X12_keepsScene_20.eq_2] at hf
    refine lv_iload hx hb dX12_keepsScene_20 (lv_at hl 5 rfl) ?_
    refine lv_aload_n hx hb dX12_keepsScene_22 rfl (lv_at hl 0 rfl) ?_
    refine gp_get (v := .ref (h0 + 7)) (C := RX12) (T := TX12) (N := 33) (ci := 10) hx hb hts hin hown hK hG mg_o rfl 6 (by decide) (hts _ (List.mem_of_getElem? (i := 2) rfl)) (fun _ h9 => h9) rfl dX12_keepsScene_23 ?_
    refine lv_iload_n hx hb dX12_keepsScene_26 rfl (lv_at hl 1 rfl) ?_
    obtain ⟨b27, hf⟩ := gb_ix hf
    refine gp_iald hx hb hK hG mg_scenes b27 dX12_keepsScene_27 ?_
    refine lv_icmp_ge (tgt := 76) hx hb dX12_keepsScene_28 (by decide) (fun c28 => ?_) (fun c28 => ?_)
    · have hf := gb_t c28 hf
      exact hk76 _ hf _ _ _ hG hS (lv_sub hl [0, 1, 2, 3, 4] rfl)
    · have hf := gb_f c28 hf
      refine lv_aload_n hx hb dX12_keepsScene_31 rfl (lv_at hl 0 rfl) ?_
      refine gp_get (v := .ref (h0 + 3)) (C := RX12) (T := TX12) (N := 33) (ci := 10) hx hb hts hin hown hK hG mg_o rfl 2 (by decide) (hts _ (List.mem_of_getElem? (i := 1) rfl)) (fun _ h9 => h9) rfl dX12_keepsScene_32 ?_
      refine lv_iload_n hx hb dX12_keepsScene_35 rfl (lv_at hl 1 rfl) ?_
      obtain ⟨b36, hf⟩ := gb_ix hf
      refine gp_iald hx hb hK hG mg_kind b36 dX12_keepsScene_36 ?_
      refine lv_iconst (v := 5) hx hb dX12_keepsScene_37 (by decide) ?_
      refine lv_icmp_lt (tgt := 76) hx hb dX12_keepsScene_38 (by decide) (fun c38 => ?_) (fun c38 => ?_)
      · have hf := gb_t c38 hf
        exact hk76 _ hf _ _ _ hG hS (lv_sub hl [0, 1, 2, 3, 4] rfl)
      · have hf := gb_f c38 hf
        refine lv_aload_n hx hb dX12_keepsScene_41 rfl (lv_at hl 0 rfl) ?_
        refine gp_get (v := .ref (h0 + 9)) (C := RX12) (T := TX12) (N := 33) (ci := 10) hx hb hts hin hown hK hG mg_o rfl 8 (by decide) (hts _ (List.mem_of_getElem? (i := 3) rfl)) (fun _ h9 => h9) rfl dX12_keepsScene_42 ?_
        refine lv_bipush (v := 9) hx hb dX12_keepsScene_45 (by decide) ?_
        refine lv_iload_n hx hb dX12_keepsScene_47 rfl (lv_at hl 1 rfl) ?_
        refine lv_imul hx hb dX12_keepsScene_48 ?_
        refine lv_iload hx hb dX12_keepsScene_49 (lv_at hl 5 rfl) ?_
        refine lv_iadd hx hb dX12_keepsScene_51 ?_
        obtain ⟨b52, hf⟩ := gb_ix hf
        refine gp_iald hx hb hK hG mg_cell b52 dX12_keepsScene_52 ?_
        refine lv_iload_n hx hb dX12_keepsScene_53 rfl (lv_at hl 3 rfl) ?_
        refine lv_icmp_eq (tgt := 60) hx hb dX12_keepsScene_54 (by decide) (fun c54 => ?_) (fun c54 => ?_)
        · have hf := gb_t c54 hf
          exact hk60 _ hf _ _ _ hG hS (lv_sub hl [0, 1, 2, 3, 4, 5] rfl)
        · have hf := gb_f c54 hf
          refine lv_goto (tgt := 70) hx hb dX12_keepsScene_57 (by decide) ?_
          refine lv_iinc (v := v5 + 1) (lv' := [(5, .int (v5 + 1)), (0, .ref h0), (1, .int v1), (2, .int v2), (3, .int v3), (4, .int v4)]) hx hb dX12_keepsScene_70 hl (k := 5) rfl rfl (by decide) rfl (fun ls hl => ?_)
          refine lv_goto (tgt := 20) hx hb dX12_keepsScene_73 (by decide) ?_
          exact ih _ hf hk60 hk76 _ _ _ hG hS (lv_sub hl [1, 2, 3, 4, 5, 0] rfl)
set_option maxHeartbeats 4000000 in
set_option maxRecDepth 100000 in
theorem c_X12_keepsScene {v1 : Int32} {v2 : Int32} {v3 : Int32} {R : (Nat → Int32) × (Nat → Int32) × (Nat → Int32) × (Nat → Int32)} (hf : f_X12_keepsScene a_kind a_scenes a_who a_cell a_minuteOf i_minute v1 v2 v3 = some R) : Met l yX12_keepsScene wsX12_keepsScene rm_X12_keepsScene (va_Pc [.ref h0, .int v1, .int v2, .int v3] (gPre D b M (mg cI h0 a_refused a_isWall a_kind a_lampCell a_range a_lit a_scenes a_who a_cell a_minuteOf a_standsAt i_lampMany i_people i_minute a_tape a_letter a_letterAt a_told i_taped i_at i_statements a_kept i_hasImage i_isKeeping i_cursor a_far a_shut a_queue i_queued a_litBy a_may a_row i_rowMany g0) (gTy cI cL))) (gQ D b none M (mg cI h0 a_refused a_isWall a_kind a_lampCell a_range a_lit R.1 R.2.1 R.2.2.1 R.2.2.2 a_standsAt i_lampMany i_people i_minute a_tape a_letter a_letterAt a_told i_taped i_at i_statements a_kept i_hasImage i_isKeeping i_cursor a_far a_shut a_queue i_queued a_litBy a_may a_row i_rowMany g0)) 0 0 (gA b) := by
  refine gp_met (cc := cX12_keepsScene) (maxL := 6) (ret := none) (by decide) rfl (Nat.le_of_ble_eq_true rfl) ?_
  intro p e s m below meth c X ls hG hl
  have hS : va_S (gA b) s.heap s.heap [] := va_S.rf
  obtain ⟨H, hH0⟩ : ∃ H : Heap, H = s.heap := ⟨_, rfl⟩
  rw [← hH0] at hG ⊢
  have hS : va_S (gA b) s.heap H [] := by rw [hH0]; exact va_S.rf
  obtain ⟨locs, hlo⟩ : ∃ z : List Loc, z = [] := ⟨_, rfl⟩
  rw [← hlo] at hS ⊢
  unfold f_X12_keepsScene at hf
  obtain ⟨hx, hb, hr, hml, hown, hts, hlocks, hKn, hBs⟩ := id X
  have hK := hKn.1
  have hin : ∀ w ∈ wsX120, w ∈ wsX12_keepsScene := fun w h => List.mem_cons_of_mem _ (List.mem_append_right _ h)
  have hl : lv_has ls 6 [(0, .ref h0), (1, .int v1), (2, .int v2), (3, .int v3)] := hl
  refine lv_aload_n hx hb dX12_keepsScene_0 rfl (lv_at hl 0 rfl) ?_
  refine gp_get (v := .ref (h0 + 3)) (C := RX12) (T := TX12) (N := 33) (ci := 10) hx hb hts hin hown hK hG mg_o rfl 2 (by decide) (hts _ (List.mem_of_getElem? (i := 1) rfl)) (fun _ h9 => h9) rfl dX12_keepsScene_1 ?_
  refine lv_iload_n hx hb dX12_keepsScene_4 rfl (lv_at hl 1 rfl) ?_
  obtain ⟨b5, hf⟩ := gb_ix hf
  refine gp_iald hx hb hK hG mg_kind b5 dX12_keepsScene_5 ?_
  obtain ⟨o6, hc6, hf⟩ := gb_b hf
  refine gp_callI (va_runS (As := [.int (a_kind v1.toNatClampNeg)]) (rest := []) ⟨hx, hb, hml, hown, hts⟩ (c_X12_keepsOf (l := l) (D := D) (b := b) (M := M) (cI := cI) (cL := cL) hc6) (va_cwS 1 hts gX12_keepsScene_X12_keepsOf rfl rfl rfl (by decide +kernel) ⟨Nat.le_of_ble_eq_true rfl, Nat.le_of_ble_eq_true rfl⟩) (gp_preS hKn hG) rfl rfl hl.1 rfl (lv_room (Nat.le_of_ble_eq_true rfl)) dX12_keepsScene_6 ⟨Nat.le_of_ble_eq_true rfl, Nat.le_of_ble_eq_true rfl⟩) hS (fun H locs hG hS => ?_)
  refine lv_istore (lv' := [(4, .int o6), (0, .ref h0), (1, .int v1), (2, .int v2), (3, .int v3)]) hx hb dX12_keepsScene_9 hl (by decide) rfl (fun ls hl => ?_)
  refine lv_iload hx hb dX12_keepsScene_11 (lv_at hl 0 rfl) ?_
  refine lv_if_ne (tgt := 17) hx hb dX12_keepsScene_13 (by decide) (fun c13 => ?_) (fun c13 => ?_)
  · have hf := gb_f c13 hf
    refine lv_iconst (v := 0) hx hb dX12_keepsScene_17 (by decide) ?_
    refine lv_istore (lv' := [(5, .int 0), (4, .int o6), (0, .ref h0), (1, .int v1), (2, .int v2), (3, .int v3)]) hx hb dX12_keepsScene_18 hl (by decide) rfl (fun ls hl => ?_)
    refine w_X12_keepsScene_20 X _ _ hf (fun x20_60 hf H locs ls hG hS hl => ?_) (fun x20_76 hf H locs ls hG hS hl => ?_) _ _ _ hG hS (lv_sub hl [2, 3, 4, 5, 1, 0] rfl)
    · refine lv_aload_n hx hb dX12_keepsScene_60 rfl (lv_at hl 0 rfl) ?_
      refine lv_iload_n hx hb dX12_keepsScene_61 rfl (lv_at hl 1 rfl) ?_
      refine lv_iload hx hb dX12_keepsScene_62 (lv_at hl 5 rfl) ?_
      obtain ⟨o64, hc64, hf⟩ := gb_b hf
      refine gp_callV (va_runV (As := [.int v1, .int x20_60]) (rest := []) ⟨hx, hb, hml, hown, hts⟩ (c_X12_takesOut (l := l) (D := D) (b := b) (M := M) (cI := cI) (cL := cL) hc64) (cwV 2 hts gX12_keepsScene_X12_takesOut rfl rfl rfl (by decide +kernel) ⟨Nat.le_of_ble_eq_true rfl, Nat.le_of_ble_eq_true rfl⟩) (gp_preV hKn hG mg_o rfl) rfl rfl hl.1 rfl (lv_room (Nat.le_of_ble_eq_true rfl)) dX12_keepsScene_64 ⟨Nat.le_of_ble_eq_true rfl, Nat.le_of_ble_eq_true rfl⟩) hS (fun H locs hG hS => ?_)
      refine lv_goto (tgt := 76) hx hb dX12_keepsScene_67 (by decide) ?_
      refine lv_aload_n hx hb dX12_keepsScene_76 rfl (lv_at hl 0 rfl) ?_
      refine gp_get (v := .ref (h0 + 7)) (C := RX12) (T := TX12) (N := 33) (ci := 10) hx hb hts hin hown hK hG mg_o rfl 6 (by decide) (hts _ (List.mem_of_getElem? (i := 2) rfl)) (fun _ h9 => h9) rfl dX12_keepsScene_77 ?_
      refine lv_iload_n hx hb dX12_keepsScene_80 rfl (lv_at hl 1 rfl) ?_
      obtain ⟨b81, hf⟩ := gb_ix hf
      refine gp_iald hx hb hK hG mg_scenes b81 dX12_keepsScene_81 ?_
      refine lv_iload hx hb dX12_keepsScene_82 (lv_at hl 4 rfl) ?_
      obtain ⟨j84, hj84, hf⟩ := gb_b hf
      have hJ84 : ∀ (H : Heap) (locs : List Loc) (ls : Array Slot), GP D b M (mg cI h0 a_refused a_isWall a_kind a_lampCell a_range a_lit j84.1 j84.2.1 j84.2.2.1 j84.2.2.2 a_standsAt i_lampMany i_people i_minute a_tape a_letter a_letterAt a_told i_taped i_at i_statements a_kept i_hasImage i_isKeeping i_cursor a_far a_shut a_queue i_queued a_litBy a_may a_row i_rowMany g0) H → va_S (gA b) s.heap H locs → lv_has ls 6 [(0, .ref h0), (1, .int v1), (2, .int v2), (3, .int v3)] → W p l e rm_X12_keepsScene s m [.ref h0, .int v1, .int v2, .int v3].toArray below meth c H locs 0 0 (MQ below (gQ D b none M (mg cI h0 a_refused a_isWall a_kind a_lampCell a_range a_lit R.1 R.2.1 R.2.2.1 R.2.2.2 a_standsAt i_lampMany i_people i_minute a_tape a_letter a_letterAt a_told i_taped i_at i_statements a_kept i_hasImage i_isKeeping i_cursor a_far a_shut a_queue i_queued a_litBy a_may a_row i_rowMany g0)) [.ref h0, .int v1, .int v2, .int v3].toArray s 0 0 (gA b)) (F0 m 93 ls []) := by
        intro H locs ls hG hS hl
        refine lv_bipush (v := 9) hx hb dX12_keepsScene_93 (by decide) ?_
        refine lv_iload_n hx hb dX12_keepsScene_95 rfl (lv_at hl 1 rfl) ?_
        refine lv_imul hx hb dX12_keepsScene_96 ?_
        refine lv_aload_n hx hb dX12_keepsScene_97 rfl (lv_at hl 0 rfl) ?_
        refine gp_get (v := .ref (h0 + 7)) (C := RX12) (T := TX12) (N := 33) (ci := 10) hx hb hts hin hown hK hG mg_o rfl 6 (by decide) (hts _ (List.mem_of_getElem? (i := 2) rfl)) (fun _ h9 => h9) rfl dX12_keepsScene_98 ?_
        refine lv_iload_n hx hb dX12_keepsScene_101 rfl (lv_at hl 1 rfl) ?_
        obtain ⟨b102, hf⟩ := gb_ix hf
        refine gp_iald hx hb hK hG mg_scenes b102 dX12_keepsScene_102 ?_
        refine lv_iadd hx hb dX12_keepsScene_103 ?_
        refine lv_istore (lv' := [(5, .int ((9 * v1) + (j84.1 v1.toNatClampNeg))), (0, .ref h0), (1, .int v1), (2, .int v2), (3, .int v3)]) hx hb dX12_keepsScene_104 hl (by decide) rfl (fun ls hl => ?_)
        refine lv_aload_n hx hb dX12_keepsScene_106 rfl (lv_at hl 1 rfl) ?_
        refine gp_get (v := .ref (h0 + 8)) (C := RX12) (T := TX12) (N := 33) (ci := 10) hx hb hts hin hown hK hG mg_o rfl 7 (by decide) (hts _ (List.mem_of_getElem? (i := 4) rfl)) (fun _ h9 => h9) rfl dX12_keepsScene_107 ?_
        refine lv_iload hx hb dX12_keepsScene_110 (lv_at hl 0 rfl) ?_
        refine lv_aload_n hx hb dX12_keepsScene_112 rfl (lv_at hl 1 rfl) ?_
        refine gp_get (v := .ref (h0 + 3)) (C := RX12) (T := TX12) (N := 33) (ci := 10) hx hb hts hin hown hK hG mg_o rfl 2 (by decide) (hts _ (List.mem_of_getElem? (i := 1) rfl)) (fun _ h9 => h9) rfl dX12_keepsScene_113 ?_
        refine lv_iload_n hx hb dX12_keepsScene_116 rfl (lv_at hl 2 rfl) ?_
        obtain ⟨b117, hf⟩ := gb_ix hf
        refine gp_iald hx hb hK hG mg_kind b117 dX12_keepsScene_117 ?_
        obtain ⟨o118, hc118, hf⟩ := gb_b hf
        refine gp_callI (va_runS (As := [.int (a_kind v1.toNatClampNeg)]) (rest := [.int ((9 * v1) + (j84.1 v1.toNatClampNeg)), .ref (h0 + 8)]) ⟨hx, hb, hml, hown, hts⟩ (c_X12_isNameless (l := l) (D := D) (b := b) (M := M) (cI := cI) (cL := cL) hc118) (va_cwS 1 hts gX12_keepsScene_X12_isNameless rfl rfl rfl (by decide +kernel) ⟨Nat.le_of_ble_eq_true rfl, Nat.le_of_ble_eq_true rfl⟩) (gp_preS hKn hG) rfl rfl hl.1 rfl (lv_room (Nat.le_of_ble_eq_true rfl)) dX12_keepsScene_118 ⟨Nat.le_of_ble_eq_true rfl, Nat.le_of_ble_eq_true rfl⟩) hS (fun H locs hG hS => ?_)
        have hJ121 : ∀ Z : Int32, Z = (if o118 = 0 then v2 else 9) → W p l e rm_X12_keepsScene s m [.ref h0, .int v1, .int v2, .int v3].toArray below meth c H locs 0 0 (MQ below (gQ D b none M (mg cI h0 a_refused a_isWall a_kind a_lampCell a_range a_lit R.1 R.2.1 R.2.2.1 R.2.2.2 a_standsAt i_lampMany i_people i_minute a_tape a_letter a_letterAt a_told i_taped i_at i_statements a_kept i_hasImage i_isKeeping i_cursor a_far a_shut a_queue i_queued a_litBy a_may a_row i_rowMany g0)) [.ref h0, .int v1, .int v2, .int v3].toArray s 0 0 (gA b)) (F0 m 130 ls (.int Z :: [.int ((9 * v1) + (j84.1 v1.toNatClampNeg)), .ref (h0 + 8)])) := by
          intro Z hZ
          subst hZ
          obtain ⟨b130, hf⟩ := gb_ix hf
          refine gp_iast hx hb hK hG hS mg_who b130 mu_who dX12_keepsScene_130 (fun H locs hG hS => ?_)
          refine lv_aload_n hx hb dX12_keepsScene_131 rfl (lv_at hl 1 rfl) ?_
          refine gp_get (v := .ref (h0 + 9)) (C := RX12) (T := TX12) (N := 33) (ci := 10) hx hb hts hin hown hK hG mg_o rfl 8 (by decide) (hts _ (List.mem_of_getElem? (i := 3) rfl)) (fun _ h9 => h9) rfl dX12_keepsScene_132 ?_
          refine lv_iload hx hb dX12_keepsScene_135 (lv_at hl 0 rfl) ?_
          refine lv_iload_n hx hb dX12_keepsScene_137 rfl (lv_at hl 4 rfl) ?_
          obtain ⟨b138, hf⟩ := gb_ix hf
          refine gp_iast hx hb hK hG hS mg_cell b138 mu_cell dX12_keepsScene_138 (fun H locs hG hS => ?_)
          refine lv_aload_n hx hb dX12_keepsScene_139 rfl (lv_at hl 1 rfl) ?_
          refine gp_get (v := .ref (h0 + 10)) (C := RX12) (T := TX12) (N := 33) (ci := 10) hx hb hts hin hown hK hG mg_o rfl 9 (by decide) (hts _ (List.mem_of_getElem? (i := 5) rfl)) (fun _ h9 => h9) rfl dX12_keepsScene_140 ?_
          refine lv_iload hx hb dX12_keepsScene_143 (lv_at hl 0 rfl) ?_
          refine lv_aload_n hx hb dX12_keepsScene_145 rfl (lv_at hl 1 rfl) ?_
          refine gp_get (v := .int i_minute) (C := RX12) (T := TX12) (N := 33) (ci := 10) hx hb hts hin hown hK hG mg_o rfl 13 (by decide) (hts _ (List.mem_of_getElem? (i := 6) rfl)) (fun _ h9 => h9) rfl dX12_keepsScene_146 ?_
          obtain ⟨b149, hf⟩ := gb_ix hf
          refine gp_iast hx hb hK hG hS mg_minuteOf b149 mu_minuteOf dX12_keepsScene_149 (fun H locs hG hS => ?_)
          refine lv_aload_n hx hb dX12_keepsScene_150 rfl (lv_at hl 1 rfl) ?_
          refine gp_get (v := .ref (h0 + 7)) (C := RX12) (T := TX12) (N := 33) (ci := 10) hx hb hts hin hown hK hG mg_o rfl 6 (by decide) (hts _ (List.mem_of_getElem? (i := 2) rfl)) (fun _ h9 => h9) rfl dX12_keepsScene_151 ?_
          refine lv_iload_n hx hb dX12_keepsScene_154 rfl (lv_at hl 2 rfl) ?_
          refine lv_dup2_11 hx hb dX12_keepsScene_155 rfl rfl ?_
          obtain ⟨b156, hf⟩ := gb_ix hf
          refine gp_iald hx hb hK hG mg_scenes b156 dX12_keepsScene_156 ?_
          refine lv_iconst (v := 1) hx hb dX12_keepsScene_157 (by decide) ?_
          refine lv_iadd hx hb dX12_keepsScene_158 ?_
          obtain ⟨b159, hf⟩ := gb_ix hf
          refine gp_iast hx hb hK hG hS mg_scenes b159 mu_scenes dX12_keepsScene_159 (fun H locs hG hS => ?_)
          have hf := Option.some.inj hf
          subst hf
          exact gp_retV hx hb hr hlocks hG hS (Nat.le_refl _) (Nat.le_refl _) dX12_keepsScene_160
        refine lv_if_eq (tgt := 129) hx hb dX12_keepsScene_121 (by decide) (fun c121 => ?_) (fun c121 => ?_)
        · rw [if_pos c121] at hJ121
          refine lv_iload_n hx hb dX12_keepsScene_129 rfl (lv_at hl 3 rfl) ?_
          exact hJ121 _ rfl
        · rw [if_neg c121] at hJ121
          refine lv_bipush (v := 9) hx hb dX12_keepsScene_124 (by decide) ?_
          refine lv_goto (tgt := 130) hx hb dX12_keepsScene_126 (by decide) ?_
          exact hJ121 _ rfl
      refine lv_icmp_ne (tgt := 93) hx hb dX12_keepsScene_84 (by decide) (fun c84 => ?_) (fun c84 => ?_)
      · have hj84 := gb_f c84 hj84
        have hj84 := Option.some.inj hj84
        subst hj84
        exact hJ84 H locs ls hG hS (lv_sub hl [0, 1, 2, 3] rfl)
      · have hj84 := gb_t c84 hj84
        refine lv_aload_n hx hb dX12_keepsScene_87 rfl (lv_at hl 0 rfl) ?_
        refine lv_iload_n hx hb dX12_keepsScene_88 rfl (lv_at hl 1 rfl) ?_
        refine lv_iconst (v := 0) hx hb dX12_keepsScene_89 (by decide) ?_
        obtain ⟨o90, hc90, hj84⟩ := gb_b hj84
        refine gp_callV (va_runV (As := [.int v1, .int 0]) (rest := []) ⟨hx, hb, hml, hown, hts⟩ (c_X12_takesOut (l := l) (D := D) (b := b) (M := M) (cI := cI) (cL := cL) hc90) (cwV 2 hts gX12_keepsScene_X12_takesOut rfl rfl rfl (by decide +kernel) ⟨Nat.le_of_ble_eq_true rfl, Nat.le_of_ble_eq_true rfl⟩) (gp_preV hKn hG mg_o rfl) rfl rfl hl.1 rfl (lv_room (Nat.le_of_ble_eq_true rfl)) dX12_keepsScene_90 ⟨Nat.le_of_ble_eq_true rfl, Nat.le_of_ble_eq_true rfl⟩) hS (fun H locs hG hS => ?_)
        have hj84 := Option.some.inj hj84
        subst hj84
        exact hJ84 H locs ls hG hS (lv_sub hl [0, 1, 2, 3] rfl)
    · refine lv_aload_n hx hb dX12_keepsScene_76 rfl (lv_at hl 0 rfl) ?_
      refine gp_get (v := .ref (h0 + 7)) (C := RX12) (T := TX12) (N := 33) (ci := 10) hx hb hts hin hown hK hG mg_o rfl 6 (by decide) (hts _ (List.mem_of_getElem? (i := 2) rfl)) (fun _ h9 => h9) rfl dX12_keepsScene_77 ?_
      refine lv_iload_n hx hb dX12_keepsScene_80 rfl (lv_at hl 1 rfl) ?_
      obtain ⟨b81, hf⟩ := gb_ix hf
      refine gp_iald hx hb hK hG mg_scenes b81 dX12_keepsScene_81 ?_
      refine lv_iload hx hb dX12_keepsScene_82 (lv_at hl 4 rfl) ?_
      obtain ⟨j84, hj84, hf⟩ := gb_b hf
      have hJ84 : ∀ (H : Heap) (locs : List Loc) (ls : Array Slot), GP D b M (mg cI h0 a_refused a_isWall a_kind a_lampCell a_range a_lit j84.1 j84.2.1 j84.2.2.1 j84.2.2.2 a_standsAt i_lampMany i_people i_minute a_tape a_letter a_letterAt a_told i_taped i_at i_statements a_kept i_hasImage i_isKeeping i_cursor a_far a_shut a_queue i_queued a_litBy a_may a_row i_rowMany g0) H → va_S (gA b) s.heap H locs → lv_has ls 6 [(0, .ref h0), (1, .int v1), (2, .int v2), (3, .int v3)] → W p l e rm_X12_keepsScene s m [.ref h0, .int v1, .int v2, .int v3].toArray below meth c H locs 0 0 (MQ below (gQ D b none M (mg cI h0 a_refused a_isWall a_kind a_lampCell a_range a_lit R.1 R.2.1 R.2.2.1 R.2.2.2 a_standsAt i_lampMany i_people i_minute a_tape a_letter a_letterAt a_told i_taped i_at i_statements a_kept i_hasImage i_isKeeping i_cursor a_far a_shut a_queue i_queued a_litBy a_may a_row i_rowMany g0)) [.ref h0, .int v1, .int v2, .int v3].toArray s 0 0 (gA b)) (F0 m 93 ls []) := by
        intro H locs ls hG hS hl
        refine lv_bipush (v := 9) hx hb dX12_keepsScene_93 (by decide) ?_
        refine lv_iload_n hx hb dX12_keepsScene_95 rfl (lv_at hl 1 rfl) ?_
        refine lv_imul hx hb dX12_keepsScene_96 ?_
        refine lv_aload_n hx hb dX12_keepsScene_97 rfl (lv_at hl 0 rfl) ?_
        refine gp_get (v := .ref (h0 + 7)) (C := RX12) (T := TX12) (N := 33) (ci := 10) hx hb hts hin hown hK hG mg_o rfl 6 (by decide) (hts _ (List.mem_of_getElem? (i := 2) rfl)) (fun _ h9 => h9) rfl dX12_keepsScene_98 ?_
        refine lv_iload_n hx hb dX12_keepsScene_101 rfl (lv_at hl 1 rfl) ?_
        obtain ⟨b102, hf⟩ := gb_ix hf
        refine gp_iald hx hb hK hG mg_scenes b102 dX12_keepsScene_102 ?_
        refine lv_iadd hx hb dX12_keepsScene_103 ?_
        refine lv_istore (lv' := [(5, .int ((9 * v1) + (j84.1 v1.toNatClampNeg))), (0, .ref h0), (1, .int v1), (2, .int v2), (3, .int v3)]) hx hb dX12_keepsScene_104 hl (by decide) rfl (fun ls hl => ?_)
        refine lv_aload_n hx hb dX12_keepsScene_106 rfl (lv_at hl 1 rfl) ?_
        refine gp_get (v := .ref (h0 + 8)) (C := RX12) (T := TX12) (N := 33) (ci := 10) hx hb hts hin hown hK hG mg_o rfl 7 (by decide) (hts _ (List.mem_of_getElem? (i := 4) rfl)) (fun _ h9 => h9) rfl dX12_keepsScene_107 ?_
        refine lv_iload hx hb dX12_keepsScene_110 (lv_at hl 0 rfl) ?_
        refine lv_aload_n hx hb dX12_keepsScene_112 rfl (lv_at hl 1 rfl) ?_
        refine gp_get (v := .ref (h0 + 3)) (C := RX12) (T := TX12) (N := 33) (ci := 10) hx hb hts hin hown hK hG mg_o rfl 2 (by decide) (hts _ (List.mem_of_getElem? (i := 1) rfl)) (fun _ h9 => h9) rfl dX12_keepsScene_113 ?_
        refine lv_iload_n hx hb dX12_keepsScene_116 rfl (lv_at hl 2 rfl) ?_
        obtain ⟨b117, hf⟩ := gb_ix hf
        refine gp_iald hx hb hK hG mg_kind b117 dX12_keepsScene_117 ?_
        obtain ⟨o118, hc118, hf⟩ := gb_b hf
        refine gp_callI (va_runS (As := [.int (a_kind v1.toNatClampNeg)]) (rest := [.int ((9 * v1) + (j84.1 v1.toNatClampNeg)), .ref (h0 + 8)]) ⟨hx, hb, hml, hown, hts⟩ (c_X12_isNameless (l := l) (D := D) (b := b) (M := M) (cI := cI) (cL := cL) hc118) (va_cwS 1 hts gX12_keepsScene_X12_isNameless rfl rfl rfl (by decide +kernel) ⟨Nat.le_of_ble_eq_true rfl, Nat.le_of_ble_eq_true rfl⟩) (gp_preS hKn hG) rfl rfl hl.1 rfl (lv_room (Nat.le_of_ble_eq_true rfl)) dX12_keepsScene_118 ⟨Nat.le_of_ble_eq_true rfl, Nat.le_of_ble_eq_true rfl⟩) hS (fun H locs hG hS => ?_)
        have hJ121 : ∀ Z : Int32, Z = (if o118 = 0 then v2 else 9) → W p l e rm_X12_keepsScene s m [.ref h0, .int v1, .int v2, .int v3].toArray below meth c H locs 0 0 (MQ below (gQ D b none M (mg cI h0 a_refused a_isWall a_kind a_lampCell a_range a_lit R.1 R.2.1 R.2.2.1 R.2.2.2 a_standsAt i_lampMany i_people i_minute a_tape a_letter a_letterAt a_told i_taped i_at i_statements a_kept i_hasImage i_isKeeping i_cursor a_far a_shut a_queue i_queued a_litBy a_may a_row i_rowMany g0)) [.ref h0, .int v1, .int v2, .int v3].toArray s 0 0 (gA b)) (F0 m 130 ls (.int Z :: [.int ((9 * v1) + (j84.1 v1.toNatClampNeg)), .ref (h0 + 8)])) := by
          intro Z hZ
          subst hZ
          obtain ⟨b130, hf⟩ := gb_ix hf
          refine gp_iast hx hb hK hG hS mg_who b130 mu_who dX12_keepsScene_130 (fun H locs hG hS => ?_)
          refine lv_aload_n hx hb dX12_keepsScene_131 rfl (lv_at hl 1 rfl) ?_
          refine gp_get (v := .ref (h0 + 9)) (C := RX12) (T := TX12) (N := 33) (ci := 10) hx hb hts hin hown hK hG mg_o rfl 8 (by decide) (hts _ (List.mem_of_getElem? (i := 3) rfl)) (fun _ h9 => h9) rfl dX12_keepsScene_132 ?_
          refine lv_iload hx hb dX12_keepsScene_135 (lv_at hl 0 rfl) ?_
          refine lv_iload_n hx hb dX12_keepsScene_137 rfl (lv_at hl 4 rfl) ?_
          obtain ⟨b138, hf⟩ := gb_ix hf
          refine gp_iast hx hb hK hG hS mg_cell b138 mu_cell dX12_keepsScene_138 (fun H locs hG hS => ?_)
          refine lv_aload_n hx hb dX12_keepsScene_139 rfl (lv_at hl 1 rfl) ?_
          refine gp_get (v := .ref (h0 + 10)) (C := RX12) (T := TX12) (N := 33) (ci := 10) hx hb hts hin hown hK hG mg_o rfl 9 (by decide) (hts _ (List.mem_of_getElem? (i := 5) rfl)) (fun _ h9 => h9) rfl dX12_keepsScene_140 ?_
          refine lv_iload hx hb dX12_keepsScene_143 (lv_at hl 0 rfl) ?_
          refine lv_aload_n hx hb dX12_keepsScene_145 rfl (lv_at hl 1 rfl) ?_
          refine gp_get (v := .int i_minute) (C := RX12) (T := TX12) (N := 33) (ci := 10) hx hb hts hin hown hK hG mg_o rfl 13 (by decide) (hts _ (List.mem_of_getElem? (i := 6) rfl)) (fun _ h9 => h9) rfl dX12_keepsScene_146 ?_
          obtain ⟨b149, hf⟩ := gb_ix hf
          refine gp_iast hx hb hK hG hS mg_minuteOf b149 mu_minuteOf dX12_keepsScene_149 (fun H locs hG hS => ?_)
          refine lv_aload_n hx hb dX12_keepsScene_150 rfl (lv_at hl 1 rfl) ?_
          refine gp_get (v := .ref (h0 + 7)) (C := RX12) (T := TX12) (N := 33) (ci := 10) hx hb hts hin hown hK hG mg_o rfl 6 (by decide) (hts _ (List.mem_of_getElem? (i := 2) rfl)) (fun _ h9 => h9) rfl dX12_keepsScene_151 ?_
          refine lv_iload_n hx hb dX12_keepsScene_154 rfl (lv_at hl 2 rfl) ?_
          refine lv_dup2_11 hx hb dX12_keepsScene_155 rfl rfl ?_
          obtain ⟨b156, hf⟩ := gb_ix hf
          refine gp_iald hx hb hK hG mg_scenes b156 dX12_keepsScene_156 ?_
          refine lv_iconst (v := 1) hx hb dX12_keepsScene_157 (by decide) ?_
          refine lv_iadd hx hb dX12_keepsScene_158 ?_
          obtain ⟨b159, hf⟩ := gb_ix hf
          refine gp_iast hx hb hK hG hS mg_scenes b159 mu_scenes dX12_keepsScene_159 (fun H locs hG hS => ?_)
          have hf := Option.some.inj hf
          subst hf
          exact gp_retV hx hb hr hlocks hG hS (Nat.le_refl _) (Nat.le_refl _) dX12_keepsScene_160
        refine lv_if_eq (tgt := 129) hx hb dX12_keepsScene_121 (by decide) (fun c121 => ?_) (fun c121 => ?_)
        · rw [if_pos c121] at hJ121
          refine lv_iload_n hx hb dX12_keepsScene_129 rfl (lv_at hl 3 rfl) ?_
          exact hJ121 _ rfl
        · rw [if_neg c121] at hJ121
          refine lv_bipush (v := 9) hx hb dX12_keepsScene_124 (by decide) ?_
          refine lv_goto (tgt := 130) hx hb dX12_keepsScene_126 (by decide) ?_
          exact hJ121 _ rfl
      refine lv_icmp_ne (tgt := 93) hx hb dX12_keepsScene_84 (by decide) (fun c84 => ?_) (fun c84 => ?_)
      · have hj84 := gb_f c84 hj84
        have hj84 := Option.some.inj hj84
        subst hj84
        exact hJ84 H locs ls hG hS (lv_sub hl [0, 1, 2, 3] rfl)
      · have hj84 := gb_t c84 hj84
        refine lv_aload_n hx hb dX12_keepsScene_87 rfl (lv_at hl 0 rfl) ?_
        refine lv_iload_n hx hb dX12_keepsScene_88 rfl (lv_at hl 1 rfl) ?_
        refine lv_iconst (v := 0) hx hb dX12_keepsScene_89 (by decide) ?_
        obtain ⟨o90, hc90, hj84⟩ := gb_b hj84
        refine gp_callV (va_runV (As := [.int v1, .int 0]) (rest := []) ⟨hx, hb, hml, hown, hts⟩ (c_X12_takesOut (l := l) (D := D) (b := b) (M := M) (cI := cI) (cL := cL) hc90) (cwV 2 hts gX12_keepsScene_X12_takesOut rfl rfl rfl (by decide +kernel) ⟨Nat.le_of_ble_eq_true rfl, Nat.le_of_ble_eq_true rfl⟩) (gp_preV hKn hG mg_o rfl) rfl rfl hl.1 rfl (lv_room (Nat.le_of_ble_eq_true rfl)) dX12_keepsScene_90 ⟨Nat.le_of_ble_eq_true rfl, Nat.le_of_ble_eq_true rfl⟩) hS (fun H locs hG hS => ?_)
        have hj84 := Option.some.inj hj84
        subst hj84
        exact hJ84 H locs ls hG hS (lv_sub hl [0, 1, 2, 3] rfl)
  · have hf := gb_t c13 hf
    have hf := Option.some.inj hf
    subst hf
    exact gp_retV hx hb hr hlocks hG hS (Nat.le_refl _) (Nat.le_refl _) dX12_keepsScene_16
-- X12_stepsTo
abbrev rm_X12_stepsTo : Room := { frames := 4, cells := 0, slots := 0, locals := 90 }
set_option maxHeartbeats 4000000 in
set_option maxRecDepth 100000 in
theorem w_X12_stepsTo_23 {α : Type} {R : α} {K67 : ((Nat → Int32) × (Nat → Int32) × (Nat → Int32) × (Nat → Int32)) → Option α} {v1 : Int32} {v2 : Int32} (X : gC p s m args meth c cX12_stepsTo 4 none wsX12_stepsTo RX12 D b (gTy cI cL)) : ∀ (n : Nat) (v3 : Int32) (a_scenes : Nat → Int32) (a_who : Nat → Int32) (a_cell : Nat → Int32) (a_minuteOf : Nat → Int32), L_X12_stepsTo_23 K67 a_kind a_lit i_lampMany i_minute a_litBy v1 v2 n v3 a_scenes a_who a_cell a_minuteOf = some R → (∀ (x : (Nat → Int32) × (Nat → Int32) × (Nat → Int32) × (Nat → Int32)), K67 x = some R → ∀ (H : Heap) (locs : List Loc) (ls : Array Slot), GP D b M (mg cI h0 a_refused a_isWall a_kind a_lampCell a_range a_lit x.1 x.2.1 x.2.2.1 x.2.2.2 a_standsAt i_lampMany i_people i_minute a_tape a_letter a_letterAt a_told i_taped i_at i_statements a_kept i_hasImage i_isKeeping i_cursor a_far a_shut a_queue i_queued a_litBy a_may a_row i_rowMany g0) H → va_S (gA b) s.heap H locs → lv_has ls 4 [] → W p l e rm_X12_stepsTo s m args below meth c H locs 0 0 Q (F0 m 67 ls [])) → ∀ (H : Heap) (locs : List Loc) (ls : Array Slot), GP D b M (mg cI h0 a_refused a_isWall a_kind a_lampCell a_range a_lit a_scenes a_who a_cell a_minuteOf a_standsAt i_lampMany i_people i_minute a_tape a_letter a_letterAt a_told i_taped i_at i_statements a_kept i_hasImage i_isKeeping i_cursor a_far a_shut a_queue i_queued a_litBy a_may a_row i_rowMany g0) H → va_S (gA b) s.heap H locs → lv_has ls 4 [(0, .ref h0), (1, .int v1), (2, .int v2), (3, .int v3)] → W p l e rm_X12_stepsTo s m args below meth c H locs 0 0 Q (F0 m 23 ls []) := by
  obtain ⟨hx, hb, hr, hml, hown, hts, hlocks, hKn, hBs⟩ := id X
  have hK := hKn.1
  have hin : ∀ w ∈ wsX120, w ∈ wsX12_stepsTo := fun w h => List.mem_cons_of_mem _ (List.mem_append_right _ h)
  intro n
  induction n with
  | zero =>
    intro v3 a_scenes a_who a_cell a_minuteOf hf
    cases hf
  | succ n ih =>
    intro v3 a_scenes a_who a_cell a_minuteOf hf hk67 H locs ls hG hS hl
    rw [L_X12_stepsTo_23.eq_2] at hf
    refine lv_iload_n hx hb dX12_stepsTo_23 rfl (lv_at hl 3 rfl) ?_
    refine lv_aload_n hx hb dX12_stepsTo_24 rfl (lv_at hl 0 rfl) ?_
    refine gp_get (v := .int i_lampMany) (C := RX12) (T := TX12) (N := 33) (ci := 10) hx hb hts hin hown hK hG mg_o rfl 11 (by decide) (hts _ (List.mem_of_getElem? (i := 3) rfl)) (fun _ h9 => h9) rfl dX12_stepsTo_25 ?_
    refine lv_icmp_ge (tgt := 67) hx hb dX12_stepsTo_28 (by decide) (fun c28 => ?_) (fun c28 => ?_)
    · have hf := gb_t c28 hf
      exact hk67 _ hf _ _ _ hG hS (lv_sub hl [] rfl)
    · have hf := gb_f c28 hf
      refine lv_aload_n hx hb dX12_stepsTo_31 rfl (lv_at hl 0 rfl) ?_
      refine gp_get (v := .ref (h0 + 6)) (C := RX12) (T := TX12) (N := 33) (ci := 10) hx hb hts hin hown hK hG mg_o rfl 5 (by decide) (hts _ (List.mem_of_getElem? (i := 4) rfl)) (fun _ h9 => h9) rfl dX12_stepsTo_32 ?_
      refine lv_iload_n hx hb dX12_stepsTo_35 rfl (lv_at hl 3 rfl) ?_
      obtain ⟨b36, hf⟩ := gb_ix hf
      refine gp_iald hx hb hK hG mg_lit b36 dX12_stepsTo_36 ?_
      refine lv_iconst (v := 1) hx hb dX12_stepsTo_37 (by decide) ?_
      obtain ⟨j38, hj38, hf⟩ := gb_b hf
      have hJ38 : ∀ (H : Heap) (locs : List Loc) (ls : Array Slot), GP D b M (mg cI h0 a_refused a_isWall a_kind a_lampCell a_range a_lit j38.1 j38.2.1 j38.2.2.1 j38.2.2.2 a_standsAt i_lampMany i_people i_minute a_tape a_letter a_letterAt a_told i_taped i_at i_statements a_kept i_hasImage i_isKeeping i_cursor a_far a_shut a_queue i_queued a_litBy a_may a_row i_rowMany g0) H → va_S (gA b) s.heap H locs → lv_has ls 4 [(0, .ref h0), (1, .int v1), (2, .int v2), (3, .int v3)] → W p l e rm_X12_stepsTo s m args below meth c H locs 0 0 Q (F0 m 61 ls []) := by
        intro H locs ls hG hS hl
        refine lv_iinc (v := v3 + 1) (lv' := [(3, .int (v3 + 1)), (0, .ref h0), (1, .int v1), (2, .int v2)]) hx hb dX12_stepsTo_61 hl (k := 3) rfl rfl (by decide) rfl (fun ls hl => ?_)
        refine lv_goto (tgt := 23) hx hb dX12_stepsTo_64 (by decide) ?_
        exact ih _ _ _ _ _ hf hk67 _ _ _ hG hS (lv_sub hl [1, 2, 3, 0] rfl)
      refine lv_icmp_ne (tgt := 61) hx hb dX12_stepsTo_38 (by decide) (fun c38 => ?_) (fun c38 => ?_)
      · have hj38 := gb_f c38 hj38
        have hj38 := Option.some.inj hj38
        subst hj38
        exact hJ38 H locs ls hG hS (lv_sub hl [0, 1, 2, 3] rfl)
      · have hj38 := gb_t c38 hj38
        refine lv_aload_n hx hb dX12_stepsTo_41 rfl (lv_at hl 0 rfl) ?_
        refine gp_get (v := .ref (h0 + 20)) (C := RX12) (T := TX12) (N := 33) (ci := 10) hx hb hts hin hown hK hG mg_o rfl 29 (by decide) (hts _ (List.mem_of_getElem? (i := 5) rfl)) (fun _ h9 => h9) rfl dX12_stepsTo_42 ?_
        refine lv_iload_n hx hb dX12_stepsTo_45 rfl (lv_at hl 2 rfl) ?_
        obtain ⟨b46, hj38⟩ := gb_ix hj38
        refine gp_iald hx hb hK hG mg_litBy b46 dX12_stepsTo_46 ?_
        refine lv_iload_n hx hb dX12_stepsTo_47 rfl (lv_at hl 3 rfl) ?_
        obtain ⟨o48, hc48, hj38⟩ := gb_b hj38
        refine gp_callI (va_runS (As := [.int (a_litBy v2.toNatClampNeg), .int v3]) (rest := []) ⟨hx, hb, hml, hown, hts⟩ (c_X12_has (l := l) (D := D) (b := b) (M := M) (cI := cI) (cL := cL) hc48) (va_cwS 2 hts gX12_stepsTo_X12_has rfl rfl rfl (by decide +kernel) ⟨Nat.le_of_ble_eq_true rfl, Nat.le_of_ble_eq_true rfl⟩) (gp_preS hKn hG) rfl rfl hl.1 rfl (lv_room (Nat.le_of_ble_eq_true rfl)) dX12_stepsTo_48 ⟨Nat.le_of_ble_eq_true rfl, Nat.le_of_ble_eq_true rfl⟩) hS (fun H locs hG hS => ?_)
        refine lv_if_eq (tgt := 61) hx hb dX12_stepsTo_51 (by decide) (fun c51 => ?_) (fun c51 => ?_)
        · have hj38 := gb_t c51 hj38
          have hj38 := Option.some.inj hj38
          subst hj38
          exact hJ38 H locs ls hG hS (lv_sub hl [0, 1, 2, 3] rfl)
        · have hj38 := gb_f c51 hj38
          refine lv_aload_n hx hb dX12_stepsTo_54 rfl (lv_at hl 0 rfl) ?_
          refine lv_iload_n hx hb dX12_stepsTo_55 rfl (lv_at hl 3 rfl) ?_
          refine lv_iload_n hx hb dX12_stepsTo_56 rfl (lv_at hl 1 rfl) ?_
          refine lv_iload_n hx hb dX12_stepsTo_57 rfl (lv_at hl 2 rfl) ?_
          obtain ⟨o58, hc58, hj38⟩ := gb_b hj38
          refine gp_callV (va_runV (As := [.int v3, .int v1, .int v2]) (rest := []) ⟨hx, hb, hml, hown, hts⟩ (c_X12_keepsScene (l := l) (D := D) (b := b) (M := M) (cI := cI) (cL := cL) hc58) (cwV 3 hts gX12_stepsTo_X12_keepsScene rfl rfl rfl (by decide +kernel) ⟨Nat.le_of_ble_eq_true rfl, Nat.le_of_ble_eq_true rfl⟩) (gp_preV hKn hG mg_o rfl) rfl rfl hl.1 rfl (lv_room (Nat.le_of_ble_eq_true rfl)) dX12_stepsTo_58 ⟨Nat.le_of_ble_eq_true rfl, Nat.le_of_ble_eq_true rfl⟩) hS (fun H locs hG hS => ?_)
          have hj38 := Option.some.inj hj38
          subst hj38
          exact hJ38 H locs ls hG hS (lv_sub hl [0, 1, 2, 3] rfl)
set_option maxHeartbeats 4000000 in
set_option maxRecDepth 100000 in
theorem c_X12_stepsTo {v1 : Int32} {v2 : Int32} {R : (Nat → Int32) × (Nat → Int32) × (Nat → Int32) × (Nat → Int32) × (Nat → Int32) × Int32 × (Nat → Int32) × (Nat → Int32) × (Nat → Int32) × Int32 × (Nat → Int32)} (hf : f_X12_stepsTo a_isWall a_kind a_lampCell a_range a_lit a_scenes a_who a_cell a_minuteOf a_standsAt i_lampMany i_people i_minute a_far a_shut a_queue i_queued a_litBy v1 v2 = some R) : Met l yX12_stepsTo wsX12_stepsTo rm_X12_stepsTo (va_Pc [.ref h0, .int v1, .int v2] (gPre D b M (mg cI h0 a_refused a_isWall a_kind a_lampCell a_range a_lit a_scenes a_who a_cell a_minuteOf a_standsAt i_lampMany i_people i_minute a_tape a_letter a_letterAt a_told i_taped i_at i_statements a_kept i_hasImage i_isKeeping i_cursor a_far a_shut a_queue i_queued a_litBy a_may a_row i_rowMany g0) (gTy cI cL))) (gQ D b none M (mg cI h0 a_refused a_isWall a_kind a_lampCell a_range a_lit R.1 R.2.1 R.2.2.1 R.2.2.2.1 R.2.2.2.2.1 i_lampMany i_people R.2.2.2.2.2.1 a_tape a_letter a_letterAt a_told i_taped i_at i_statements a_kept i_hasImage i_isKeeping i_cursor R.2.2.2.2.2.2.1 R.2.2.2.2.2.2.2.1 R.2.2.2.2.2.2.2.2.1 R.2.2.2.2.2.2.2.2.2.1 R.2.2.2.2.2.2.2.2.2.2 a_may a_row i_rowMany g0)) 0 0 (gA b) := by
  refine gp_met (cc := cX12_stepsTo) (maxL := 4) (ret := none) (by decide) rfl (Nat.le_of_ble_eq_true rfl) ?_
  intro p e s m below meth c X ls hG hl
  have hS : va_S (gA b) s.heap s.heap [] := va_S.rf
  obtain ⟨H, hH0⟩ : ∃ H : Heap, H = s.heap := ⟨_, rfl⟩
  rw [← hH0] at hG ⊢
  have hS : va_S (gA b) s.heap H [] := by rw [hH0]; exact va_S.rf
  obtain ⟨locs, hlo⟩ : ∃ z : List Loc, z = [] := ⟨_, rfl⟩
  rw [← hlo] at hS ⊢
  unfold f_X12_stepsTo at hf
  obtain ⟨hx, hb, hr, hml, hown, hts, hlocks, hKn, hBs⟩ := id X
  have hK := hKn.1
  have hin : ∀ w ∈ wsX120, w ∈ wsX12_stepsTo := fun w h => List.mem_cons_of_mem _ (List.mem_append_right _ h)
  have hl : lv_has ls 4 [(0, .ref h0), (1, .int v1), (2, .int v2)] := hl
  refine lv_aload_n hx hb dX12_stepsTo_0 rfl (lv_at hl 0 rfl) ?_
  refine gp_get (v := .ref (h0 + 11)) (C := RX12) (T := TX12) (N := 33) (ci := 10) hx hb hts hin hown hK hG mg_o rfl 10 (by decide) (hts _ (List.mem_of_getElem? (i := 1) rfl)) (fun _ h9 => h9) rfl dX12_stepsTo_1 ?_
  refine lv_iload_n hx hb dX12_stepsTo_4 rfl (lv_at hl 1 rfl) ?_
  refine lv_iload_n hx hb dX12_stepsTo_5 rfl (lv_at hl 2 rfl) ?_
  obtain ⟨b6, hf⟩ := gb_ix hf
  refine gp_iast hx hb hK hG hS mg_standsAt b6 mu_standsAt dX12_stepsTo_6 (fun H locs hG hS => ?_)
  refine lv_aload_n hx hb dX12_stepsTo_7 rfl (lv_at hl 0 rfl) ?_
  refine lv_dup hx hb dX12_stepsTo_8 rfl ?_
  refine gp_get (v := .int i_minute) (C := RX12) (T := TX12) (N := 33) (ci := 10) hx hb hts hin hown hK hG mg_o rfl 13 (by decide) (hts _ (List.mem_of_getElem? (i := 2) rfl)) (fun _ h9 => h9) rfl dX12_stepsTo_9 ?_
  refine lv_iconst (v := 1) hx hb dX12_stepsTo_12 (by decide) ?_
  refine lv_iadd hx hb dX12_stepsTo_13 ?_
  refine gp_put (v := .int (i_minute + 1)) (tyk := .int) (C := RX12) (T := TX12) (N := 33) (ci := 10) hx hb hts hin tyX12 tyX12_ok nmX12 hown hK hG hS mg_o rfl 13 (by decide) (hts _ (List.mem_of_getElem? (i := 2) rfl)) (fun _ h9 => h9) rfl rfl rfl rfl (Nat.le_of_ble_eq_true rfl) mu_minute dX12_stepsTo_14 (fun H locs hG hS => ?_)
  refine lv_aload_n hx hb dX12_stepsTo_17 rfl (lv_at hl 0 rfl) ?_
  obtain ⟨o18, hc18, hf⟩ := gb_b hf
  refine gp_callV (va_runV (As := []) (rest := []) ⟨hx, hb, hml, hown, hts⟩ (c_X12_findLit (l := l) (D := D) (b := b) (M := M) (cI := cI) (cL := cL) hc18) (cwV 0 hts gX12_stepsTo_X12_findLit rfl rfl rfl (by decide +kernel) ⟨Nat.le_of_ble_eq_true rfl, Nat.le_of_ble_eq_true rfl⟩) (gp_preV hKn hG mg_o rfl) rfl rfl hl.1 rfl (lv_room (Nat.le_of_ble_eq_true rfl)) dX12_stepsTo_18 ⟨Nat.le_of_ble_eq_true rfl, Nat.le_of_ble_eq_true rfl⟩) hS (fun H locs hG hS => ?_)
  refine lv_iconst (v := 0) hx hb dX12_stepsTo_21 (by decide) ?_
  refine lv_istore_n (lv' := [(3, .int 0), (0, .ref h0), (1, .int v1), (2, .int v2)]) hx hb dX12_stepsTo_22 rfl hl (by decide) rfl (fun ls hl => ?_)
  refine w_X12_stepsTo_23 X _ _ _ _ _ _ hf (fun x23_67 hf H locs ls hG hS hl => ?_) _ _ _ hG hS (lv_sub hl [1, 2, 3, 0] rfl)
  · have hf := Option.some.inj hf
    subst hf
    exact gp_retV hx hb hr hlocks hG hS (Nat.le_refl _) (Nat.le_refl _) dX12_stepsTo_67
-- X12_goesTo
abbrev rm_X12_goesTo : Room := { frames := 5, cells := 0, slots := 0, locals := 113 }
set_option maxHeartbeats 4000000 in
set_option maxRecDepth 100000 in
theorem w_X12_goesTo_28 {α : Type} {R : α} {K97 : Int32 → Option α} {v1 : Int32} {v2 : Int32} {v3 : Int32} (X : gC p s m args meth c cX12_goesTo 7 (some .int) wsX12_goesTo RX12 D b (gTy cI cL)) : ∀ (n : Nat) (v4 : Int32) (v5 : Int32), L_X12_goesTo_28 K97 a_standsAt a_far v1 v2 v3 n v4 v5 = some R → (∀ (x : Int32), K97 x = some R → ∀ (H : Heap) (locs : List Loc) (ls : Array Slot), GP D b M (mg cI h0 a_refused a_isWall a_kind a_lampCell a_range a_lit a_scenes a_who a_cell a_minuteOf a_standsAt i_lampMany i_people i_minute a_tape a_letter a_letterAt a_told i_taped i_at i_statements a_kept i_hasImage i_isKeeping i_cursor a_far a_shut a_queue i_queued a_litBy a_may a_row i_rowMany g0) H → va_S (gA b) s.heap H locs → lv_has ls 7 [(0, .ref h0), (1, .int v1), (2, .int v2), (3, .int v3), (4, .int x)] → W p l e rm_X12_goesTo s m args below meth c H locs 0 0 Q (F0 m 97 ls [])) → ∀ (H : Heap) (locs : List Loc) (ls : Array Slot), GP D b M (mg cI h0 a_refused a_isWall a_kind a_lampCell a_range a_lit a_scenes a_who a_cell a_minuteOf a_standsAt i_lampMany i_people i_minute a_tape a_letter a_letterAt a_told i_taped i_at i_statements a_kept i_hasImage i_isKeeping i_cursor a_far a_shut a_queue i_queued a_litBy a_may a_row i_rowMany g0) H → va_S (gA b) s.heap H locs → lv_has ls 7 [(0, .ref h0), (1, .int v1), (2, .int v2), (3, .int v3), (4, .int v4), (5, .int v5)] → W p l e rm_X12_goesTo s m args below meth c H locs 0 0 Q (F0 m 28 ls []) := by
  obtain ⟨hx, hb, hr, hml, hown, hts, hlocks, hKn, hBs⟩ := id X
  have hK := hKn.1
  have hin : ∀ w ∈ wsX120, w ∈ wsX12_goesTo := fun w h => List.mem_cons_of_mem _ (List.mem_append_right _ h)
  intro n
  induction n with
  | zero =>
    intro v4 v5 hf
    cases hf
  | succ n ih =>
    intro v4 v5 hf hk97 H locs ls hG hS hl
    rw [L_X12_goesTo_28.eq_2] at hf
    refine lv_iload hx hb dX12_goesTo_28 (lv_at hl 5 rfl) ?_
    refine lv_iconst (v := 4) hx hb dX12_goesTo_30 (by decide) ?_
    refine lv_icmp_ge (tgt := 97) hx hb dX12_goesTo_31 (by decide) (fun c31 => ?_) (fun c31 => ?_)
    · have hf := gb_t c31 hf
      exact hk97 _ hf _ _ _ hG hS (lv_sub hl [0, 1, 2, 3, 4] rfl)
    · have hf := gb_f c31 hf
      refine lv_aload_n hx hb dX12_goesTo_34 rfl (lv_at hl 0 rfl) ?_
      refine gp_get (v := .ref (h0 + 11)) (C := RX12) (T := TX12) (N := 33) (ci := 10) hx hb hts hin hown hK hG mg_o rfl 10 (by decide) (hts _ (List.mem_of_getElem? (i := 1) rfl)) (fun _ h9 => h9) rfl dX12_goesTo_35 ?_
      refine lv_iload_n hx hb dX12_goesTo_38 rfl (lv_at hl 1 rfl) ?_
      obtain ⟨b39, hf⟩ := gb_ix hf
      refine gp_iald hx hb hK hG mg_standsAt b39 dX12_goesTo_39 ?_
      refine lv_iload hx hb dX12_goesTo_40 (lv_at hl 5 rfl) ?_
      obtain ⟨o42, hc42, hf⟩ := gb_b hf
      refine gp_callI (va_runS (As := [.int (a_standsAt v1.toNatClampNeg), .int v5]) (rest := []) ⟨hx, hb, hml, hown, hts⟩ (c_X12_beside (l := l) (D := D) (b := b) (M := M) (cI := cI) (cL := cL) hc42) (va_cwS 2 hts gX12_goesTo_X12_beside rfl rfl rfl (by decide +kernel) ⟨Nat.le_of_ble_eq_true rfl, Nat.le_of_ble_eq_true rfl⟩) (gp_preS hKn hG) rfl rfl hl.1 rfl (lv_room (Nat.le_of_ble_eq_true rfl)) dX12_goesTo_42 ⟨Nat.le_of_ble_eq_true rfl, Nat.le_of_ble_eq_true rfl⟩) hS (fun H locs hG hS => ?_)
      refine lv_istore (lv' := [(6, .int o42), (0, .ref h0), (1, .int v1), (2, .int v2), (3, .int v3), (4, .int v4), (5, .int v5)]) hx hb dX12_goesTo_45 hl (by decide) rfl (fun ls hl => ?_)
      refine lv_iload hx hb dX12_goesTo_47 (lv_at hl 0 rfl) ?_
      obtain ⟨j49, hj49, hf⟩ := gb_b hf
      have hJ49 : ∀ (H : Heap) (locs : List Loc) (ls : Array Slot), GP D b M (mg cI h0 a_refused a_isWall a_kind a_lampCell a_range a_lit a_scenes a_who a_cell a_minuteOf a_standsAt i_lampMany i_people i_minute a_tape a_letter a_letterAt a_told i_taped i_at i_statements a_kept i_hasImage i_isKeeping i_cursor a_far a_shut a_queue i_queued a_litBy a_may a_row i_rowMany g0) H → va_S (gA b) s.heap H locs → lv_has ls 7 [(0, .ref h0), (1, .int v1), (2, .int v2), (3, .int v3), (4, .int j49), (5, .int v5)] → W p l e rm_X12_goesTo s m args below meth c H locs 0 0 Q (F0 m 91 ls []) := by
        intro H locs ls hG hS hl
        refine lv_iinc (v := v5 + 1) (lv' := [(5, .int (v5 + 1)), (0, .ref h0), (1, .int v1), (2, .int v2), (3, .int v3), (4, .int j49)]) hx hb dX12_goesTo_91 hl (k := 5) rfl rfl (by decide) rfl (fun ls hl => ?_)
        refine lv_goto (tgt := 28) hx hb dX12_goesTo_94 (by decide) ?_
        exact ih _ _ hf hk97 _ _ _ hG hS (lv_sub hl [1, 2, 3, 4, 5, 0] rfl)
      refine lv_if_lt (tgt := 91) hx hb dX12_goesTo_49 (by decide) (fun c49 => ?_) (fun c49 => ?_)
      · have hj49 := gb_t c49 hj49
        have hj49 := Option.some.inj hj49
        subst hj49
        exact hJ49 H locs ls hG hS (lv_sub hl [1, 2, 3, 4, 5, 6] rfl)
      · have hj49 := gb_f c49 hj49
        refine lv_aload_n hx hb dX12_goesTo_52 rfl (lv_at hl 1 rfl) ?_
        refine gp_get (v := .ref (h0 + 17)) (C := RX12) (T := TX12) (N := 33) (ci := 10) hx hb hts hin hown hK hG mg_o rfl 25 (by decide) (hts _ (List.mem_of_getElem? (i := 2) rfl)) (fun _ h9 => h9) rfl dX12_goesTo_53 ?_
        refine lv_iload hx hb dX12_goesTo_56 (lv_at hl 0 rfl) ?_
        obtain ⟨b58, hj49⟩ := gb_ix hj49
        refine gp_iald hx hb hK hG mg_far b58 dX12_goesTo_58 ?_
        refine lv_aload_n hx hb dX12_goesTo_59 rfl (lv_at hl 1 rfl) ?_
        refine gp_get (v := .ref (h0 + 17)) (C := RX12) (T := TX12) (N := 33) (ci := 10) hx hb hts hin hown hK hG mg_o rfl 25 (by decide) (hts _ (List.mem_of_getElem? (i := 2) rfl)) (fun _ h9 => h9) rfl dX12_goesTo_60 ?_
        refine lv_aload_n hx hb dX12_goesTo_63 rfl (lv_at hl 1 rfl) ?_
        refine gp_get (v := .ref (h0 + 11)) (C := RX12) (T := TX12) (N := 33) (ci := 10) hx hb hts hin hown hK hG mg_o rfl 10 (by decide) (hts _ (List.mem_of_getElem? (i := 1) rfl)) (fun _ h9 => h9) rfl dX12_goesTo_64 ?_
        refine lv_iload_n hx hb dX12_goesTo_67 rfl (lv_at hl 2 rfl) ?_
        obtain ⟨b68, hj49⟩ := gb_ix hj49
        refine gp_iald hx hb hK hG mg_standsAt b68 dX12_goesTo_68 ?_
        obtain ⟨b69, hj49⟩ := gb_ix hj49
        refine gp_iald hx hb hK hG mg_far b69 dX12_goesTo_69 ?_
        refine lv_iconst (v := 1) hx hb dX12_goesTo_70 (by decide) ?_
        refine lv_isub hx hb dX12_goesTo_71 ?_
        refine lv_icmp_ne (tgt := 91) hx hb dX12_goesTo_72 (by decide) (fun c72 => ?_) (fun c72 => ?_)
        · have hj49 := gb_f c72 hj49
          have hj49 := Option.some.inj hj49
          subst hj49
          exact hJ49 H locs ls hG hS (lv_sub hl [1, 2, 3, 4, 5, 6] rfl)
        · have hj49 := gb_t c72 hj49
          refine lv_iload hx hb dX12_goesTo_75 (lv_at hl 5 rfl) ?_
          refine lv_if_lt (tgt := 87) hx hb dX12_goesTo_77 (by decide) (fun c77 => ?_) (fun c77 => ?_)
          · have hj49 := gb_t c77 hj49
            refine lv_iload hx hb dX12_goesTo_87 (lv_at hl 0 rfl) ?_
            refine lv_istore (lv' := [(4, .int o42), (6, .int o42), (0, .ref h0), (1, .int v1), (2, .int v2), (3, .int v3), (5, .int v5)]) hx hb dX12_goesTo_89 hl (by decide) rfl (fun ls hl => ?_)
            have hj49 := Option.some.inj hj49
            subst hj49
            exact hJ49 H locs ls hG hS (lv_sub hl [2, 3, 4, 5, 0, 6] rfl)
          · have hj49 := gb_f c77 hj49
            refine lv_iload hx hb dX12_goesTo_80 (lv_at hl 0 rfl) ?_
            refine lv_iload hx hb dX12_goesTo_82 (lv_at hl 5 rfl) ?_
            refine lv_icmp_ge (tgt := 91) hx hb dX12_goesTo_84 (by decide) (fun c84 => ?_) (fun c84 => ?_)
            · have hj49 := gb_t c84 hj49
              have hj49 := Option.some.inj hj49
              subst hj49
              exact hJ49 H locs ls hG hS (lv_sub hl [1, 2, 3, 4, 5, 6] rfl)
            · have hj49 := gb_f c84 hj49
              refine lv_iload hx hb dX12_goesTo_87 (lv_at hl 0 rfl) ?_
              refine lv_istore (lv' := [(4, .int o42), (6, .int o42), (0, .ref h0), (1, .int v1), (2, .int v2), (3, .int v3), (5, .int v5)]) hx hb dX12_goesTo_89 hl (by decide) rfl (fun ls hl => ?_)
              have hj49 := Option.some.inj hj49
              subst hj49
              exact hJ49 H locs ls hG hS (lv_sub hl [2, 3, 4, 5, 0, 6] rfl)
set_option maxHeartbeats 4000000 in
set_option maxRecDepth 100000 in
theorem w_X12_goesTo_2 {α : Type} {R : α} {K110 : (Int32 × (Nat → Int32) × (Nat → Int32) × (Nat → Int32) × (Nat → Int32) × (Nat → Int32) × Int32 × (Nat → Int32) × (Nat → Int32) × (Nat → Int32) × Int32 × (Nat → Int32)) → Option α} {v1 : Int32} {v2 : Int32} (X : gC p s m args meth c cX12_goesTo 7 (some .int) wsX12_goesTo RX12 D b (gTy cI cL)) : ∀ (n : Nat) (v3 : Int32) (a_scenes : Nat → Int32) (a_who : Nat → Int32) (a_cell : Nat → Int32) (a_minuteOf : Nat → Int32) (a_standsAt : Nat → Int32) (i_minute : Int32) (a_far : Nat → Int32) (a_shut : Nat → Int32) (a_queue : Nat → Int32) (i_queued : Int32) (a_litBy : Nat → Int32), L_X12_goesTo_2 K110 a_isWall a_kind a_lampCell a_range a_lit i_lampMany i_people v1 v2 n v3 a_scenes a_who a_cell a_minuteOf a_standsAt i_minute a_far a_shut a_queue i_queued a_litBy = some R → (∀ (x : Int32 × (Nat → Int32) × (Nat → Int32) × (Nat → Int32) × (Nat → Int32) × (Nat → Int32) × Int32 × (Nat → Int32) × (Nat → Int32) × (Nat → Int32) × Int32 × (Nat → Int32)), K110 x = some R → ∀ (H : Heap) (locs : List Loc) (ls : Array Slot), GP D b M (mg cI h0 a_refused a_isWall a_kind a_lampCell a_range a_lit x.2.1 x.2.2.1 x.2.2.2.1 x.2.2.2.2.1 x.2.2.2.2.2.1 i_lampMany i_people x.2.2.2.2.2.2.1 a_tape a_letter a_letterAt a_told i_taped i_at i_statements a_kept i_hasImage i_isKeeping i_cursor x.2.2.2.2.2.2.2.1 x.2.2.2.2.2.2.2.2.1 x.2.2.2.2.2.2.2.2.2.1 x.2.2.2.2.2.2.2.2.2.2.1 x.2.2.2.2.2.2.2.2.2.2.2 a_may a_row i_rowMany g0) H → va_S (gA b) s.heap H locs → lv_has ls 7 [(3, .int x.1)] → W p l e rm_X12_goesTo s m args below meth c H locs 0 0 Q (F0 m 110 ls [])) → ∀ (H : Heap) (locs : List Loc) (ls : Array Slot), GP D b M (mg cI h0 a_refused a_isWall a_kind a_lampCell a_range a_lit a_scenes a_who a_cell a_minuteOf a_standsAt i_lampMany i_people i_minute a_tape a_letter a_letterAt a_told i_taped i_at i_statements a_kept i_hasImage i_isKeeping i_cursor a_far a_shut a_queue i_queued a_litBy a_may a_row i_rowMany g0) H → va_S (gA b) s.heap H locs → lv_has ls 7 [(0, .ref h0), (1, .int v1), (2, .int v2), (3, .int v3)] → W p l e rm_X12_goesTo s m args below meth c H locs 0 0 Q (F0 m 2 ls []) := by
  obtain ⟨hx, hb, hr, hml, hown, hts, hlocks, hKn, hBs⟩ := id X
  have hK := hKn.1
  have hin : ∀ w ∈ wsX120, w ∈ wsX12_goesTo := fun w h => List.mem_cons_of_mem _ (List.mem_append_right _ h)
  intro n
  induction n with
  | zero =>
    intro v3 a_scenes a_who a_cell a_minuteOf a_standsAt i_minute a_far a_shut a_queue i_queued a_litBy hf
    cases hf
  | succ n ih =>
    intro v3 a_scenes a_who a_cell a_minuteOf a_standsAt i_minute a_far a_shut a_queue i_queued a_litBy hf hk110 H locs ls hG hS hl
    rw [L_X12_goesTo_2.eq_2] at hf
    refine lv_aload_n hx hb dX12_goesTo_2 rfl (lv_at hl 0 rfl) ?_
    refine gp_get (v := .ref (h0 + 11)) (C := RX12) (T := TX12) (N := 33) (ci := 10) hx hb hts hin hown hK hG mg_o rfl 10 (by decide) (hts _ (List.mem_of_getElem? (i := 1) rfl)) (fun _ h9 => h9) rfl dX12_goesTo_3 ?_
    refine lv_iload_n hx hb dX12_goesTo_6 rfl (lv_at hl 1 rfl) ?_
    obtain ⟨b7, hf⟩ := gb_ix hf
    refine gp_iald hx hb hK hG mg_standsAt b7 dX12_goesTo_7 ?_
    refine lv_iload_n hx hb dX12_goesTo_8 rfl (lv_at hl 2 rfl) ?_
    refine lv_icmp_eq (tgt := 110) hx hb dX12_goesTo_9 (by decide) (fun c9 => ?_) (fun c9 => ?_)
    · have hf := gb_t c9 hf
      exact hk110 _ hf _ _ _ hG hS (lv_sub hl [3] rfl)
    · have hf := gb_f c9 hf
      refine lv_aload_n hx hb dX12_goesTo_12 rfl (lv_at hl 0 rfl) ?_
      obtain ⟨o13, hc13, hf⟩ := gb_b hf
      refine gp_callV (va_runV (As := []) (rest := []) ⟨hx, hb, hml, hown, hts⟩ (c_X12_shutsWalls (l := l) (D := D) (b := b) (M := M) (cI := cI) (cL := cL) hc13) (cwV 0 hts gX12_goesTo_X12_shutsWalls rfl rfl rfl (by decide +kernel) ⟨Nat.le_of_ble_eq_true rfl, Nat.le_of_ble_eq_true rfl⟩) (gp_preV hKn hG mg_o rfl) rfl rfl hl.1 rfl (lv_room (Nat.le_of_ble_eq_true rfl)) dX12_goesTo_13 ⟨Nat.le_of_ble_eq_true rfl, Nat.le_of_ble_eq_true rfl⟩) hS (fun H locs hG hS => ?_)
      refine lv_aload_n hx hb dX12_goesTo_16 rfl (lv_at hl 0 rfl) ?_
      refine lv_iload_n hx hb dX12_goesTo_17 rfl (lv_at hl 2 rfl) ?_
      obtain ⟨o18, hc18, hf⟩ := gb_b hf
      refine gp_callV (va_runV (As := [.int v2]) (rest := []) ⟨hx, hb, hml, hown, hts⟩ (c_X12_findFar (l := l) (D := D) (b := b) (M := M) (cI := cI) (cL := cL) hc18) (cwV 1 hts gX12_goesTo_X12_findFar rfl rfl rfl (by decide +kernel) ⟨Nat.le_of_ble_eq_true rfl, Nat.le_of_ble_eq_true rfl⟩) (gp_preV hKn hG mg_o rfl) rfl rfl hl.1 rfl (lv_room (Nat.le_of_ble_eq_true rfl)) dX12_goesTo_18 ⟨Nat.le_of_ble_eq_true rfl, Nat.le_of_ble_eq_true rfl⟩) hS (fun H locs hG hS => ?_)
      refine lv_bipush (v := (-9 : Int32)) hx hb dX12_goesTo_21 (by decide) ?_
      refine lv_istore (lv' := [(4, .int (-9 : Int32)), (0, .ref h0), (1, .int v1), (2, .int v2), (3, .int v3)]) hx hb dX12_goesTo_23 hl (by decide) rfl (fun ls hl => ?_)
      refine lv_iconst (v := 0) hx hb dX12_goesTo_25 (by decide) ?_
      refine lv_istore (lv' := [(5, .int 0), (4, .int (-9 : Int32)), (0, .ref h0), (1, .int v1), (2, .int v2), (3, .int v3)]) hx hb dX12_goesTo_26 hl (by decide) rfl (fun ls hl => ?_)
      refine w_X12_goesTo_28 X _ _ _ hf (fun x28_97 hf H locs ls hG hS hl => ?_) _ _ _ hG hS (lv_sub hl [2, 3, 4, 5, 1, 0] rfl)
      · refine lv_aload_n hx hb dX12_goesTo_97 rfl (lv_at hl 0 rfl) ?_
        refine lv_iload_n hx hb dX12_goesTo_98 rfl (lv_at hl 1 rfl) ?_
        refine lv_iload hx hb dX12_goesTo_99 (lv_at hl 4 rfl) ?_
        obtain ⟨o101, hc101, hf⟩ := gb_b hf
        refine gp_callV (va_runV (As := [.int v1, .int x28_97]) (rest := []) ⟨hx, hb, hml, hown, hts⟩ (c_X12_stepsTo (l := l) (D := D) (b := b) (M := M) (cI := cI) (cL := cL) hc101) (cwV 2 hts gX12_goesTo_X12_stepsTo rfl rfl rfl (by decide +kernel) ⟨Nat.le_of_ble_eq_true rfl, Nat.le_of_ble_eq_true rfl⟩) (gp_preV hKn hG mg_o rfl) rfl rfl hl.1 rfl (lv_room (Nat.le_of_ble_eq_true rfl)) dX12_goesTo_101 ⟨Nat.le_of_ble_eq_true rfl, Nat.le_of_ble_eq_true rfl⟩) hS (fun H locs hG hS => ?_)
        refine lv_iinc (v := v3 + 1) (lv' := [(3, .int (v3 + 1)), (0, .ref h0), (1, .int v1), (2, .int v2), (4, .int x28_97)]) hx hb dX12_goesTo_104 hl (k := 3) rfl rfl (by decide) rfl (fun ls hl => ?_)
        refine lv_goto (tgt := 2) hx hb dX12_goesTo_107 (by decide) ?_
        exact ih _ _ _ _ _ _ _ _ _ _ _ _ hf hk110 _ _ _ hG hS (lv_sub hl [1, 2, 3, 0] rfl)
set_option maxHeartbeats 4000000 in
set_option maxRecDepth 100000 in
theorem c_X12_goesTo {v1 : Int32} {v2 : Int32} {R : Int32 × (Nat → Int32) × (Nat → Int32) × (Nat → Int32) × (Nat → Int32) × (Nat → Int32) × Int32 × (Nat → Int32) × (Nat → Int32) × (Nat → Int32) × Int32 × (Nat → Int32)} (hf : f_X12_goesTo a_isWall a_kind a_lampCell a_range a_lit a_scenes a_who a_cell a_minuteOf a_standsAt i_lampMany i_people i_minute a_far a_shut a_queue i_queued a_litBy v1 v2 = some R) : Met l yX12_goesTo wsX12_goesTo rm_X12_goesTo (va_Pc [.ref h0, .int v1, .int v2] (gPre D b M (mg cI h0 a_refused a_isWall a_kind a_lampCell a_range a_lit a_scenes a_who a_cell a_minuteOf a_standsAt i_lampMany i_people i_minute a_tape a_letter a_letterAt a_told i_taped i_at i_statements a_kept i_hasImage i_isKeeping i_cursor a_far a_shut a_queue i_queued a_litBy a_may a_row i_rowMany g0) (gTy cI cL))) (gQ D b (some (.int R.1)) M (mg cI h0 a_refused a_isWall a_kind a_lampCell a_range a_lit R.2.1 R.2.2.1 R.2.2.2.1 R.2.2.2.2.1 R.2.2.2.2.2.1 i_lampMany i_people R.2.2.2.2.2.2.1 a_tape a_letter a_letterAt a_told i_taped i_at i_statements a_kept i_hasImage i_isKeeping i_cursor R.2.2.2.2.2.2.2.1 R.2.2.2.2.2.2.2.2.1 R.2.2.2.2.2.2.2.2.2.1 R.2.2.2.2.2.2.2.2.2.2.1 R.2.2.2.2.2.2.2.2.2.2.2 a_may a_row i_rowMany g0)) 0 0 (gA b) := by
  refine gp_met (cc := cX12_goesTo) (maxL := 7) (ret := (some .int)) (by decide) rfl (Nat.le_of_ble_eq_true rfl) ?_
  intro p e s m below meth c X ls hG hl
  have hS : va_S (gA b) s.heap s.heap [] := va_S.rf
  obtain ⟨H, hH0⟩ : ∃ H : Heap, H = s.heap := ⟨_, rfl⟩
  rw [← hH0] at hG ⊢
  have hS : va_S (gA b) s.heap H [] := by rw [hH0]; exact va_S.rf
  obtain ⟨locs, hlo⟩ : ∃ z : List Loc, z = [] := ⟨_, rfl⟩
  rw [← hlo] at hS ⊢
  unfold f_X12_goesTo at hf
  obtain ⟨hx, hb, hr, hml, hown, hts, hlocks, hKn, hBs⟩ := id X
  have hK := hKn.1
  have hin : ∀ w ∈ wsX120, w ∈ wsX12_goesTo := fun w h => List.mem_cons_of_mem _ (List.mem_append_right _ h)
  have hl : lv_has ls 7 [(0, .ref h0), (1, .int v1), (2, .int v2)] := hl
  refine lv_iconst (v := 0) hx hb dX12_goesTo_0 (by decide) ?_
  refine lv_istore_n (lv' := [(3, .int 0), (0, .ref h0), (1, .int v1), (2, .int v2)]) hx hb dX12_goesTo_1 rfl hl (by decide) rfl (fun ls hl => ?_)
  refine w_X12_goesTo_2 X _ _ _ _ _ _ _ _ _ _ _ _ _ hf (fun x2_110 hf H locs ls hG hS hl => ?_) _ _ _ hG hS (lv_sub hl [1, 2, 3, 0] rfl)
  · refine lv_iload_n hx hb dX12_goesTo_110 rfl (lv_at hl 0 rfl) ?_
    have hf := Option.some.inj hf
    subst hf
    exact gp_retI hx hb hr hlocks hG hS (Nat.le_refl _) (Nat.le_refl _) dX12_goesTo_111
-- X12_comes
abbrev rm_X12_comes : Room := { frames := 6, cells := 0, slots := 0, locals := 139 }
set_option maxHeartbeats 4000000 in
set_option maxRecDepth 100000 in
theorem c_X12_comes {v1 : Int32} {R : Int32 × (Nat → Int32) × (Nat → Int32) × (Nat → Int32) × (Nat → Int32) × (Nat → Int32) × (Nat → Int32) × (Nat → Int32) × (Nat → Int32) × (Nat → Int32) × (Nat → Int32) × Int32 × Int32 × Int32 × (Nat → Int32) × (Nat → Int32) × (Nat → Int32) × Int32 × (Nat → Int32)} (hf : f_X12_comes a_isWall a_kind a_lampCell a_range a_lit a_scenes a_who a_cell a_minuteOf a_standsAt i_lampMany i_people i_minute a_letter a_told a_far a_shut a_queue i_queued a_litBy v1 = some R) : Met l yX12_comes wsX12_comes rm_X12_comes (va_Pc [.ref h0, .int v1] (gPre D b M (mg cI h0 a_refused a_isWall a_kind a_lampCell a_range a_lit a_scenes a_who a_cell a_minuteOf a_standsAt i_lampMany i_people i_minute a_tape a_letter a_letterAt a_told i_taped i_at i_statements a_kept i_hasImage i_isKeeping i_cursor a_far a_shut a_queue i_queued a_litBy a_may a_row i_rowMany g0) (gTy cI cL))) (gQ D b (some (.int R.1)) M (mg cI h0 a_refused R.2.1 R.2.2.1 R.2.2.2.1 R.2.2.2.2.1 R.2.2.2.2.2.1 R.2.2.2.2.2.2.1 R.2.2.2.2.2.2.2.1 R.2.2.2.2.2.2.2.2.1 R.2.2.2.2.2.2.2.2.2.1 R.2.2.2.2.2.2.2.2.2.2.1 R.2.2.2.2.2.2.2.2.2.2.2.1 R.2.2.2.2.2.2.2.2.2.2.2.2.1 R.2.2.2.2.2.2.2.2.2.2.2.2.2.1 a_tape a_letter a_letterAt a_told i_taped i_at i_statements a_kept i_hasImage i_isKeeping i_cursor R.2.2.2.2.2.2.2.2.2.2.2.2.2.2.1 R.2.2.2.2.2.2.2.2.2.2.2.2.2.2.2.1 R.2.2.2.2.2.2.2.2.2.2.2.2.2.2.2.2.1 R.2.2.2.2.2.2.2.2.2.2.2.2.2.2.2.2.2.1 R.2.2.2.2.2.2.2.2.2.2.2.2.2.2.2.2.2.2 a_may a_row i_rowMany g0)) 0 0 (gA b) := by
  refine gp_met (cc := cX12_comes) (maxL := 4) (ret := (some .boolean)) (by decide) rfl (Nat.le_of_ble_eq_true rfl) ?_
  intro p e s m below meth c X ls hG hl
  have hS : va_S (gA b) s.heap s.heap [] := va_S.rf
  obtain ⟨H, hH0⟩ : ∃ H : Heap, H = s.heap := ⟨_, rfl⟩
  rw [← hH0] at hG ⊢
  have hS : va_S (gA b) s.heap H [] := by rw [hH0]; exact va_S.rf
  obtain ⟨locs, hlo⟩ : ∃ z : List Loc, z = [] := ⟨_, rfl⟩
  rw [← hlo] at hS ⊢
  unfold f_X12_comes at hf
  obtain ⟨hx, hb, hr, hml, hown, hts, hlocks, hKn, hBs⟩ := id X
  have hK := hKn.1
  have hin : ∀ w ∈ wsX120, w ∈ wsX12_comes := fun w h => List.mem_cons_of_mem _ (List.mem_append_right _ h)
  have hl : lv_has ls 4 [(0, .ref h0), (1, .int v1)] := hl
  refine lv_iconst (v := 3) hx hb dX12_comes_0 (by decide) ?_
  refine lv_iload_n hx hb dX12_comes_1 rfl (lv_at hl 1 rfl) ?_
  refine lv_imul hx hb dX12_comes_2 ?_
  refine lv_istore_n (lv' := [(2, .int (3 * v1)), (0, .ref h0), (1, .int v1)]) hx hb dX12_comes_3 rfl hl (by decide) rfl (fun ls hl => ?_)
  refine lv_aload_n hx hb dX12_comes_4 rfl (lv_at hl 1 rfl) ?_
  refine gp_get (v := .ref (h0 + 15)) (C := RX12) (T := TX12) (N := 33) (ci := 10) hx hb hts hin hown hK hG mg_o rfl 17 (by decide) (hts _ (List.mem_of_getElem? (i := 1) rfl)) (fun _ h9 => h9) rfl dX12_comes_5 ?_
  refine lv_iload_n hx hb dX12_comes_8 rfl (lv_at hl 0 rfl) ?_
  obtain ⟨b9, hf⟩ := gb_ix hf
  refine gp_iald hx hb hK hG mg_told b9 dX12_comes_9 ?_
  refine lv_istore_n (lv' := [(3, .int (a_told (3 * v1).toNatClampNeg)), (2, .int (3 * v1)), (0, .ref h0), (1, .int v1)]) hx hb dX12_comes_10 rfl hl (by decide) rfl (fun ls hl => ?_)
  refine lv_aload_n hx hb dX12_comes_11 rfl (lv_at hl 2 rfl) ?_
  refine gp_get (v := .ref (h0 + 13)) (C := RX12) (T := TX12) (N := 33) (ci := 10) hx hb hts hin hown hK hG mg_o rfl 15 (by decide) (hts _ (List.mem_of_getElem? (i := 2) rfl)) (fun _ h9 => h9) rfl dX12_comes_12 ?_
  refine lv_iload_n hx hb dX12_comes_15 rfl (lv_at hl 3 rfl) ?_
  obtain ⟨b16, hf⟩ := gb_ix hf
  refine gp_iald hx hb hK hG mg_letter b16 dX12_comes_16 ?_
  by_cases c17_103 : (a_letter v1.toNatClampNeg) = 103
  · have hf := gb_t c17_103 hf
    refine lv_lookup (tgt := 132) (off := 115) hx hb dX12_comes_17 (by decide) (by rw [c17_103]; decide) (by decide) ?_
    refine lv_aload_n hx hb dX12_comes_132 rfl (lv_at hl 2 rfl) ?_
    refine lv_iload_n hx hb dX12_comes_133 rfl (lv_at hl 0 rfl) ?_
    refine lv_aload_n hx hb dX12_comes_134 rfl (lv_at hl 2 rfl) ?_
    refine gp_get (v := .ref (h0 + 15)) (C := RX12) (T := TX12) (N := 33) (ci := 10) hx hb hts hin hown hK hG mg_o rfl 17 (by decide) (hts _ (List.mem_of_getElem? (i := 1) rfl)) (fun _ h9 => h9) rfl dX12_comes_135 ?_
    refine lv_iload_n hx hb dX12_comes_138 rfl (lv_at hl 1 rfl) ?_
    refine lv_iconst (v := 1) hx hb dX12_comes_139 (by decide) ?_
    refine lv_iadd hx hb dX12_comes_140 ?_
    obtain ⟨b141, hf⟩ := gb_ix hf
    refine gp_iald hx hb hK hG mg_told b141 dX12_comes_141 ?_
    obtain ⟨o142, hc142, hf⟩ := gb_b hf
    refine gp_callI (va_runV (As := [.int (a_told (3 * v1).toNatClampNeg), .int (a_told ((3 * v1) + 1).toNatClampNeg)]) (rest := []) ⟨hx, hb, hml, hown, hts⟩ (c_X12_notGo (l := l) (D := D) (b := b) (M := M) (cI := cI) (cL := cL) hc142) (cwV 2 hts gX12_comes_X12_notGo rfl rfl rfl (by decide +kernel) ⟨Nat.le_of_ble_eq_true rfl, Nat.le_of_ble_eq_true rfl⟩) (gp_preV hKn hG mg_o rfl) rfl rfl hl.1 rfl (lv_room (Nat.le_of_ble_eq_true rfl)) dX12_comes_142 ⟨Nat.le_of_ble_eq_true rfl, Nat.le_of_ble_eq_true rfl⟩) hS (fun H locs hG hS => ?_)
    refine lv_if_eq (tgt := 150) hx hb dX12_comes_145 (by decide) (fun c145 => ?_) (fun c145 => ?_)
    · have hf := gb_t c145 hf
      refine lv_aload_n hx hb dX12_comes_150 rfl (lv_at hl 2 rfl) ?_
      refine lv_iload_n hx hb dX12_comes_151 rfl (lv_at hl 0 rfl) ?_
      refine lv_aload_n hx hb dX12_comes_152 rfl (lv_at hl 2 rfl) ?_
      refine gp_get (v := .ref (h0 + 15)) (C := RX12) (T := TX12) (N := 33) (ci := 10) hx hb hts hin hown hK hG mg_o rfl 17 (by decide) (hts _ (List.mem_of_getElem? (i := 1) rfl)) (fun _ h9 => h9) rfl dX12_comes_153 ?_
      refine lv_iload_n hx hb dX12_comes_156 rfl (lv_at hl 1 rfl) ?_
      refine lv_iconst (v := 1) hx hb dX12_comes_157 (by decide) ?_
      refine lv_iadd hx hb dX12_comes_158 ?_
      obtain ⟨b159, hf⟩ := gb_ix hf
      refine gp_iald hx hb hK hG mg_told b159 dX12_comes_159 ?_
      obtain ⟨o160, hc160, hf⟩ := gb_b hf
      refine gp_callI (va_runV (As := [.int (a_told (3 * v1).toNatClampNeg), .int (a_told ((3 * v1) + 1).toNatClampNeg)]) (rest := []) ⟨hx, hb, hml, hown, hts⟩ (c_X12_goesTo (l := l) (D := D) (b := b) (M := M) (cI := cI) (cL := cL) hc160) (cwV 2 hts gX12_comes_X12_goesTo rfl rfl rfl (by decide +kernel) ⟨Nat.le_of_ble_eq_true rfl, Nat.le_of_ble_eq_true rfl⟩) (gp_preV hKn hG mg_o rfl) rfl rfl hl.1 rfl (lv_room (Nat.le_of_ble_eq_true rfl)) dX12_comes_160 ⟨Nat.le_of_ble_eq_true rfl, Nat.le_of_ble_eq_true rfl⟩) hS (fun H locs hG hS => ?_)
      refine lv_pop hx hb dX12_comes_163 rfl ?_
      refine lv_iconst (v := 1) hx hb dX12_comes_164 (by decide) ?_
      have hf := Option.some.inj hf
      subst hf
      exact gp_retZ hx hb hr (Or.inr rfl) hlocks hG hS (Nat.le_refl _) (Nat.le_refl _) dX12_comes_165
    · have hf := gb_f c145 hf
      refine lv_iconst (v := 0) hx hb dX12_comes_148 (by decide) ?_
      have hf := Option.some.inj hf
      subst hf
      exact gp_retZ hx hb hr (Or.inl rfl) hlocks hG hS (Nat.le_refl _) (Nat.le_refl _) dX12_comes_149
  · have hf := gb_f c17_103 hf
    by_cases c17_108 : (a_letter v1.toNatClampNeg) = 108
    · have hf := gb_t c17_108 hf
      refine lv_lookup (tgt := 68) (off := 51) hx hb dX12_comes_17 (by decide) (by rw [c17_108]; decide) (by decide) ?_
      refine lv_aload_n hx hb dX12_comes_68 rfl (lv_at hl 2 rfl) ?_
      refine lv_iload_n hx hb dX12_comes_69 rfl (lv_at hl 1 rfl) ?_
      obtain ⟨o70, hc70, hf⟩ := gb_b hf
      refine gp_callI (va_runV (As := [.int (3 * v1)]) (rest := []) ⟨hx, hb, hml, hown, hts⟩ (c_X12_comesLamp (l := l) (D := D) (b := b) (M := M) (cI := cI) (cL := cL) hc70) (cwV 1 hts gX12_comes_X12_comesLamp rfl rfl rfl (by decide +kernel) ⟨Nat.le_of_ble_eq_true rfl, Nat.le_of_ble_eq_true rfl⟩) (gp_preV hKn hG mg_o rfl) rfl rfl hl.1 rfl (lv_room (Nat.le_of_ble_eq_true rfl)) dX12_comes_70 ⟨Nat.le_of_ble_eq_true rfl, Nat.le_of_ble_eq_true rfl⟩) hS (fun H locs hG hS => ?_)
      obtain ⟨z73, hf⟩ := gb_zb hf
      have hf := Option.some.inj hf
      subst hf
      exact gp_retZ hx hb hr z73 hlocks hG hS (Nat.le_refl _) (Nat.le_refl _) dX12_comes_73
    · have hf := gb_f c17_108 hf
      by_cases c17_112 : (a_letter v1.toNatClampNeg) = 112
      · have hf := gb_t c17_112 hf
        refine lv_lookup (tgt := 100) (off := 83) hx hb dX12_comes_17 (by decide) (by rw [c17_112]; decide) (by decide) ?_
        refine lv_aload_n hx hb dX12_comes_100 rfl (lv_at hl 2 rfl) ?_
        refine lv_iload_n hx hb dX12_comes_101 rfl (lv_at hl 0 rfl) ?_
        obtain ⟨o102, hc102, hf⟩ := gb_b hf
        refine gp_callI (va_runV (As := [.int (a_told (3 * v1).toNatClampNeg)]) (rest := []) ⟨hx, hb, hml, hown, hts⟩ (c_X12_notPerson (l := l) (D := D) (b := b) (M := M) (cI := cI) (cL := cL) hc102) (cwV 1 hts gX12_comes_X12_notPerson rfl rfl rfl (by decide +kernel) ⟨Nat.le_of_ble_eq_true rfl, Nat.le_of_ble_eq_true rfl⟩) (gp_preV hKn hG mg_o rfl) rfl rfl hl.1 rfl (lv_room (Nat.le_of_ble_eq_true rfl)) dX12_comes_102 ⟨Nat.le_of_ble_eq_true rfl, Nat.le_of_ble_eq_true rfl⟩) hS (fun H locs hG hS => ?_)
        refine lv_if_eq (tgt := 110) hx hb dX12_comes_105 (by decide) (fun c105 => ?_) (fun c105 => ?_)
        · have hf := gb_t c105 hf
          refine lv_aload_n hx hb dX12_comes_110 rfl (lv_at hl 2 rfl) ?_
          refine gp_get (v := .ref (h0 + 11)) (C := RX12) (T := TX12) (N := 33) (ci := 10) hx hb hts hin hown hK hG mg_o rfl 10 (by decide) (hts _ (List.mem_of_getElem? (i := 4) rfl)) (fun _ h9 => h9) rfl dX12_comes_111 ?_
          refine lv_aload_n hx hb dX12_comes_114 rfl (lv_at hl 2 rfl) ?_
          refine gp_get (v := .int i_people) (C := RX12) (T := TX12) (N := 33) (ci := 10) hx hb hts hin hown hK hG mg_o rfl 12 (by decide) (hts _ (List.mem_of_getElem? (i := 5) rfl)) (fun _ h9 => h9) rfl dX12_comes_115 ?_
          refine lv_iload_n hx hb dX12_comes_118 rfl (lv_at hl 0 rfl) ?_
          obtain ⟨b119, hf⟩ := gb_ix hf
          refine gp_iast hx hb hK hG hS mg_standsAt b119 mu_standsAt dX12_comes_119 (fun H locs hG hS => ?_)
          refine lv_aload_n hx hb dX12_comes_120 rfl (lv_at hl 2 rfl) ?_
          refine lv_dup hx hb dX12_comes_121 rfl ?_
          refine gp_get (v := .int i_people) (C := RX12) (T := TX12) (N := 33) (ci := 10) hx hb hts hin hown hK hG mg_o rfl 12 (by decide) (hts _ (List.mem_of_getElem? (i := 5) rfl)) (fun _ h9 => h9) rfl dX12_comes_122 ?_
          refine lv_iconst (v := 1) hx hb dX12_comes_125 (by decide) ?_
          refine lv_iadd hx hb dX12_comes_126 ?_
          refine gp_put (v := .int (i_people + 1)) (tyk := .int) (C := RX12) (T := TX12) (N := 33) (ci := 10) hx hb hts hin tyX12 tyX12_ok nmX12 hown hK hG hS mg_o rfl 12 (by decide) (hts _ (List.mem_of_getElem? (i := 5) rfl)) (fun _ h9 => h9) rfl rfl rfl rfl (Nat.le_of_ble_eq_true rfl) mu_people dX12_comes_127 (fun H locs hG hS => ?_)
          refine lv_iconst (v := 1) hx hb dX12_comes_130 (by decide) ?_
          have hf := Option.some.inj hf
          subst hf
          exact gp_retZ hx hb hr (Or.inr rfl) hlocks hG hS (Nat.le_refl _) (Nat.le_refl _) dX12_comes_131
        · have hf := gb_f c105 hf
          refine lv_iconst (v := 0) hx hb dX12_comes_108 (by decide) ?_
          have hf := Option.some.inj hf
          subst hf
          exact gp_retZ hx hb hr (Or.inl rfl) hlocks hG hS (Nat.le_refl _) (Nat.le_refl _) dX12_comes_109
      · have hf := gb_f c17_112 hf
        by_cases c17_115 : (a_letter v1.toNatClampNeg) = 115
        · have hf := gb_t c17_115 hf
          refine lv_lookup (tgt := 166) (off := 149) hx hb dX12_comes_17 (by decide) (by rw [c17_115]; decide) (by decide) ?_
          refine lv_aload_n hx hb dX12_comes_166 rfl (lv_at hl 2 rfl) ?_
          refine lv_iload_n hx hb dX12_comes_167 rfl (lv_at hl 0 rfl) ?_
          obtain ⟨o168, hc168, hf⟩ := gb_b hf
          refine gp_callI (va_runV (As := [.int (a_told (3 * v1).toNatClampNeg)]) (rest := []) ⟨hx, hb, hml, hown, hts⟩ (c_X12_isLamp (l := l) (D := D) (b := b) (M := M) (cI := cI) (cL := cL) hc168) (cwV 1 hts gX12_comes_X12_isLamp rfl rfl rfl (by decide +kernel) ⟨Nat.le_of_ble_eq_true rfl, Nat.le_of_ble_eq_true rfl⟩) (gp_preV hKn hG mg_o rfl) rfl rfl hl.1 rfl (lv_room (Nat.le_of_ble_eq_true rfl)) dX12_comes_168 ⟨Nat.le_of_ble_eq_true rfl, Nat.le_of_ble_eq_true rfl⟩) hS (fun H locs hG hS => ?_)
          refine lv_if_ne (tgt := 176) hx hb dX12_comes_171 (by decide) (fun c171 => ?_) (fun c171 => ?_)
          · have hf := gb_f c171 hf
            refine lv_aload_n hx hb dX12_comes_176 rfl (lv_at hl 2 rfl) ?_
            refine gp_get (v := .ref (h0 + 6)) (C := RX12) (T := TX12) (N := 33) (ci := 10) hx hb hts hin hown hK hG mg_o rfl 5 (by decide) (hts _ (List.mem_of_getElem? (i := 6) rfl)) (fun _ h9 => h9) rfl dX12_comes_177 ?_
            refine lv_iload_n hx hb dX12_comes_180 rfl (lv_at hl 0 rfl) ?_
            refine lv_iconst (v := 1) hx hb dX12_comes_181 (by decide) ?_
            refine lv_aload_n hx hb dX12_comes_182 rfl (lv_at hl 2 rfl) ?_
            refine gp_get (v := .ref (h0 + 6)) (C := RX12) (T := TX12) (N := 33) (ci := 10) hx hb hts hin hown hK hG mg_o rfl 5 (by decide) (hts _ (List.mem_of_getElem? (i := 6) rfl)) (fun _ h9 => h9) rfl dX12_comes_183 ?_
            refine lv_iload_n hx hb dX12_comes_186 rfl (lv_at hl 0 rfl) ?_
            obtain ⟨b187, hf⟩ := gb_ix hf
            refine gp_iald hx hb hK hG mg_lit b187 dX12_comes_187 ?_
            refine lv_isub hx hb dX12_comes_188 ?_
            obtain ⟨b189, hf⟩ := gb_ix hf
            refine gp_iast hx hb hK hG hS mg_lit b189 mu_lit dX12_comes_189 (fun H locs hG hS => ?_)
            refine lv_iconst (v := 1) hx hb dX12_comes_190 (by decide) ?_
            have hf := Option.some.inj hf
            subst hf
            exact gp_retZ hx hb hr (Or.inr rfl) hlocks hG hS (Nat.le_refl _) (Nat.le_refl _) dX12_comes_191
          · have hf := gb_t c171 hf
            refine lv_iconst (v := 0) hx hb dX12_comes_174 (by decide) ?_
            have hf := Option.some.inj hf
            subst hf
            exact gp_retZ hx hb hr (Or.inl rfl) hlocks hG hS (Nat.le_refl _) (Nat.le_refl _) dX12_comes_175
        · have hf := gb_f c17_115 hf
          by_cases c17_119 : (a_letter v1.toNatClampNeg) = 119
          · have hf := gb_t c17_119 hf
            refine lv_lookup (tgt := 74) (off := 57) hx hb dX12_comes_17 (by decide) (by rw [c17_119]; decide) (by decide) ?_
            refine lv_aload_n hx hb dX12_comes_74 rfl (lv_at hl 2 rfl) ?_
            refine lv_iload_n hx hb dX12_comes_75 rfl (lv_at hl 0 rfl) ?_
            obtain ⟨o76, hc76, hf⟩ := gb_b hf
            refine gp_callI (va_runV (As := [.int (a_told (3 * v1).toNatClampNeg)]) (rest := []) ⟨hx, hb, hml, hown, hts⟩ (c_X12_notWall (l := l) (D := D) (b := b) (M := M) (cI := cI) (cL := cL) hc76) (cwV 1 hts gX12_comes_X12_notWall rfl rfl rfl (by decide +kernel) ⟨Nat.le_of_ble_eq_true rfl, Nat.le_of_ble_eq_true rfl⟩) (gp_preV hKn hG mg_o rfl) rfl rfl hl.1 rfl (lv_room (Nat.le_of_ble_eq_true rfl)) dX12_comes_76 ⟨Nat.le_of_ble_eq_true rfl, Nat.le_of_ble_eq_true rfl⟩) hS (fun H locs hG hS => ?_)
            refine lv_if_eq (tgt := 84) hx hb dX12_comes_79 (by decide) (fun c79 => ?_) (fun c79 => ?_)
            · have hf := gb_t c79 hf
              refine lv_aload_n hx hb dX12_comes_84 rfl (lv_at hl 2 rfl) ?_
              refine gp_get (v := .ref (h0 + 2)) (C := RX12) (T := TX12) (N := 33) (ci := 10) hx hb hts hin hown hK hG mg_o rfl 1 (by decide) (hts _ (List.mem_of_getElem? (i := 3) rfl)) (fun _ h9 => h9) rfl dX12_comes_85 ?_
              refine lv_iload_n hx hb dX12_comes_88 rfl (lv_at hl 0 rfl) ?_
              refine lv_iconst (v := 1) hx hb dX12_comes_89 (by decide) ?_
              refine lv_aload_n hx hb dX12_comes_90 rfl (lv_at hl 2 rfl) ?_
              refine gp_get (v := .ref (h0 + 2)) (C := RX12) (T := TX12) (N := 33) (ci := 10) hx hb hts hin hown hK hG mg_o rfl 1 (by decide) (hts _ (List.mem_of_getElem? (i := 3) rfl)) (fun _ h9 => h9) rfl dX12_comes_91 ?_
              refine lv_iload_n hx hb dX12_comes_94 rfl (lv_at hl 0 rfl) ?_
              obtain ⟨b95, hf⟩ := gb_ix hf
              refine gp_iald hx hb hK hG mg_isWall b95 dX12_comes_95 ?_
              refine lv_isub hx hb dX12_comes_96 ?_
              obtain ⟨b97, hf⟩ := gb_ix hf
              refine gp_iast hx hb hK hG hS mg_isWall b97 mu_isWall dX12_comes_97 (fun H locs hG hS => ?_)
              refine lv_iconst (v := 1) hx hb dX12_comes_98 (by decide) ?_
              have hf := Option.some.inj hf
              subst hf
              exact gp_retZ hx hb hr (Or.inr rfl) hlocks hG hS (Nat.le_refl _) (Nat.le_refl _) dX12_comes_99
            · have hf := gb_f c79 hf
              refine lv_iconst (v := 0) hx hb dX12_comes_82 (by decide) ?_
              have hf := Option.some.inj hf
              subst hf
              exact gp_retZ hx hb hr (Or.inl rfl) hlocks hG hS (Nat.le_refl _) (Nat.le_refl _) dX12_comes_83
          · have hf := gb_f c17_119 hf
            refine lv_lookup (tgt := 192) (off := 175) hx hb dX12_comes_17 (by decide) (by show Op.lookupswitch.offset [(103, 115), (108, 51), (112, 83), (115, 149), (119, 57)] _ _ = _; rw [lv_osw (k := 103) (a := 103) c17_103 rfl]; rw [lv_osw (k := 108) (a := 108) c17_108 rfl]; rw [lv_osw (k := 112) (a := 112) c17_112 rfl]; rw [lv_osw (k := 115) (a := 115) c17_115 rfl]; rw [lv_osw (k := 119) (a := 119) c17_119 rfl]; rfl) (by decide) ?_
            refine lv_aload_n hx hb dX12_comes_192 rfl (lv_at hl 2 rfl) ?_
            refine lv_iload_n hx hb dX12_comes_193 rfl (lv_at hl 0 rfl) ?_
            obtain ⟨o194, hc194, hf⟩ := gb_b hf
            refine gp_callI (va_runV (As := [.int (a_told (3 * v1).toNatClampNeg)]) (rest := []) ⟨hx, hb, hml, hown, hts⟩ (c_X12_isLamp (l := l) (D := D) (b := b) (M := M) (cI := cI) (cL := cL) hc194) (cwV 1 hts gX12_comes_X12_isLamp rfl rfl rfl (by decide +kernel) ⟨Nat.le_of_ble_eq_true rfl, Nat.le_of_ble_eq_true rfl⟩) (gp_preV hKn hG mg_o rfl) rfl rfl hl.1 rfl (lv_room (Nat.le_of_ble_eq_true rfl)) dX12_comes_194 ⟨Nat.le_of_ble_eq_true rfl, Nat.le_of_ble_eq_true rfl⟩) hS (fun H locs hG hS => ?_)
            refine lv_if_ne (tgt := 202) hx hb dX12_comes_197 (by decide) (fun c197 => ?_) (fun c197 => ?_)
            · have hf := gb_f c197 hf
              refine lv_aload_n hx hb dX12_comes_202 rfl (lv_at hl 2 rfl) ?_
              refine gp_get (v := .ref (h0 + 6)) (C := RX12) (T := TX12) (N := 33) (ci := 10) hx hb hts hin hown hK hG mg_o rfl 5 (by decide) (hts _ (List.mem_of_getElem? (i := 6) rfl)) (fun _ h9 => h9) rfl dX12_comes_203 ?_
              refine lv_iload_n hx hb dX12_comes_206 rfl (lv_at hl 0 rfl) ?_
              refine lv_iconst (v := 0) hx hb dX12_comes_207 (by decide) ?_
              obtain ⟨b208, hf⟩ := gb_ix hf
              refine gp_iast hx hb hK hG hS mg_lit b208 mu_lit dX12_comes_208 (fun H locs hG hS => ?_)
              refine lv_aload_n hx hb dX12_comes_209 rfl (lv_at hl 2 rfl) ?_
              refine gp_get (v := .ref (h0 + 7)) (C := RX12) (T := TX12) (N := 33) (ci := 10) hx hb hts hin hown hK hG mg_o rfl 6 (by decide) (hts _ (List.mem_of_getElem? (i := 7) rfl)) (fun _ h9 => h9) rfl dX12_comes_210 ?_
              refine lv_iload_n hx hb dX12_comes_213 rfl (lv_at hl 0 rfl) ?_
              refine lv_iconst (v := 0) hx hb dX12_comes_214 (by decide) ?_
              obtain ⟨b215, hf⟩ := gb_ix hf
              refine gp_iast hx hb hK hG hS mg_scenes b215 mu_scenes dX12_comes_215 (fun H locs hG hS => ?_)
              refine lv_iconst (v := 1) hx hb dX12_comes_216 (by decide) ?_
              have hf := Option.some.inj hf
              subst hf
              exact gp_retZ hx hb hr (Or.inr rfl) hlocks hG hS (Nat.le_refl _) (Nat.le_refl _) dX12_comes_217
            · have hf := gb_t c197 hf
              refine lv_iconst (v := 0) hx hb dX12_comes_200 (by decide) ?_
              have hf := Option.some.inj hf
              subst hf
              exact gp_retZ hx hb hr (Or.inl rfl) hlocks hG hS (Nat.le_refl _) (Nat.le_refl _) dX12_comes_201
-- X12_passOne
abbrev rm_X12_passOne : Room := { frames := 0, cells := 0, slots := 0, locals := 0 }
set_option maxHeartbeats 4000000 in
set_option maxRecDepth 100000 in
theorem c_X12_passOne {v1 : Int32} {R : Int32 × (Nat → Int32) × Int32} (hf : f_X12_passOne a_kept i_isKeeping i_cursor v1 = some R) : Met l yX12_passOne wsX12_passOne rm_X12_passOne (va_Pc [.ref h0, .int v1] (gPre D b M (mg cI h0 a_refused a_isWall a_kind a_lampCell a_range a_lit a_scenes a_who a_cell a_minuteOf a_standsAt i_lampMany i_people i_minute a_tape a_letter a_letterAt a_told i_taped i_at i_statements a_kept i_hasImage i_isKeeping i_cursor a_far a_shut a_queue i_queued a_litBy a_may a_row i_rowMany g0) (gTy cI cL))) (gQ D b (some (.int R.1)) M (mg cI h0 a_refused a_isWall a_kind a_lampCell a_range a_lit a_scenes a_who a_cell a_minuteOf a_standsAt i_lampMany i_people i_minute a_tape a_letter a_letterAt a_told i_taped i_at i_statements R.2.1 i_hasImage i_isKeeping R.2.2 a_far a_shut a_queue i_queued a_litBy a_may a_row i_rowMany g0)) 0 0 (gA b) := by
  refine gp_met (cc := cX12_passOne) (maxL := 3) (ret := (some .int)) (by decide) rfl (Nat.le_of_ble_eq_true rfl) ?_
  intro p e s m below meth c X ls hG hl
  have hS : va_S (gA b) s.heap s.heap [] := va_S.rf
  obtain ⟨H, hH0⟩ : ∃ H : Heap, H = s.heap := ⟨_, rfl⟩
  rw [← hH0] at hG ⊢
  have hS : va_S (gA b) s.heap H [] := by rw [hH0]; exact va_S.rf
  obtain ⟨locs, hlo⟩ : ∃ z : List Loc, z = [] := ⟨_, rfl⟩
  rw [← hlo] at hS ⊢
  unfold f_X12_passOne at hf
  obtain ⟨hx, hb, hr, hml, hown, hts, hlocks, hKn, hBs⟩ := id X
  have hK := hKn.1
  have hin : ∀ w ∈ wsX120, w ∈ wsX12_passOne := fun w h => List.mem_cons_of_mem _ (List.mem_append_right _ h)
  have hl : lv_has ls 3 [(0, .ref h0), (1, .int v1)] := hl
  refine lv_aload_n hx hb dX12_passOne_0 rfl (lv_at hl 0 rfl) ?_
  refine gp_get (v := .int i_isKeeping) (C := RX12) (T := TX12) (N := 33) (ci := 10) hx hb hts hin hown hK hG mg_o rfl 23 (by decide) (hts _ (List.mem_of_getElem? (i := 1) rfl)) (fun _ h9 => h9) rfl dX12_passOne_1 ?_
  obtain ⟨j4, hj4, hf⟩ := gb_b hf
  have hJ4 : ∀ (H : Heap) (locs : List Loc) (ls : Array Slot), GP D b M (mg cI h0 a_refused a_isWall a_kind a_lampCell a_range a_lit a_scenes a_who a_cell a_minuteOf a_standsAt i_lampMany i_people i_minute a_tape a_letter a_letterAt a_told i_taped i_at i_statements a_kept i_hasImage i_isKeeping i_cursor a_far a_shut a_queue i_queued a_litBy a_may a_row i_rowMany g0) H → va_S (gA b) s.heap H locs → lv_has ls 3 [(0, .ref h0), (1, .int v1)] → W p l e rm_X12_passOne s m [.ref h0, .int v1].toArray below meth c H locs 0 0 (MQ below (gQ D b (some (.int R.1)) M (mg cI h0 a_refused a_isWall a_kind a_lampCell a_range a_lit a_scenes a_who a_cell a_minuteOf a_standsAt i_lampMany i_people i_minute a_tape a_letter a_letterAt a_told i_taped i_at i_statements R.2.1 i_hasImage i_isKeeping R.2.2 a_far a_shut a_queue i_queued a_litBy a_may a_row i_rowMany g0)) [.ref h0, .int v1].toArray s 0 0 (gA b)) (F0 m 20 ls [.int j4]) := by
    intro H locs ls hG hS hl
    refine lv_istore_n (lv' := [(2, .int j4), (0, .ref h0), (1, .int v1)]) hx hb dX12_passOne_20 rfl hl (by decide) rfl (fun ls hl => ?_)
    refine lv_aload_n hx hb dX12_passOne_21 rfl (lv_at hl 1 rfl) ?_
    refine gp_get (v := .int i_isKeeping) (C := RX12) (T := TX12) (N := 33) (ci := 10) hx hb hts hin hown hK hG mg_o rfl 23 (by decide) (hts _ (List.mem_of_getElem? (i := 1) rfl)) (fun _ h9 => h9) rfl dX12_passOne_22 ?_
    obtain ⟨j25, hj25, hf⟩ := gb_b hf
    have hJ25 : ∀ (H : Heap) (locs : List Loc) (ls : Array Slot), GP D b M (mg cI h0 a_refused a_isWall a_kind a_lampCell a_range a_lit a_scenes a_who a_cell a_minuteOf a_standsAt i_lampMany i_people i_minute a_tape a_letter a_letterAt a_told i_taped i_at i_statements j25 i_hasImage i_isKeeping i_cursor a_far a_shut a_queue i_queued a_litBy a_may a_row i_rowMany g0) H → va_S (gA b) s.heap H locs → lv_has ls 3 [(0, .ref h0), (2, .int j4)] → W p l e rm_X12_passOne s m [.ref h0, .int v1].toArray below meth c H locs 0 0 (MQ below (gQ D b (some (.int R.1)) M (mg cI h0 a_refused a_isWall a_kind a_lampCell a_range a_lit a_scenes a_who a_cell a_minuteOf a_standsAt i_lampMany i_people i_minute a_tape a_letter a_letterAt a_told i_taped i_at i_statements R.2.1 i_hasImage i_isKeeping R.2.2 a_far a_shut a_queue i_queued a_litBy a_may a_row i_rowMany g0)) [.ref h0, .int v1].toArray s 0 0 (gA b)) (F0 m 38 ls []) := by
      intro H locs ls hG hS hl
      refine lv_aload_n hx hb dX12_passOne_38 rfl (lv_at hl 0 rfl) ?_
      refine lv_dup hx hb dX12_passOne_39 rfl ?_
      refine gp_get (v := .int i_cursor) (C := RX12) (T := TX12) (N := 33) (ci := 10) hx hb hts hin hown hK hG mg_o rfl 24 (by decide) (hts _ (List.mem_of_getElem? (i := 3) rfl)) (fun _ h9 => h9) rfl dX12_passOne_40 ?_
      refine lv_iconst (v := 1) hx hb dX12_passOne_43 (by decide) ?_
      refine lv_iadd hx hb dX12_passOne_44 ?_
      refine gp_put (v := .int (i_cursor + 1)) (tyk := .int) (C := RX12) (T := TX12) (N := 33) (ci := 10) hx hb hts hin tyX12 tyX12_ok nmX12 hown hK hG hS mg_o rfl 24 (by decide) (hts _ (List.mem_of_getElem? (i := 3) rfl)) (fun _ h9 => h9) rfl rfl rfl rfl (Nat.le_of_ble_eq_true rfl) mu_cursor dX12_passOne_45 (fun H locs hG hS => ?_)
      refine lv_iload_n hx hb dX12_passOne_48 rfl (lv_at hl 1 rfl) ?_
      have hf := Option.some.inj hf
      subst hf
      exact gp_retI hx hb hr hlocks hG hS (Nat.le_refl _) (Nat.le_refl _) dX12_passOne_49
    refine lv_if_eq (tgt := 38) hx hb dX12_passOne_25 (by decide) (fun c25 => ?_) (fun c25 => ?_)
    · have hj25 := gb_t c25 hj25
      have hj25 := Option.some.inj hj25
      subst hj25
      exact hJ25 H locs ls hG hS (lv_sub hl [1, 0] rfl)
    · have hj25 := gb_f c25 hj25
      refine lv_aload_n hx hb dX12_passOne_28 rfl (lv_at hl 1 rfl) ?_
      refine gp_get (v := .ref (h0 + 16)) (C := RX12) (T := TX12) (N := 33) (ci := 10) hx hb hts hin hown hK hG mg_o rfl 21 (by decide) (hts _ (List.mem_of_getElem? (i := 2) rfl)) (fun _ h9 => h9) rfl dX12_passOne_29 ?_
      refine lv_aload_n hx hb dX12_passOne_32 rfl (lv_at hl 1 rfl) ?_
      refine gp_get (v := .int i_cursor) (C := RX12) (T := TX12) (N := 33) (ci := 10) hx hb hts hin hown hK hG mg_o rfl 24 (by decide) (hts _ (List.mem_of_getElem? (i := 3) rfl)) (fun _ h9 => h9) rfl dX12_passOne_33 ?_
      refine lv_iload_n hx hb dX12_passOne_36 rfl (lv_at hl 2 rfl) ?_
      obtain ⟨b37, hj25⟩ := gb_ix hj25
      refine gp_iast hx hb hK hG hS mg_kept b37 mu_kept dX12_passOne_37 (fun H locs hG hS => ?_)
      have hj25 := Option.some.inj hj25
      subst hj25
      exact hJ25 H locs ls hG hS (lv_sub hl [1, 0] rfl)
  refine lv_if_eq (tgt := 11) hx hb dX12_passOne_4 (by decide) (fun c4 => ?_) (fun c4 => ?_)
  · have hj4 := gb_t c4 hj4
    refine lv_aload_n hx hb dX12_passOne_11 rfl (lv_at hl 0 rfl) ?_
    refine gp_get (v := .ref (h0 + 16)) (C := RX12) (T := TX12) (N := 33) (ci := 10) hx hb hts hin hown hK hG mg_o rfl 21 (by decide) (hts _ (List.mem_of_getElem? (i := 2) rfl)) (fun _ h9 => h9) rfl dX12_passOne_12 ?_
    refine lv_aload_n hx hb dX12_passOne_15 rfl (lv_at hl 0 rfl) ?_
    refine gp_get (v := .int i_cursor) (C := RX12) (T := TX12) (N := 33) (ci := 10) hx hb hts hin hown hK hG mg_o rfl 24 (by decide) (hts _ (List.mem_of_getElem? (i := 3) rfl)) (fun _ h9 => h9) rfl dX12_passOne_16 ?_
    obtain ⟨b19, hj4⟩ := gb_ix hj4
    refine gp_iald hx hb hK hG mg_kept b19 dX12_passOne_19 ?_
    have hj4 := Option.some.inj hj4
    subst hj4
    exact hJ4 H locs ls hG hS (lv_sub hl [0, 1] rfl)
  · have hj4 := gb_f c4 hj4
    refine lv_iload_n hx hb dX12_passOne_7 rfl (lv_at hl 1 rfl) ?_
    refine lv_goto (tgt := 20) hx hb dX12_passOne_8 (by decide) ?_
    have hj4 := Option.some.inj hj4
    subst hj4
    exact hJ4 H locs ls hG hS (lv_sub hl [0, 1] rfl)
-- X12_passes@cell
abbrev rm_X12_passes_cell : Room := { frames := 0, cells := 0, slots := 0, locals := 0 }
set_option maxHeartbeats 4000000 in
set_option maxRecDepth 100000 in
theorem w_X12_passes_cell_2 {α : Type} {R : α} {K58 : ((Nat → Int32) × (Nat → Int32) × Int32) → Option α} (X : gC p s m args meth c cX12_passes 3 none wsX12_passes RX12 D b (gTy cI cL)) : ∀ (n : Nat) (v2 : Int32) (a_cell : Nat → Int32) (a_kept : Nat → Int32) (i_cursor : Int32), L_X12_passes_cell_2 K58 i_isKeeping n v2 a_cell a_kept i_cursor = some R → (∀ (x : (Nat → Int32) × (Nat → Int32) × Int32), K58 x = some R → ∀ (H : Heap) (locs : List Loc) (ls : Array Slot), GP D b M (mg cI h0 a_refused a_isWall a_kind a_lampCell a_range a_lit a_scenes a_who x.1 a_minuteOf a_standsAt i_lampMany i_people i_minute a_tape a_letter a_letterAt a_told i_taped i_at i_statements x.2.1 i_hasImage i_isKeeping x.2.2 a_far a_shut a_queue i_queued a_litBy a_may a_row i_rowMany g0) H → va_S (gA b) s.heap H locs → lv_has ls 3 [] → W p l e rm_X12_passes_cell s m args below meth c H locs 0 0 Q (F0 m 58 ls [])) → ∀ (H : Heap) (locs : List Loc) (ls : Array Slot), GP D b M (mg cI h0 a_refused a_isWall a_kind a_lampCell a_range a_lit a_scenes a_who a_cell a_minuteOf a_standsAt i_lampMany i_people i_minute a_tape a_letter a_letterAt a_told i_taped i_at i_statements a_kept i_hasImage i_isKeeping i_cursor a_far a_shut a_queue i_queued a_litBy a_may a_row i_rowMany g0) H → va_S (gA b) s.heap H locs → lv_has ls 3 [(0, .ref h0), (1, .ref (h0 + 9)), (2, .int v2)] → W p l e rm_X12_passes_cell s m args below meth c H locs 0 0 Q (F0 m 2 ls []) := by
  obtain ⟨hx, hb, hr, hml, hown, hts, hlocks, hKn, hBs⟩ := id X
  have hK := hKn.1
  have hin : ∀ w ∈ wsX120, w ∈ wsX12_passes := fun w h => List.mem_cons_of_mem _ (List.mem_append_right _ h)
  intro n
  induction n with
  | zero =>
    intro v2 a_cell a_kept i_cursor hf
    cases hf
  | succ n ih =>
    intro v2 a_cell a_kept i_cursor hf hk58 H locs ls hG hS hl
    rw [L_X12_passes_cell_2.eq_2] at hf
    refine lv_iload_n hx hb dX12_passes_2 rfl (lv_at hl 2 rfl) ?_
    refine lv_aload_n hx hb dX12_passes_3 rfl (lv_at hl 1 rfl) ?_
    refine gp_alenI (v := 54) hx hb hK hG mg_cell rfl dX12_passes_4 ?_
    refine lv_icmp_ge (tgt := 58) hx hb dX12_passes_5 (by decide) (fun c5 => ?_) (fun c5 => ?_)
    · have hf := gb_t c5 hf
      exact hk58 _ hf _ _ _ hG hS (lv_sub hl [] rfl)
    · have hf := gb_f c5 hf
      refine lv_aload_n hx hb dX12_passes_8 rfl (lv_at hl 0 rfl) ?_
      refine gp_get (v := .int i_isKeeping) (C := RX12) (T := TX12) (N := 33) (ci := 10) hx hb hts hin hown hK hG mg_o rfl 23 (by decide) (hts _ (List.mem_of_getElem? (i := 1) rfl)) (fun _ h9 => h9) rfl dX12_passes_9 ?_
      obtain ⟨j12, hj12, hf⟩ := gb_b hf
      have hJ12 : ∀ (H : Heap) (locs : List Loc) (ls : Array Slot), GP D b M (mg cI h0 a_refused a_isWall a_kind a_lampCell a_range a_lit a_scenes a_who j12.1 a_minuteOf a_standsAt i_lampMany i_people i_minute a_tape a_letter a_letterAt a_told i_taped i_at i_statements j12.2 i_hasImage i_isKeeping i_cursor a_far a_shut a_queue i_queued a_litBy a_may a_row i_rowMany g0) H → va_S (gA b) s.heap H locs → lv_has ls 3 [(0, .ref h0), (1, .ref (h0 + 9)), (2, .int v2)] → W p l e rm_X12_passes_cell s m args below meth c H locs 0 0 Q (F0 m 42 ls []) := by
        intro H locs ls hG hS hl
        refine lv_aload_n hx hb dX12_passes_42 rfl (lv_at hl 0 rfl) ?_
        refine lv_dup hx hb dX12_passes_43 rfl ?_
        refine gp_get (v := .int i_cursor) (C := RX12) (T := TX12) (N := 33) (ci := 10) hx hb hts hin hown hK hG mg_o rfl 24 (by decide) (hts _ (List.mem_of_getElem? (i := 3) rfl)) (fun _ h9 => h9) rfl dX12_passes_44 ?_
        refine lv_iconst (v := 1) hx hb dX12_passes_47 (by decide) ?_
        refine lv_iadd hx hb dX12_passes_48 ?_
        refine gp_put (v := .int (i_cursor + 1)) (tyk := .int) (C := RX12) (T := TX12) (N := 33) (ci := 10) hx hb hts hin tyX12 tyX12_ok nmX12 hown hK hG hS mg_o rfl 24 (by decide) (hts _ (List.mem_of_getElem? (i := 3) rfl)) (fun _ h9 => h9) rfl rfl rfl rfl (Nat.le_of_ble_eq_true rfl) mu_cursor dX12_passes_49 (fun H locs hG hS => ?_)
        refine lv_iinc (v := v2 + 1) (lv' := [(2, .int (v2 + 1)), (0, .ref h0), (1, .ref (h0 + 9))]) hx hb dX12_passes_52 hl (k := 2) rfl rfl (by decide) rfl (fun ls hl => ?_)
        refine lv_goto (tgt := 2) hx hb dX12_passes_55 (by decide) ?_
        exact ih _ _ _ _ hf hk58 _ _ _ hG hS (lv_sub hl [1, 2, 0] rfl)
      refine lv_if_eq (tgt := 30) hx hb dX12_passes_12 (by decide) (fun c12 => ?_) (fun c12 => ?_)
      · have hj12 := gb_t c12 hj12
        refine lv_aload_n hx hb dX12_passes_30 rfl (lv_at hl 1 rfl) ?_
        refine lv_iload_n hx hb dX12_passes_31 rfl (lv_at hl 2 rfl) ?_
        refine lv_aload_n hx hb dX12_passes_32 rfl (lv_at hl 0 rfl) ?_
        refine gp_get (v := .ref (h0 + 16)) (C := RX12) (T := TX12) (N := 33) (ci := 10) hx hb hts hin hown hK hG mg_o rfl 21 (by decide) (hts _ (List.mem_of_getElem? (i := 2) rfl)) (fun _ h9 => h9) rfl dX12_passes_33 ?_
        refine lv_aload_n hx hb dX12_passes_36 rfl (lv_at hl 0 rfl) ?_
        refine gp_get (v := .int i_cursor) (C := RX12) (T := TX12) (N := 33) (ci := 10) hx hb hts hin hown hK hG mg_o rfl 24 (by decide) (hts _ (List.mem_of_getElem? (i := 3) rfl)) (fun _ h9 => h9) rfl dX12_passes_37 ?_
        obtain ⟨b40, hj12⟩ := gb_ix hj12
        refine gp_iald hx hb hK hG mg_kept b40 dX12_passes_40 ?_
        obtain ⟨b41, hj12⟩ := gb_ix hj12
        refine gp_iast hx hb hK hG hS mg_cell b41 mu_cell dX12_passes_41 (fun H locs hG hS => ?_)
        have hj12 := Option.some.inj hj12
        subst hj12
        exact hJ12 H locs ls hG hS (lv_sub hl [0, 1, 2] rfl)
      · have hj12 := gb_f c12 hj12
        refine lv_aload_n hx hb dX12_passes_15 rfl (lv_at hl 0 rfl) ?_
        refine gp_get (v := .ref (h0 + 16)) (C := RX12) (T := TX12) (N := 33) (ci := 10) hx hb hts hin hown hK hG mg_o rfl 21 (by decide) (hts _ (List.mem_of_getElem? (i := 2) rfl)) (fun _ h9 => h9) rfl dX12_passes_16 ?_
        refine lv_aload_n hx hb dX12_passes_19 rfl (lv_at hl 0 rfl) ?_
        refine gp_get (v := .int i_cursor) (C := RX12) (T := TX12) (N := 33) (ci := 10) hx hb hts hin hown hK hG mg_o rfl 24 (by decide) (hts _ (List.mem_of_getElem? (i := 3) rfl)) (fun _ h9 => h9) rfl dX12_passes_20 ?_
        refine lv_aload_n hx hb dX12_passes_23 rfl (lv_at hl 1 rfl) ?_
        refine lv_iload_n hx hb dX12_passes_24 rfl (lv_at hl 2 rfl) ?_
        obtain ⟨b25, hj12⟩ := gb_ix hj12
        refine gp_iald hx hb hK hG mg_cell b25 dX12_passes_25 ?_
        obtain ⟨b26, hj12⟩ := gb_ix hj12
        refine gp_iast hx hb hK hG hS mg_kept b26 mu_kept dX12_passes_26 (fun H locs hG hS => ?_)
        refine lv_goto (tgt := 42) hx hb dX12_passes_27 (by decide) ?_
        have hj12 := Option.some.inj hj12
        subst hj12
        exact hJ12 H locs ls hG hS (lv_sub hl [0, 1, 2] rfl)
set_option maxHeartbeats 4000000 in
set_option maxRecDepth 100000 in
theorem c_X12_passes_cell {R : (Nat → Int32) × (Nat → Int32) × Int32} (hf : f_X12_passes_cell a_cell a_kept i_isKeeping i_cursor = some R) : Met l yX12_passes wsX12_passes rm_X12_passes_cell (va_Pc [.ref h0, .ref (h0 + 9)] (gPre D b M (mg cI h0 a_refused a_isWall a_kind a_lampCell a_range a_lit a_scenes a_who a_cell a_minuteOf a_standsAt i_lampMany i_people i_minute a_tape a_letter a_letterAt a_told i_taped i_at i_statements a_kept i_hasImage i_isKeeping i_cursor a_far a_shut a_queue i_queued a_litBy a_may a_row i_rowMany g0) (gTy cI cL))) (gQ D b none M (mg cI h0 a_refused a_isWall a_kind a_lampCell a_range a_lit a_scenes a_who R.1 a_minuteOf a_standsAt i_lampMany i_people i_minute a_tape a_letter a_letterAt a_told i_taped i_at i_statements R.2.1 i_hasImage i_isKeeping R.2.2 a_far a_shut a_queue i_queued a_litBy a_may a_row i_rowMany g0)) 0 0 (gA b) := by
  refine gp_met (cc := cX12_passes) (maxL := 3) (ret := none) (by decide) rfl (Nat.le_of_ble_eq_true rfl) ?_
  intro p e s m below meth c X ls hG hl
  have hS : va_S (gA b) s.heap s.heap [] := va_S.rf
  obtain ⟨H, hH0⟩ : ∃ H : Heap, H = s.heap := ⟨_, rfl⟩
  rw [← hH0] at hG ⊢
  have hS : va_S (gA b) s.heap H [] := by rw [hH0]; exact va_S.rf
  obtain ⟨locs, hlo⟩ : ∃ z : List Loc, z = [] := ⟨_, rfl⟩
  rw [← hlo] at hS ⊢
  unfold f_X12_passes_cell at hf
  obtain ⟨hx, hb, hr, hml, hown, hts, hlocks, hKn, hBs⟩ := id X
  have hK := hKn.1
  have hin : ∀ w ∈ wsX120, w ∈ wsX12_passes := fun w h => List.mem_cons_of_mem _ (List.mem_append_right _ h)
  have hl : lv_has ls 3 [(0, .ref h0), (1, .ref (h0 + 9))] := hl
  refine lv_iconst (v := 0) hx hb dX12_passes_0 (by decide) ?_
  refine lv_istore_n (lv' := [(2, .int 0), (0, .ref h0), (1, .ref (h0 + 9))]) hx hb dX12_passes_1 rfl hl (by decide) rfl (fun ls hl => ?_)
  refine w_X12_passes_cell_2 X _ _ _ _ _ hf (fun x2_58 hf H locs ls hG hS hl => ?_) _ _ _ hG hS (lv_sub hl [1, 2, 0] rfl)
  · have hf := Option.some.inj hf
    subst hf
    exact gp_retV hx hb hr hlocks hG hS (Nat.le_refl _) (Nat.le_refl _) dX12_passes_58
-- X12_passes@isWall
abbrev rm_X12_passes_isWall : Room := { frames := 0, cells := 0, slots := 0, locals := 0 }
set_option maxHeartbeats 4000000 in
set_option maxRecDepth 100000 in
theorem w_X12_passes_isWall_2 {α : Type} {R : α} {K58 : ((Nat → Int32) × (Nat → Int32) × Int32) → Option α} (X : gC p s m args meth c cX12_passes 3 none wsX12_passes RX12 D b (gTy cI cL)) : ∀ (n : Nat) (v2 : Int32) (a_isWall : Nat → Int32) (a_kept : Nat → Int32) (i_cursor : Int32), L_X12_passes_isWall_2 K58 i_isKeeping n v2 a_isWall a_kept i_cursor = some R → (∀ (x : (Nat → Int32) × (Nat → Int32) × Int32), K58 x = some R → ∀ (H : Heap) (locs : List Loc) (ls : Array Slot), GP D b M (mg cI h0 a_refused x.1 a_kind a_lampCell a_range a_lit a_scenes a_who a_cell a_minuteOf a_standsAt i_lampMany i_people i_minute a_tape a_letter a_letterAt a_told i_taped i_at i_statements x.2.1 i_hasImage i_isKeeping x.2.2 a_far a_shut a_queue i_queued a_litBy a_may a_row i_rowMany g0) H → va_S (gA b) s.heap H locs → lv_has ls 3 [] → W p l e rm_X12_passes_isWall s m args below meth c H locs 0 0 Q (F0 m 58 ls [])) → ∀ (H : Heap) (locs : List Loc) (ls : Array Slot), GP D b M (mg cI h0 a_refused a_isWall a_kind a_lampCell a_range a_lit a_scenes a_who a_cell a_minuteOf a_standsAt i_lampMany i_people i_minute a_tape a_letter a_letterAt a_told i_taped i_at i_statements a_kept i_hasImage i_isKeeping i_cursor a_far a_shut a_queue i_queued a_litBy a_may a_row i_rowMany g0) H → va_S (gA b) s.heap H locs → lv_has ls 3 [(0, .ref h0), (1, .ref (h0 + 2)), (2, .int v2)] → W p l e rm_X12_passes_isWall s m args below meth c H locs 0 0 Q (F0 m 2 ls []) := by
  obtain ⟨hx, hb, hr, hml, hown, hts, hlocks, hKn, hBs⟩ := id X
  have hK := hKn.1
  have hin : ∀ w ∈ wsX120, w ∈ wsX12_passes := fun w h => List.mem_cons_of_mem _ (List.mem_append_right _ h)
  intro n
  induction n with
  | zero =>
    intro v2 a_isWall a_kept i_cursor hf
    cases hf
  | succ n ih =>
    intro v2 a_isWall a_kept i_cursor hf hk58 H locs ls hG hS hl
    rw [L_X12_passes_isWall_2.eq_2] at hf
    refine lv_iload_n hx hb dX12_passes_2 rfl (lv_at hl 2 rfl) ?_
    refine lv_aload_n hx hb dX12_passes_3 rfl (lv_at hl 1 rfl) ?_
    refine gp_alenI (v := 36) hx hb hK hG mg_isWall rfl dX12_passes_4 ?_
    refine lv_icmp_ge (tgt := 58) hx hb dX12_passes_5 (by decide) (fun c5 => ?_) (fun c5 => ?_)
    · have hf := gb_t c5 hf
      exact hk58 _ hf _ _ _ hG hS (lv_sub hl [] rfl)
    · have hf := gb_f c5 hf
      refine lv_aload_n hx hb dX12_passes_8 rfl (lv_at hl 0 rfl) ?_
      refine gp_get (v := .int i_isKeeping) (C := RX12) (T := TX12) (N := 33) (ci := 10) hx hb hts hin hown hK hG mg_o rfl 23 (by decide) (hts _ (List.mem_of_getElem? (i := 1) rfl)) (fun _ h9 => h9) rfl dX12_passes_9 ?_
      obtain ⟨j12, hj12, hf⟩ := gb_b hf
      have hJ12 : ∀ (H : Heap) (locs : List Loc) (ls : Array Slot), GP D b M (mg cI h0 a_refused j12.1 a_kind a_lampCell a_range a_lit a_scenes a_who a_cell a_minuteOf a_standsAt i_lampMany i_people i_minute a_tape a_letter a_letterAt a_told i_taped i_at i_statements j12.2 i_hasImage i_isKeeping i_cursor a_far a_shut a_queue i_queued a_litBy a_may a_row i_rowMany g0) H → va_S (gA b) s.heap H locs → lv_has ls 3 [(0, .ref h0), (1, .ref (h0 + 2)), (2, .int v2)] → W p l e rm_X12_passes_isWall s m args below meth c H locs 0 0 Q (F0 m 42 ls []) := by
        intro H locs ls hG hS hl
        refine lv_aload_n hx hb dX12_passes_42 rfl (lv_at hl 0 rfl) ?_
        refine lv_dup hx hb dX12_passes_43 rfl ?_
        refine gp_get (v := .int i_cursor) (C := RX12) (T := TX12) (N := 33) (ci := 10) hx hb hts hin hown hK hG mg_o rfl 24 (by decide) (hts _ (List.mem_of_getElem? (i := 3) rfl)) (fun _ h9 => h9) rfl dX12_passes_44 ?_
        refine lv_iconst (v := 1) hx hb dX12_passes_47 (by decide) ?_
        refine lv_iadd hx hb dX12_passes_48 ?_
        refine gp_put (v := .int (i_cursor + 1)) (tyk := .int) (C := RX12) (T := TX12) (N := 33) (ci := 10) hx hb hts hin tyX12 tyX12_ok nmX12 hown hK hG hS mg_o rfl 24 (by decide) (hts _ (List.mem_of_getElem? (i := 3) rfl)) (fun _ h9 => h9) rfl rfl rfl rfl (Nat.le_of_ble_eq_true rfl) mu_cursor dX12_passes_49 (fun H locs hG hS => ?_)
        refine lv_iinc (v := v2 + 1) (lv' := [(2, .int (v2 + 1)), (0, .ref h0), (1, .ref (h0 + 2))]) hx hb dX12_passes_52 hl (k := 2) rfl rfl (by decide) rfl (fun ls hl => ?_)
        refine lv_goto (tgt := 2) hx hb dX12_passes_55 (by decide) ?_
        exact ih _ _ _ _ hf hk58 _ _ _ hG hS (lv_sub hl [1, 2, 0] rfl)
      refine lv_if_eq (tgt := 30) hx hb dX12_passes_12 (by decide) (fun c12 => ?_) (fun c12 => ?_)
      · have hj12 := gb_t c12 hj12
        refine lv_aload_n hx hb dX12_passes_30 rfl (lv_at hl 1 rfl) ?_
        refine lv_iload_n hx hb dX12_passes_31 rfl (lv_at hl 2 rfl) ?_
        refine lv_aload_n hx hb dX12_passes_32 rfl (lv_at hl 0 rfl) ?_
        refine gp_get (v := .ref (h0 + 16)) (C := RX12) (T := TX12) (N := 33) (ci := 10) hx hb hts hin hown hK hG mg_o rfl 21 (by decide) (hts _ (List.mem_of_getElem? (i := 2) rfl)) (fun _ h9 => h9) rfl dX12_passes_33 ?_
        refine lv_aload_n hx hb dX12_passes_36 rfl (lv_at hl 0 rfl) ?_
        refine gp_get (v := .int i_cursor) (C := RX12) (T := TX12) (N := 33) (ci := 10) hx hb hts hin hown hK hG mg_o rfl 24 (by decide) (hts _ (List.mem_of_getElem? (i := 3) rfl)) (fun _ h9 => h9) rfl dX12_passes_37 ?_
        obtain ⟨b40, hj12⟩ := gb_ix hj12
        refine gp_iald hx hb hK hG mg_kept b40 dX12_passes_40 ?_
        obtain ⟨b41, hj12⟩ := gb_ix hj12
        refine gp_iast hx hb hK hG hS mg_isWall b41 mu_isWall dX12_passes_41 (fun H locs hG hS => ?_)
        have hj12 := Option.some.inj hj12
        subst hj12
        exact hJ12 H locs ls hG hS (lv_sub hl [0, 1, 2] rfl)
      · have hj12 := gb_f c12 hj12
        refine lv_aload_n hx hb dX12_passes_15 rfl (lv_at hl 0 rfl) ?_
        refine gp_get (v := .ref (h0 + 16)) (C := RX12) (T := TX12) (N := 33) (ci := 10) hx hb hts hin hown hK hG mg_o rfl 21 (by decide) (hts _ (List.mem_of_getElem? (i := 2) rfl)) (fun _ h9 => h9) rfl dX12_passes_16 ?_
        refine lv_aload_n hx hb dX12_passes_19 rfl (lv_at hl 0 rfl) ?_
        refine gp_get (v := .int i_cursor) (C := RX12) (T := TX12) (N := 33) (ci := 10) hx hb hts hin hown hK hG mg_o rfl 24 (by decide) (hts _ (List.mem_of_getElem? (i := 3) rfl)) (fun _ h9 => h9) rfl dX12_passes_20 ?_
        refine lv_aload_n hx hb dX12_passes_23 rfl (lv_at hl 1 rfl) ?_
        refine lv_iload_n hx hb dX12_passes_24 rfl (lv_at hl 2 rfl) ?_
        obtain ⟨b25, hj12⟩ := gb_ix hj12
        refine gp_iald hx hb hK hG mg_isWall b25 dX12_passes_25 ?_
        obtain ⟨b26, hj12⟩ := gb_ix hj12
        refine gp_iast hx hb hK hG hS mg_kept b26 mu_kept dX12_passes_26 (fun H locs hG hS => ?_)
        refine lv_goto (tgt := 42) hx hb dX12_passes_27 (by decide) ?_
        have hj12 := Option.some.inj hj12
        subst hj12
        exact hJ12 H locs ls hG hS (lv_sub hl [0, 1, 2] rfl)
set_option maxHeartbeats 4000000 in
set_option maxRecDepth 100000 in
theorem c_X12_passes_isWall {R : (Nat → Int32) × (Nat → Int32) × Int32} (hf : f_X12_passes_isWall a_isWall a_kept i_isKeeping i_cursor = some R) : Met l yX12_passes wsX12_passes rm_X12_passes_isWall (va_Pc [.ref h0, .ref (h0 + 2)] (gPre D b M (mg cI h0 a_refused a_isWall a_kind a_lampCell a_range a_lit a_scenes a_who a_cell a_minuteOf a_standsAt i_lampMany i_people i_minute a_tape a_letter a_letterAt a_told i_taped i_at i_statements a_kept i_hasImage i_isKeeping i_cursor a_far a_shut a_queue i_queued a_litBy a_may a_row i_rowMany g0) (gTy cI cL))) (gQ D b none M (mg cI h0 a_refused R.1 a_kind a_lampCell a_range a_lit a_scenes a_who a_cell a_minuteOf a_standsAt i_lampMany i_people i_minute a_tape a_letter a_letterAt a_told i_taped i_at i_statements R.2.1 i_hasImage i_isKeeping R.2.2 a_far a_shut a_queue i_queued a_litBy a_may a_row i_rowMany g0)) 0 0 (gA b) := by
  refine gp_met (cc := cX12_passes) (maxL := 3) (ret := none) (by decide) rfl (Nat.le_of_ble_eq_true rfl) ?_
  intro p e s m below meth c X ls hG hl
  have hS : va_S (gA b) s.heap s.heap [] := va_S.rf
  obtain ⟨H, hH0⟩ : ∃ H : Heap, H = s.heap := ⟨_, rfl⟩
  rw [← hH0] at hG ⊢
  have hS : va_S (gA b) s.heap H [] := by rw [hH0]; exact va_S.rf
  obtain ⟨locs, hlo⟩ : ∃ z : List Loc, z = [] := ⟨_, rfl⟩
  rw [← hlo] at hS ⊢
  unfold f_X12_passes_isWall at hf
  obtain ⟨hx, hb, hr, hml, hown, hts, hlocks, hKn, hBs⟩ := id X
  have hK := hKn.1
  have hin : ∀ w ∈ wsX120, w ∈ wsX12_passes := fun w h => List.mem_cons_of_mem _ (List.mem_append_right _ h)
  have hl : lv_has ls 3 [(0, .ref h0), (1, .ref (h0 + 2))] := hl
  refine lv_iconst (v := 0) hx hb dX12_passes_0 (by decide) ?_
  refine lv_istore_n (lv' := [(2, .int 0), (0, .ref h0), (1, .ref (h0 + 2))]) hx hb dX12_passes_1 rfl hl (by decide) rfl (fun ls hl => ?_)
  refine w_X12_passes_isWall_2 X _ _ _ _ _ hf (fun x2_58 hf H locs ls hG hS hl => ?_) _ _ _ hG hS (lv_sub hl [1, 2, 0] rfl)
  · have hf := Option.some.inj hf
    subst hf
    exact gp_retV hx hb hr hlocks hG hS (Nat.le_refl _) (Nat.le_refl _) dX12_passes_58
-- X12_passes@kind
abbrev rm_X12_passes_kind : Room := { frames := 0, cells := 0, slots := 0, locals := 0 }
set_option maxHeartbeats 4000000 in
set_option maxRecDepth 100000 in
theorem w_X12_passes_kind_2 {α : Type} {R : α} {K58 : ((Nat → Int32) × (Nat → Int32) × Int32) → Option α} (X : gC p s m args meth c cX12_passes 3 none wsX12_passes RX12 D b (gTy cI cL)) : ∀ (n : Nat) (v2 : Int32) (a_kind : Nat → Int32) (a_kept : Nat → Int32) (i_cursor : Int32), L_X12_passes_kind_2 K58 i_isKeeping n v2 a_kind a_kept i_cursor = some R → (∀ (x : (Nat → Int32) × (Nat → Int32) × Int32), K58 x = some R → ∀ (H : Heap) (locs : List Loc) (ls : Array Slot), GP D b M (mg cI h0 a_refused a_isWall x.1 a_lampCell a_range a_lit a_scenes a_who a_cell a_minuteOf a_standsAt i_lampMany i_people i_minute a_tape a_letter a_letterAt a_told i_taped i_at i_statements x.2.1 i_hasImage i_isKeeping x.2.2 a_far a_shut a_queue i_queued a_litBy a_may a_row i_rowMany g0) H → va_S (gA b) s.heap H locs → lv_has ls 3 [] → W p l e rm_X12_passes_kind s m args below meth c H locs 0 0 Q (F0 m 58 ls [])) → ∀ (H : Heap) (locs : List Loc) (ls : Array Slot), GP D b M (mg cI h0 a_refused a_isWall a_kind a_lampCell a_range a_lit a_scenes a_who a_cell a_minuteOf a_standsAt i_lampMany i_people i_minute a_tape a_letter a_letterAt a_told i_taped i_at i_statements a_kept i_hasImage i_isKeeping i_cursor a_far a_shut a_queue i_queued a_litBy a_may a_row i_rowMany g0) H → va_S (gA b) s.heap H locs → lv_has ls 3 [(0, .ref h0), (1, .ref (h0 + 3)), (2, .int v2)] → W p l e rm_X12_passes_kind s m args below meth c H locs 0 0 Q (F0 m 2 ls []) := by
  obtain ⟨hx, hb, hr, hml, hown, hts, hlocks, hKn, hBs⟩ := id X
  have hK := hKn.1
  have hin : ∀ w ∈ wsX120, w ∈ wsX12_passes := fun w h => List.mem_cons_of_mem _ (List.mem_append_right _ h)
  intro n
  induction n with
  | zero =>
    intro v2 a_kind a_kept i_cursor hf
    cases hf
  | succ n ih =>
    intro v2 a_kind a_kept i_cursor hf hk58 H locs ls hG hS hl
    rw [L_X12_passes_kind_2.eq_2] at hf
    refine lv_iload_n hx hb dX12_passes_2 rfl (lv_at hl 2 rfl) ?_
    refine lv_aload_n hx hb dX12_passes_3 rfl (lv_at hl 1 rfl) ?_
    refine gp_alenI (v := 6) hx hb hK hG mg_kind rfl dX12_passes_4 ?_
    refine lv_icmp_ge (tgt := 58) hx hb dX12_passes_5 (by decide) (fun c5 => ?_) (fun c5 => ?_)
    · have hf := gb_t c5 hf
      exact hk58 _ hf _ _ _ hG hS (lv_sub hl [] rfl)
    · have hf := gb_f c5 hf
      refine lv_aload_n hx hb dX12_passes_8 rfl (lv_at hl 0 rfl) ?_
      refine gp_get (v := .int i_isKeeping) (C := RX12) (T := TX12) (N := 33) (ci := 10) hx hb hts hin hown hK hG mg_o rfl 23 (by decide) (hts _ (List.mem_of_getElem? (i := 1) rfl)) (fun _ h9 => h9) rfl dX12_passes_9 ?_
      obtain ⟨j12, hj12, hf⟩ := gb_b hf
      have hJ12 : ∀ (H : Heap) (locs : List Loc) (ls : Array Slot), GP D b M (mg cI h0 a_refused a_isWall j12.1 a_lampCell a_range a_lit a_scenes a_who a_cell a_minuteOf a_standsAt i_lampMany i_people i_minute a_tape a_letter a_letterAt a_told i_taped i_at i_statements j12.2 i_hasImage i_isKeeping i_cursor a_far a_shut a_queue i_queued a_litBy a_may a_row i_rowMany g0) H → va_S (gA b) s.heap H locs → lv_has ls 3 [(0, .ref h0), (1, .ref (h0 + 3)), (2, .int v2)] → W p l e rm_X12_passes_kind s m args below meth c H locs 0 0 Q (F0 m 42 ls []) := by
        intro H locs ls hG hS hl
        refine lv_aload_n hx hb dX12_passes_42 rfl (lv_at hl 0 rfl) ?_
        refine lv_dup hx hb dX12_passes_43 rfl ?_
        refine gp_get (v := .int i_cursor) (C := RX12) (T := TX12) (N := 33) (ci := 10) hx hb hts hin hown hK hG mg_o rfl 24 (by decide) (hts _ (List.mem_of_getElem? (i := 3) rfl)) (fun _ h9 => h9) rfl dX12_passes_44 ?_
        refine lv_iconst (v := 1) hx hb dX12_passes_47 (by decide) ?_
        refine lv_iadd hx hb dX12_passes_48 ?_
        refine gp_put (v := .int (i_cursor + 1)) (tyk := .int) (C := RX12) (T := TX12) (N := 33) (ci := 10) hx hb hts hin tyX12 tyX12_ok nmX12 hown hK hG hS mg_o rfl 24 (by decide) (hts _ (List.mem_of_getElem? (i := 3) rfl)) (fun _ h9 => h9) rfl rfl rfl rfl (Nat.le_of_ble_eq_true rfl) mu_cursor dX12_passes_49 (fun H locs hG hS => ?_)
        refine lv_iinc (v := v2 + 1) (lv' := [(2, .int (v2 + 1)), (0, .ref h0), (1, .ref (h0 + 3))]) hx hb dX12_passes_52 hl (k := 2) rfl rfl (by decide) rfl (fun ls hl => ?_)
        refine lv_goto (tgt := 2) hx hb dX12_passes_55 (by decide) ?_
        exact ih _ _ _ _ hf hk58 _ _ _ hG hS (lv_sub hl [1, 2, 0] rfl)
      refine lv_if_eq (tgt := 30) hx hb dX12_passes_12 (by decide) (fun c12 => ?_) (fun c12 => ?_)
      · have hj12 := gb_t c12 hj12
        refine lv_aload_n hx hb dX12_passes_30 rfl (lv_at hl 1 rfl) ?_
        refine lv_iload_n hx hb dX12_passes_31 rfl (lv_at hl 2 rfl) ?_
        refine lv_aload_n hx hb dX12_passes_32 rfl (lv_at hl 0 rfl) ?_
        refine gp_get (v := .ref (h0 + 16)) (C := RX12) (T := TX12) (N := 33) (ci := 10) hx hb hts hin hown hK hG mg_o rfl 21 (by decide) (hts _ (List.mem_of_getElem? (i := 2) rfl)) (fun _ h9 => h9) rfl dX12_passes_33 ?_
        refine lv_aload_n hx hb dX12_passes_36 rfl (lv_at hl 0 rfl) ?_
        refine gp_get (v := .int i_cursor) (C := RX12) (T := TX12) (N := 33) (ci := 10) hx hb hts hin hown hK hG mg_o rfl 24 (by decide) (hts _ (List.mem_of_getElem? (i := 3) rfl)) (fun _ h9 => h9) rfl dX12_passes_37 ?_
        obtain ⟨b40, hj12⟩ := gb_ix hj12
        refine gp_iald hx hb hK hG mg_kept b40 dX12_passes_40 ?_
        obtain ⟨b41, hj12⟩ := gb_ix hj12
        refine gp_iast hx hb hK hG hS mg_kind b41 mu_kind dX12_passes_41 (fun H locs hG hS => ?_)
        have hj12 := Option.some.inj hj12
        subst hj12
        exact hJ12 H locs ls hG hS (lv_sub hl [0, 1, 2] rfl)
      · have hj12 := gb_f c12 hj12
        refine lv_aload_n hx hb dX12_passes_15 rfl (lv_at hl 0 rfl) ?_
        refine gp_get (v := .ref (h0 + 16)) (C := RX12) (T := TX12) (N := 33) (ci := 10) hx hb hts hin hown hK hG mg_o rfl 21 (by decide) (hts _ (List.mem_of_getElem? (i := 2) rfl)) (fun _ h9 => h9) rfl dX12_passes_16 ?_
        refine lv_aload_n hx hb dX12_passes_19 rfl (lv_at hl 0 rfl) ?_
        refine gp_get (v := .int i_cursor) (C := RX12) (T := TX12) (N := 33) (ci := 10) hx hb hts hin hown hK hG mg_o rfl 24 (by decide) (hts _ (List.mem_of_getElem? (i := 3) rfl)) (fun _ h9 => h9) rfl dX12_passes_20 ?_
        refine lv_aload_n hx hb dX12_passes_23 rfl (lv_at hl 1 rfl) ?_
        refine lv_iload_n hx hb dX12_passes_24 rfl (lv_at hl 2 rfl) ?_
        obtain ⟨b25, hj12⟩ := gb_ix hj12
        refine gp_iald hx hb hK hG mg_kind b25 dX12_passes_25 ?_
        obtain ⟨b26, hj12⟩ := gb_ix hj12
        refine gp_iast hx hb hK hG hS mg_kept b26 mu_kept dX12_passes_26 (fun H locs hG hS => ?_)
        refine lv_goto (tgt := 42) hx hb dX12_passes_27 (by decide) ?_
        have hj12 := Option.some.inj hj12
        subst hj12
        exact hJ12 H locs ls hG hS (lv_sub hl [0, 1, 2] rfl)
set_option maxHeartbeats 4000000 in
set_option maxRecDepth 100000 in
theorem c_X12_passes_kind {R : (Nat → Int32) × (Nat → Int32) × Int32} (hf : f_X12_passes_kind a_kind a_kept i_isKeeping i_cursor = some R) : Met l yX12_passes wsX12_passes rm_X12_passes_kind (va_Pc [.ref h0, .ref (h0 + 3)] (gPre D b M (mg cI h0 a_refused a_isWall a_kind a_lampCell a_range a_lit a_scenes a_who a_cell a_minuteOf a_standsAt i_lampMany i_people i_minute a_tape a_letter a_letterAt a_told i_taped i_at i_statements a_kept i_hasImage i_isKeeping i_cursor a_far a_shut a_queue i_queued a_litBy a_may a_row i_rowMany g0) (gTy cI cL))) (gQ D b none M (mg cI h0 a_refused a_isWall R.1 a_lampCell a_range a_lit a_scenes a_who a_cell a_minuteOf a_standsAt i_lampMany i_people i_minute a_tape a_letter a_letterAt a_told i_taped i_at i_statements R.2.1 i_hasImage i_isKeeping R.2.2 a_far a_shut a_queue i_queued a_litBy a_may a_row i_rowMany g0)) 0 0 (gA b) := by
  refine gp_met (cc := cX12_passes) (maxL := 3) (ret := none) (by decide) rfl (Nat.le_of_ble_eq_true rfl) ?_
  intro p e s m below meth c X ls hG hl
  have hS : va_S (gA b) s.heap s.heap [] := va_S.rf
  obtain ⟨H, hH0⟩ : ∃ H : Heap, H = s.heap := ⟨_, rfl⟩
  rw [← hH0] at hG ⊢
  have hS : va_S (gA b) s.heap H [] := by rw [hH0]; exact va_S.rf
  obtain ⟨locs, hlo⟩ : ∃ z : List Loc, z = [] := ⟨_, rfl⟩
  rw [← hlo] at hS ⊢
  unfold f_X12_passes_kind at hf
  obtain ⟨hx, hb, hr, hml, hown, hts, hlocks, hKn, hBs⟩ := id X
  have hK := hKn.1
  have hin : ∀ w ∈ wsX120, w ∈ wsX12_passes := fun w h => List.mem_cons_of_mem _ (List.mem_append_right _ h)
  have hl : lv_has ls 3 [(0, .ref h0), (1, .ref (h0 + 3))] := hl
  refine lv_iconst (v := 0) hx hb dX12_passes_0 (by decide) ?_
  refine lv_istore_n (lv' := [(2, .int 0), (0, .ref h0), (1, .ref (h0 + 3))]) hx hb dX12_passes_1 rfl hl (by decide) rfl (fun ls hl => ?_)
  refine w_X12_passes_kind_2 X _ _ _ _ _ hf (fun x2_58 hf H locs ls hG hS hl => ?_) _ _ _ hG hS (lv_sub hl [1, 2, 0] rfl)
  · have hf := Option.some.inj hf
    subst hf
    exact gp_retV hx hb hr hlocks hG hS (Nat.le_refl _) (Nat.le_refl _) dX12_passes_58
-- X12_passes@lampCell
abbrev rm_X12_passes_lampCell : Room := { frames := 0, cells := 0, slots := 0, locals := 0 }
set_option maxHeartbeats 4000000 in
set_option maxRecDepth 100000 in
theorem w_X12_passes_lampCell_2 {α : Type} {R : α} {K58 : ((Nat → Int32) × (Nat → Int32) × Int32) → Option α} (X : gC p s m args meth c cX12_passes 3 none wsX12_passes RX12 D b (gTy cI cL)) : ∀ (n : Nat) (v2 : Int32) (a_lampCell : Nat → Int32) (a_kept : Nat → Int32) (i_cursor : Int32), L_X12_passes_lampCell_2 K58 i_isKeeping n v2 a_lampCell a_kept i_cursor = some R → (∀ (x : (Nat → Int32) × (Nat → Int32) × Int32), K58 x = some R → ∀ (H : Heap) (locs : List Loc) (ls : Array Slot), GP D b M (mg cI h0 a_refused a_isWall a_kind x.1 a_range a_lit a_scenes a_who a_cell a_minuteOf a_standsAt i_lampMany i_people i_minute a_tape a_letter a_letterAt a_told i_taped i_at i_statements x.2.1 i_hasImage i_isKeeping x.2.2 a_far a_shut a_queue i_queued a_litBy a_may a_row i_rowMany g0) H → va_S (gA b) s.heap H locs → lv_has ls 3 [] → W p l e rm_X12_passes_lampCell s m args below meth c H locs 0 0 Q (F0 m 58 ls [])) → ∀ (H : Heap) (locs : List Loc) (ls : Array Slot), GP D b M (mg cI h0 a_refused a_isWall a_kind a_lampCell a_range a_lit a_scenes a_who a_cell a_minuteOf a_standsAt i_lampMany i_people i_minute a_tape a_letter a_letterAt a_told i_taped i_at i_statements a_kept i_hasImage i_isKeeping i_cursor a_far a_shut a_queue i_queued a_litBy a_may a_row i_rowMany g0) H → va_S (gA b) s.heap H locs → lv_has ls 3 [(0, .ref h0), (1, .ref (h0 + 4)), (2, .int v2)] → W p l e rm_X12_passes_lampCell s m args below meth c H locs 0 0 Q (F0 m 2 ls []) := by
  obtain ⟨hx, hb, hr, hml, hown, hts, hlocks, hKn, hBs⟩ := id X
  have hK := hKn.1
  have hin : ∀ w ∈ wsX120, w ∈ wsX12_passes := fun w h => List.mem_cons_of_mem _ (List.mem_append_right _ h)
  intro n
  induction n with
  | zero =>
    intro v2 a_lampCell a_kept i_cursor hf
    cases hf
  | succ n ih =>
    intro v2 a_lampCell a_kept i_cursor hf hk58 H locs ls hG hS hl
    rw [L_X12_passes_lampCell_2.eq_2] at hf
    refine lv_iload_n hx hb dX12_passes_2 rfl (lv_at hl 2 rfl) ?_
    refine lv_aload_n hx hb dX12_passes_3 rfl (lv_at hl 1 rfl) ?_
    refine gp_alenI (v := 6) hx hb hK hG mg_lampCell rfl dX12_passes_4 ?_
    refine lv_icmp_ge (tgt := 58) hx hb dX12_passes_5 (by decide) (fun c5 => ?_) (fun c5 => ?_)
    · have hf := gb_t c5 hf
      exact hk58 _ hf _ _ _ hG hS (lv_sub hl [] rfl)
    · have hf := gb_f c5 hf
      refine lv_aload_n hx hb dX12_passes_8 rfl (lv_at hl 0 rfl) ?_
      refine gp_get (v := .int i_isKeeping) (C := RX12) (T := TX12) (N := 33) (ci := 10) hx hb hts hin hown hK hG mg_o rfl 23 (by decide) (hts _ (List.mem_of_getElem? (i := 1) rfl)) (fun _ h9 => h9) rfl dX12_passes_9 ?_
      obtain ⟨j12, hj12, hf⟩ := gb_b hf
      have hJ12 : ∀ (H : Heap) (locs : List Loc) (ls : Array Slot), GP D b M (mg cI h0 a_refused a_isWall a_kind j12.1 a_range a_lit a_scenes a_who a_cell a_minuteOf a_standsAt i_lampMany i_people i_minute a_tape a_letter a_letterAt a_told i_taped i_at i_statements j12.2 i_hasImage i_isKeeping i_cursor a_far a_shut a_queue i_queued a_litBy a_may a_row i_rowMany g0) H → va_S (gA b) s.heap H locs → lv_has ls 3 [(0, .ref h0), (1, .ref (h0 + 4)), (2, .int v2)] → W p l e rm_X12_passes_lampCell s m args below meth c H locs 0 0 Q (F0 m 42 ls []) := by
        intro H locs ls hG hS hl
        refine lv_aload_n hx hb dX12_passes_42 rfl (lv_at hl 0 rfl) ?_
        refine lv_dup hx hb dX12_passes_43 rfl ?_
        refine gp_get (v := .int i_cursor) (C := RX12) (T := TX12) (N := 33) (ci := 10) hx hb hts hin hown hK hG mg_o rfl 24 (by decide) (hts _ (List.mem_of_getElem? (i := 3) rfl)) (fun _ h9 => h9) rfl dX12_passes_44 ?_
        refine lv_iconst (v := 1) hx hb dX12_passes_47 (by decide) ?_
        refine lv_iadd hx hb dX12_passes_48 ?_
        refine gp_put (v := .int (i_cursor + 1)) (tyk := .int) (C := RX12) (T := TX12) (N := 33) (ci := 10) hx hb hts hin tyX12 tyX12_ok nmX12 hown hK hG hS mg_o rfl 24 (by decide) (hts _ (List.mem_of_getElem? (i := 3) rfl)) (fun _ h9 => h9) rfl rfl rfl rfl (Nat.le_of_ble_eq_true rfl) mu_cursor dX12_passes_49 (fun H locs hG hS => ?_)
        refine lv_iinc (v := v2 + 1) (lv' := [(2, .int (v2 + 1)), (0, .ref h0), (1, .ref (h0 + 4))]) hx hb dX12_passes_52 hl (k := 2) rfl rfl (by decide) rfl (fun ls hl => ?_)
        refine lv_goto (tgt := 2) hx hb dX12_passes_55 (by decide) ?_
        exact ih _ _ _ _ hf hk58 _ _ _ hG hS (lv_sub hl [1, 2, 0] rfl)
      refine lv_if_eq (tgt := 30) hx hb dX12_passes_12 (by decide) (fun c12 => ?_) (fun c12 => ?_)
      · have hj12 := gb_t c12 hj12
        refine lv_aload_n hx hb dX12_passes_30 rfl (lv_at hl 1 rfl) ?_
        refine lv_iload_n hx hb dX12_passes_31 rfl (lv_at hl 2 rfl) ?_
        refine lv_aload_n hx hb dX12_passes_32 rfl (lv_at hl 0 rfl) ?_
        refine gp_get (v := .ref (h0 + 16)) (C := RX12) (T := TX12) (N := 33) (ci := 10) hx hb hts hin hown hK hG mg_o rfl 21 (by decide) (hts _ (List.mem_of_getElem? (i := 2) rfl)) (fun _ h9 => h9) rfl dX12_passes_33 ?_
        refine lv_aload_n hx hb dX12_passes_36 rfl (lv_at hl 0 rfl) ?_
        refine gp_get (v := .int i_cursor) (C := RX12) (T := TX12) (N := 33) (ci := 10) hx hb hts hin hown hK hG mg_o rfl 24 (by decide) (hts _ (List.mem_of_getElem? (i := 3) rfl)) (fun _ h9 => h9) rfl dX12_passes_37 ?_
        obtain ⟨b40, hj12⟩ := gb_ix hj12
        refine gp_iald hx hb hK hG mg_kept b40 dX12_passes_40 ?_
        obtain ⟨b41, hj12⟩ := gb_ix hj12
        refine gp_iast hx hb hK hG hS mg_lampCell b41 mu_lampCell dX12_passes_41 (fun H locs hG hS => ?_)
        have hj12 := Option.some.inj hj12
        subst hj12
        exact hJ12 H locs ls hG hS (lv_sub hl [0, 1, 2] rfl)
      · have hj12 := gb_f c12 hj12
        refine lv_aload_n hx hb dX12_passes_15 rfl (lv_at hl 0 rfl) ?_
        refine gp_get (v := .ref (h0 + 16)) (C := RX12) (T := TX12) (N := 33) (ci := 10) hx hb hts hin hown hK hG mg_o rfl 21 (by decide) (hts _ (List.mem_of_getElem? (i := 2) rfl)) (fun _ h9 => h9) rfl dX12_passes_16 ?_
        refine lv_aload_n hx hb dX12_passes_19 rfl (lv_at hl 0 rfl) ?_
        refine gp_get (v := .int i_cursor) (C := RX12) (T := TX12) (N := 33) (ci := 10) hx hb hts hin hown hK hG mg_o rfl 24 (by decide) (hts _ (List.mem_of_getElem? (i := 3) rfl)) (fun _ h9 => h9) rfl dX12_passes_20 ?_
        refine lv_aload_n hx hb dX12_passes_23 rfl (lv_at hl 1 rfl) ?_
        refine lv_iload_n hx hb dX12_passes_24 rfl (lv_at hl 2 rfl) ?_
        obtain ⟨b25, hj12⟩ := gb_ix hj12
        refine gp_iald hx hb hK hG mg_lampCell b25 dX12_passes_25 ?_
        obtain ⟨b26, hj12⟩ := gb_ix hj12
        refine gp_iast hx hb hK hG hS mg_kept b26 mu_kept dX12_passes_26 (fun H locs hG hS => ?_)
        refine lv_goto (tgt := 42) hx hb dX12_passes_27 (by decide) ?_
        have hj12 := Option.some.inj hj12
        subst hj12
        exact hJ12 H locs ls hG hS (lv_sub hl [0, 1, 2] rfl)
set_option maxHeartbeats 4000000 in
set_option maxRecDepth 100000 in
theorem c_X12_passes_lampCell {R : (Nat → Int32) × (Nat → Int32) × Int32} (hf : f_X12_passes_lampCell a_lampCell a_kept i_isKeeping i_cursor = some R) : Met l yX12_passes wsX12_passes rm_X12_passes_lampCell (va_Pc [.ref h0, .ref (h0 + 4)] (gPre D b M (mg cI h0 a_refused a_isWall a_kind a_lampCell a_range a_lit a_scenes a_who a_cell a_minuteOf a_standsAt i_lampMany i_people i_minute a_tape a_letter a_letterAt a_told i_taped i_at i_statements a_kept i_hasImage i_isKeeping i_cursor a_far a_shut a_queue i_queued a_litBy a_may a_row i_rowMany g0) (gTy cI cL))) (gQ D b none M (mg cI h0 a_refused a_isWall a_kind R.1 a_range a_lit a_scenes a_who a_cell a_minuteOf a_standsAt i_lampMany i_people i_minute a_tape a_letter a_letterAt a_told i_taped i_at i_statements R.2.1 i_hasImage i_isKeeping R.2.2 a_far a_shut a_queue i_queued a_litBy a_may a_row i_rowMany g0)) 0 0 (gA b) := by
  refine gp_met (cc := cX12_passes) (maxL := 3) (ret := none) (by decide) rfl (Nat.le_of_ble_eq_true rfl) ?_
  intro p e s m below meth c X ls hG hl
  have hS : va_S (gA b) s.heap s.heap [] := va_S.rf
  obtain ⟨H, hH0⟩ : ∃ H : Heap, H = s.heap := ⟨_, rfl⟩
  rw [← hH0] at hG ⊢
  have hS : va_S (gA b) s.heap H [] := by rw [hH0]; exact va_S.rf
  obtain ⟨locs, hlo⟩ : ∃ z : List Loc, z = [] := ⟨_, rfl⟩
  rw [← hlo] at hS ⊢
  unfold f_X12_passes_lampCell at hf
  obtain ⟨hx, hb, hr, hml, hown, hts, hlocks, hKn, hBs⟩ := id X
  have hK := hKn.1
  have hin : ∀ w ∈ wsX120, w ∈ wsX12_passes := fun w h => List.mem_cons_of_mem _ (List.mem_append_right _ h)
  have hl : lv_has ls 3 [(0, .ref h0), (1, .ref (h0 + 4))] := hl
  refine lv_iconst (v := 0) hx hb dX12_passes_0 (by decide) ?_
  refine lv_istore_n (lv' := [(2, .int 0), (0, .ref h0), (1, .ref (h0 + 4))]) hx hb dX12_passes_1 rfl hl (by decide) rfl (fun ls hl => ?_)
  refine w_X12_passes_lampCell_2 X _ _ _ _ _ hf (fun x2_58 hf H locs ls hG hS hl => ?_) _ _ _ hG hS (lv_sub hl [1, 2, 0] rfl)
  · have hf := Option.some.inj hf
    subst hf
    exact gp_retV hx hb hr hlocks hG hS (Nat.le_refl _) (Nat.le_refl _) dX12_passes_58
-- X12_passes@lit
abbrev rm_X12_passes_lit : Room := { frames := 0, cells := 0, slots := 0, locals := 0 }
set_option maxHeartbeats 4000000 in
set_option maxRecDepth 100000 in
theorem w_X12_passes_lit_2 {α : Type} {R : α} {K58 : ((Nat → Int32) × (Nat → Int32) × Int32) → Option α} (X : gC p s m args meth c cX12_passes 3 none wsX12_passes RX12 D b (gTy cI cL)) : ∀ (n : Nat) (v2 : Int32) (a_lit : Nat → Int32) (a_kept : Nat → Int32) (i_cursor : Int32), L_X12_passes_lit_2 K58 i_isKeeping n v2 a_lit a_kept i_cursor = some R → (∀ (x : (Nat → Int32) × (Nat → Int32) × Int32), K58 x = some R → ∀ (H : Heap) (locs : List Loc) (ls : Array Slot), GP D b M (mg cI h0 a_refused a_isWall a_kind a_lampCell a_range x.1 a_scenes a_who a_cell a_minuteOf a_standsAt i_lampMany i_people i_minute a_tape a_letter a_letterAt a_told i_taped i_at i_statements x.2.1 i_hasImage i_isKeeping x.2.2 a_far a_shut a_queue i_queued a_litBy a_may a_row i_rowMany g0) H → va_S (gA b) s.heap H locs → lv_has ls 3 [] → W p l e rm_X12_passes_lit s m args below meth c H locs 0 0 Q (F0 m 58 ls [])) → ∀ (H : Heap) (locs : List Loc) (ls : Array Slot), GP D b M (mg cI h0 a_refused a_isWall a_kind a_lampCell a_range a_lit a_scenes a_who a_cell a_minuteOf a_standsAt i_lampMany i_people i_minute a_tape a_letter a_letterAt a_told i_taped i_at i_statements a_kept i_hasImage i_isKeeping i_cursor a_far a_shut a_queue i_queued a_litBy a_may a_row i_rowMany g0) H → va_S (gA b) s.heap H locs → lv_has ls 3 [(0, .ref h0), (1, .ref (h0 + 6)), (2, .int v2)] → W p l e rm_X12_passes_lit s m args below meth c H locs 0 0 Q (F0 m 2 ls []) := by
  obtain ⟨hx, hb, hr, hml, hown, hts, hlocks, hKn, hBs⟩ := id X
  have hK := hKn.1
  have hin : ∀ w ∈ wsX120, w ∈ wsX12_passes := fun w h => List.mem_cons_of_mem _ (List.mem_append_right _ h)
  intro n
  induction n with
  | zero =>
    intro v2 a_lit a_kept i_cursor hf
    cases hf
  | succ n ih =>
    intro v2 a_lit a_kept i_cursor hf hk58 H locs ls hG hS hl
    rw [L_X12_passes_lit_2.eq_2] at hf
    refine lv_iload_n hx hb dX12_passes_2 rfl (lv_at hl 2 rfl) ?_
    refine lv_aload_n hx hb dX12_passes_3 rfl (lv_at hl 1 rfl) ?_
    refine gp_alenI (v := 6) hx hb hK hG mg_lit rfl dX12_passes_4 ?_
    refine lv_icmp_ge (tgt := 58) hx hb dX12_passes_5 (by decide) (fun c5 => ?_) (fun c5 => ?_)
    · have hf := gb_t c5 hf
      exact hk58 _ hf _ _ _ hG hS (lv_sub hl [] rfl)
    · have hf := gb_f c5 hf
      refine lv_aload_n hx hb dX12_passes_8 rfl (lv_at hl 0 rfl) ?_
      refine gp_get (v := .int i_isKeeping) (C := RX12) (T := TX12) (N := 33) (ci := 10) hx hb hts hin hown hK hG mg_o rfl 23 (by decide) (hts _ (List.mem_of_getElem? (i := 1) rfl)) (fun _ h9 => h9) rfl dX12_passes_9 ?_
      obtain ⟨j12, hj12, hf⟩ := gb_b hf
      have hJ12 : ∀ (H : Heap) (locs : List Loc) (ls : Array Slot), GP D b M (mg cI h0 a_refused a_isWall a_kind a_lampCell a_range j12.1 a_scenes a_who a_cell a_minuteOf a_standsAt i_lampMany i_people i_minute a_tape a_letter a_letterAt a_told i_taped i_at i_statements j12.2 i_hasImage i_isKeeping i_cursor a_far a_shut a_queue i_queued a_litBy a_may a_row i_rowMany g0) H → va_S (gA b) s.heap H locs → lv_has ls 3 [(0, .ref h0), (1, .ref (h0 + 6)), (2, .int v2)] → W p l e rm_X12_passes_lit s m args below meth c H locs 0 0 Q (F0 m 42 ls []) := by
        intro H locs ls hG hS hl
        refine lv_aload_n hx hb dX12_passes_42 rfl (lv_at hl 0 rfl) ?_
        refine lv_dup hx hb dX12_passes_43 rfl ?_
        refine gp_get (v := .int i_cursor) (C := RX12) (T := TX12) (N := 33) (ci := 10) hx hb hts hin hown hK hG mg_o rfl 24 (by decide) (hts _ (List.mem_of_getElem? (i := 3) rfl)) (fun _ h9 => h9) rfl dX12_passes_44 ?_
        refine lv_iconst (v := 1) hx hb dX12_passes_47 (by decide) ?_
        refine lv_iadd hx hb dX12_passes_48 ?_
        refine gp_put (v := .int (i_cursor + 1)) (tyk := .int) (C := RX12) (T := TX12) (N := 33) (ci := 10) hx hb hts hin tyX12 tyX12_ok nmX12 hown hK hG hS mg_o rfl 24 (by decide) (hts _ (List.mem_of_getElem? (i := 3) rfl)) (fun _ h9 => h9) rfl rfl rfl rfl (Nat.le_of_ble_eq_true rfl) mu_cursor dX12_passes_49 (fun H locs hG hS => ?_)
        refine lv_iinc (v := v2 + 1) (lv' := [(2, .int (v2 + 1)), (0, .ref h0), (1, .ref (h0 + 6))]) hx hb dX12_passes_52 hl (k := 2) rfl rfl (by decide) rfl (fun ls hl => ?_)
        refine lv_goto (tgt := 2) hx hb dX12_passes_55 (by decide) ?_
        exact ih _ _ _ _ hf hk58 _ _ _ hG hS (lv_sub hl [1, 2, 0] rfl)
      refine lv_if_eq (tgt := 30) hx hb dX12_passes_12 (by decide) (fun c12 => ?_) (fun c12 => ?_)
      · have hj12 := gb_t c12 hj12
        refine lv_aload_n hx hb dX12_passes_30 rfl (lv_at hl 1 rfl) ?_
        refine lv_iload_n hx hb dX12_passes_31 rfl (lv_at hl 2 rfl) ?_
        refine lv_aload_n hx hb dX12_passes_32 rfl (lv_at hl 0 rfl) ?_
        refine gp_get (v := .ref (h0 + 16)) (C := RX12) (T := TX12) (N := 33) (ci := 10) hx hb hts hin hown hK hG mg_o rfl 21 (by decide) (hts _ (List.mem_of_getElem? (i := 2) rfl)) (fun _ h9 => h9) rfl dX12_passes_33 ?_
        refine lv_aload_n hx hb dX12_passes_36 rfl (lv_at hl 0 rfl) ?_
        refine gp_get (v := .int i_cursor) (C := RX12) (T := TX12) (N := 33) (ci := 10) hx hb hts hin hown hK hG mg_o rfl 24 (by decide) (hts _ (List.mem_of_getElem? (i := 3) rfl)) (fun _ h9 => h9) rfl dX12_passes_37 ?_
        obtain ⟨b40, hj12⟩ := gb_ix hj12
        refine gp_iald hx hb hK hG mg_kept b40 dX12_passes_40 ?_
        obtain ⟨b41, hj12⟩ := gb_ix hj12
        refine gp_iast hx hb hK hG hS mg_lit b41 mu_lit dX12_passes_41 (fun H locs hG hS => ?_)
        have hj12 := Option.some.inj hj12
        subst hj12
        exact hJ12 H locs ls hG hS (lv_sub hl [0, 1, 2] rfl)
      · have hj12 := gb_f c12 hj12
        refine lv_aload_n hx hb dX12_passes_15 rfl (lv_at hl 0 rfl) ?_
        refine gp_get (v := .ref (h0 + 16)) (C := RX12) (T := TX12) (N := 33) (ci := 10) hx hb hts hin hown hK hG mg_o rfl 21 (by decide) (hts _ (List.mem_of_getElem? (i := 2) rfl)) (fun _ h9 => h9) rfl dX12_passes_16 ?_
        refine lv_aload_n hx hb dX12_passes_19 rfl (lv_at hl 0 rfl) ?_
        refine gp_get (v := .int i_cursor) (C := RX12) (T := TX12) (N := 33) (ci := 10) hx hb hts hin hown hK hG mg_o rfl 24 (by decide) (hts _ (List.mem_of_getElem? (i := 3) rfl)) (fun _ h9 => h9) rfl dX12_passes_20 ?_
        refine lv_aload_n hx hb dX12_passes_23 rfl (lv_at hl 1 rfl) ?_
        refine lv_iload_n hx hb dX12_passes_24 rfl (lv_at hl 2 rfl) ?_
        obtain ⟨b25, hj12⟩ := gb_ix hj12
        refine gp_iald hx hb hK hG mg_lit b25 dX12_passes_25 ?_
        obtain ⟨b26, hj12⟩ := gb_ix hj12
        refine gp_iast hx hb hK hG hS mg_kept b26 mu_kept dX12_passes_26 (fun H locs hG hS => ?_)
        refine lv_goto (tgt := 42) hx hb dX12_passes_27 (by decide) ?_
        have hj12 := Option.some.inj hj12
        subst hj12
        exact hJ12 H locs ls hG hS (lv_sub hl [0, 1, 2] rfl)
set_option maxHeartbeats 4000000 in
set_option maxRecDepth 100000 in
theorem c_X12_passes_lit {R : (Nat → Int32) × (Nat → Int32) × Int32} (hf : f_X12_passes_lit a_lit a_kept i_isKeeping i_cursor = some R) : Met l yX12_passes wsX12_passes rm_X12_passes_lit (va_Pc [.ref h0, .ref (h0 + 6)] (gPre D b M (mg cI h0 a_refused a_isWall a_kind a_lampCell a_range a_lit a_scenes a_who a_cell a_minuteOf a_standsAt i_lampMany i_people i_minute a_tape a_letter a_letterAt a_told i_taped i_at i_statements a_kept i_hasImage i_isKeeping i_cursor a_far a_shut a_queue i_queued a_litBy a_may a_row i_rowMany g0) (gTy cI cL))) (gQ D b none M (mg cI h0 a_refused a_isWall a_kind a_lampCell a_range R.1 a_scenes a_who a_cell a_minuteOf a_standsAt i_lampMany i_people i_minute a_tape a_letter a_letterAt a_told i_taped i_at i_statements R.2.1 i_hasImage i_isKeeping R.2.2 a_far a_shut a_queue i_queued a_litBy a_may a_row i_rowMany g0)) 0 0 (gA b) := by
  refine gp_met (cc := cX12_passes) (maxL := 3) (ret := none) (by decide) rfl (Nat.le_of_ble_eq_true rfl) ?_
  intro p e s m below meth c X ls hG hl
  have hS : va_S (gA b) s.heap s.heap [] := va_S.rf
  obtain ⟨H, hH0⟩ : ∃ H : Heap, H = s.heap := ⟨_, rfl⟩
  rw [← hH0] at hG ⊢
  have hS : va_S (gA b) s.heap H [] := by rw [hH0]; exact va_S.rf
  obtain ⟨locs, hlo⟩ : ∃ z : List Loc, z = [] := ⟨_, rfl⟩
  rw [← hlo] at hS ⊢
  unfold f_X12_passes_lit at hf
  obtain ⟨hx, hb, hr, hml, hown, hts, hlocks, hKn, hBs⟩ := id X
  have hK := hKn.1
  have hin : ∀ w ∈ wsX120, w ∈ wsX12_passes := fun w h => List.mem_cons_of_mem _ (List.mem_append_right _ h)
  have hl : lv_has ls 3 [(0, .ref h0), (1, .ref (h0 + 6))] := hl
  refine lv_iconst (v := 0) hx hb dX12_passes_0 (by decide) ?_
  refine lv_istore_n (lv' := [(2, .int 0), (0, .ref h0), (1, .ref (h0 + 6))]) hx hb dX12_passes_1 rfl hl (by decide) rfl (fun ls hl => ?_)
  refine w_X12_passes_lit_2 X _ _ _ _ _ hf (fun x2_58 hf H locs ls hG hS hl => ?_) _ _ _ hG hS (lv_sub hl [1, 2, 0] rfl)
  · have hf := Option.some.inj hf
    subst hf
    exact gp_retV hx hb hr hlocks hG hS (Nat.le_refl _) (Nat.le_refl _) dX12_passes_58
-- X12_passes@minuteOf
abbrev rm_X12_passes_minuteOf : Room := { frames := 0, cells := 0, slots := 0, locals := 0 }
set_option maxHeartbeats 4000000 in
set_option maxRecDepth 100000 in
theorem w_X12_passes_minuteOf_2 {α : Type} {R : α} {K58 : ((Nat → Int32) × (Nat → Int32) × Int32) → Option α} (X : gC p s m args meth c cX12_passes 3 none wsX12_passes RX12 D b (gTy cI cL)) : ∀ (n : Nat) (v2 : Int32) (a_minuteOf : Nat → Int32) (a_kept : Nat → Int32) (i_cursor : Int32), L_X12_passes_minuteOf_2 K58 i_isKeeping n v2 a_minuteOf a_kept i_cursor = some R → (∀ (x : (Nat → Int32) × (Nat → Int32) × Int32), K58 x = some R → ∀ (H : Heap) (locs : List Loc) (ls : Array Slot), GP D b M (mg cI h0 a_refused a_isWall a_kind a_lampCell a_range a_lit a_scenes a_who a_cell x.1 a_standsAt i_lampMany i_people i_minute a_tape a_letter a_letterAt a_told i_taped i_at i_statements x.2.1 i_hasImage i_isKeeping x.2.2 a_far a_shut a_queue i_queued a_litBy a_may a_row i_rowMany g0) H → va_S (gA b) s.heap H locs → lv_has ls 3 [] → W p l e rm_X12_passes_minuteOf s m args below meth c H locs 0 0 Q (F0 m 58 ls [])) → ∀ (H : Heap) (locs : List Loc) (ls : Array Slot), GP D b M (mg cI h0 a_refused a_isWall a_kind a_lampCell a_range a_lit a_scenes a_who a_cell a_minuteOf a_standsAt i_lampMany i_people i_minute a_tape a_letter a_letterAt a_told i_taped i_at i_statements a_kept i_hasImage i_isKeeping i_cursor a_far a_shut a_queue i_queued a_litBy a_may a_row i_rowMany g0) H → va_S (gA b) s.heap H locs → lv_has ls 3 [(0, .ref h0), (1, .ref (h0 + 10)), (2, .int v2)] → W p l e rm_X12_passes_minuteOf s m args below meth c H locs 0 0 Q (F0 m 2 ls []) := by
  obtain ⟨hx, hb, hr, hml, hown, hts, hlocks, hKn, hBs⟩ := id X
  have hK := hKn.1
  have hin : ∀ w ∈ wsX120, w ∈ wsX12_passes := fun w h => List.mem_cons_of_mem _ (List.mem_append_right _ h)
  intro n
  induction n with
  | zero =>
    intro v2 a_minuteOf a_kept i_cursor hf
    cases hf
  | succ n ih =>
    intro v2 a_minuteOf a_kept i_cursor hf hk58 H locs ls hG hS hl
    rw [L_X12_passes_minuteOf_2.eq_2] at hf
    refine lv_iload_n hx hb dX12_passes_2 rfl (lv_at hl 2 rfl) ?_
    refine lv_aload_n hx hb dX12_passes_3 rfl (lv_at hl 1 rfl) ?_
    refine gp_alenI (v := 54) hx hb hK hG mg_minuteOf rfl dX12_passes_4 ?_
    refine lv_icmp_ge (tgt := 58) hx hb dX12_passes_5 (by decide) (fun c5 => ?_) (fun c5 => ?_)
    · have hf := gb_t c5 hf
      exact hk58 _ hf _ _ _ hG hS (lv_sub hl [] rfl)
    · have hf := gb_f c5 hf
      refine lv_aload_n hx hb dX12_passes_8 rfl (lv_at hl 0 rfl) ?_
      refine gp_get (v := .int i_isKeeping) (C := RX12) (T := TX12) (N := 33) (ci := 10) hx hb hts hin hown hK hG mg_o rfl 23 (by decide) (hts _ (List.mem_of_getElem? (i := 1) rfl)) (fun _ h9 => h9) rfl dX12_passes_9 ?_
      obtain ⟨j12, hj12, hf⟩ := gb_b hf
      have hJ12 : ∀ (H : Heap) (locs : List Loc) (ls : Array Slot), GP D b M (mg cI h0 a_refused a_isWall a_kind a_lampCell a_range a_lit a_scenes a_who a_cell j12.1 a_standsAt i_lampMany i_people i_minute a_tape a_letter a_letterAt a_told i_taped i_at i_statements j12.2 i_hasImage i_isKeeping i_cursor a_far a_shut a_queue i_queued a_litBy a_may a_row i_rowMany g0) H → va_S (gA b) s.heap H locs → lv_has ls 3 [(0, .ref h0), (1, .ref (h0 + 10)), (2, .int v2)] → W p l e rm_X12_passes_minuteOf s m args below meth c H locs 0 0 Q (F0 m 42 ls []) := by
        intro H locs ls hG hS hl
        refine lv_aload_n hx hb dX12_passes_42 rfl (lv_at hl 0 rfl) ?_
        refine lv_dup hx hb dX12_passes_43 rfl ?_
        refine gp_get (v := .int i_cursor) (C := RX12) (T := TX12) (N := 33) (ci := 10) hx hb hts hin hown hK hG mg_o rfl 24 (by decide) (hts _ (List.mem_of_getElem? (i := 3) rfl)) (fun _ h9 => h9) rfl dX12_passes_44 ?_
        refine lv_iconst (v := 1) hx hb dX12_passes_47 (by decide) ?_
        refine lv_iadd hx hb dX12_passes_48 ?_
        refine gp_put (v := .int (i_cursor + 1)) (tyk := .int) (C := RX12) (T := TX12) (N := 33) (ci := 10) hx hb hts hin tyX12 tyX12_ok nmX12 hown hK hG hS mg_o rfl 24 (by decide) (hts _ (List.mem_of_getElem? (i := 3) rfl)) (fun _ h9 => h9) rfl rfl rfl rfl (Nat.le_of_ble_eq_true rfl) mu_cursor dX12_passes_49 (fun H locs hG hS => ?_)
        refine lv_iinc (v := v2 + 1) (lv' := [(2, .int (v2 + 1)), (0, .ref h0), (1, .ref (h0 + 10))]) hx hb dX12_passes_52 hl (k := 2) rfl rfl (by decide) rfl (fun ls hl => ?_)
        refine lv_goto (tgt := 2) hx hb dX12_passes_55 (by decide) ?_
        exact ih _ _ _ _ hf hk58 _ _ _ hG hS (lv_sub hl [1, 2, 0] rfl)
      refine lv_if_eq (tgt := 30) hx hb dX12_passes_12 (by decide) (fun c12 => ?_) (fun c12 => ?_)
      · have hj12 := gb_t c12 hj12
        refine lv_aload_n hx hb dX12_passes_30 rfl (lv_at hl 1 rfl) ?_
        refine lv_iload_n hx hb dX12_passes_31 rfl (lv_at hl 2 rfl) ?_
        refine lv_aload_n hx hb dX12_passes_32 rfl (lv_at hl 0 rfl) ?_
        refine gp_get (v := .ref (h0 + 16)) (C := RX12) (T := TX12) (N := 33) (ci := 10) hx hb hts hin hown hK hG mg_o rfl 21 (by decide) (hts _ (List.mem_of_getElem? (i := 2) rfl)) (fun _ h9 => h9) rfl dX12_passes_33 ?_
        refine lv_aload_n hx hb dX12_passes_36 rfl (lv_at hl 0 rfl) ?_
        refine gp_get (v := .int i_cursor) (C := RX12) (T := TX12) (N := 33) (ci := 10) hx hb hts hin hown hK hG mg_o rfl 24 (by decide) (hts _ (List.mem_of_getElem? (i := 3) rfl)) (fun _ h9 => h9) rfl dX12_passes_37 ?_
        obtain ⟨b40, hj12⟩ := gb_ix hj12
        refine gp_iald hx hb hK hG mg_kept b40 dX12_passes_40 ?_
        obtain ⟨b41, hj12⟩ := gb_ix hj12
        refine gp_iast hx hb hK hG hS mg_minuteOf b41 mu_minuteOf dX12_passes_41 (fun H locs hG hS => ?_)
        have hj12 := Option.some.inj hj12
        subst hj12
        exact hJ12 H locs ls hG hS (lv_sub hl [0, 1, 2] rfl)
      · have hj12 := gb_f c12 hj12
        refine lv_aload_n hx hb dX12_passes_15 rfl (lv_at hl 0 rfl) ?_
        refine gp_get (v := .ref (h0 + 16)) (C := RX12) (T := TX12) (N := 33) (ci := 10) hx hb hts hin hown hK hG mg_o rfl 21 (by decide) (hts _ (List.mem_of_getElem? (i := 2) rfl)) (fun _ h9 => h9) rfl dX12_passes_16 ?_
        refine lv_aload_n hx hb dX12_passes_19 rfl (lv_at hl 0 rfl) ?_
        refine gp_get (v := .int i_cursor) (C := RX12) (T := TX12) (N := 33) (ci := 10) hx hb hts hin hown hK hG mg_o rfl 24 (by decide) (hts _ (List.mem_of_getElem? (i := 3) rfl)) (fun _ h9 => h9) rfl dX12_passes_20 ?_
        refine lv_aload_n hx hb dX12_passes_23 rfl (lv_at hl 1 rfl) ?_
        refine lv_iload_n hx hb dX12_passes_24 rfl (lv_at hl 2 rfl) ?_
        obtain ⟨b25, hj12⟩ := gb_ix hj12
        refine gp_iald hx hb hK hG mg_minuteOf b25 dX12_passes_25 ?_
        obtain ⟨b26, hj12⟩ := gb_ix hj12
        refine gp_iast hx hb hK hG hS mg_kept b26 mu_kept dX12_passes_26 (fun H locs hG hS => ?_)
        refine lv_goto (tgt := 42) hx hb dX12_passes_27 (by decide) ?_
        have hj12 := Option.some.inj hj12
        subst hj12
        exact hJ12 H locs ls hG hS (lv_sub hl [0, 1, 2] rfl)
set_option maxHeartbeats 4000000 in
set_option maxRecDepth 100000 in
theorem c_X12_passes_minuteOf {R : (Nat → Int32) × (Nat → Int32) × Int32} (hf : f_X12_passes_minuteOf a_minuteOf a_kept i_isKeeping i_cursor = some R) : Met l yX12_passes wsX12_passes rm_X12_passes_minuteOf (va_Pc [.ref h0, .ref (h0 + 10)] (gPre D b M (mg cI h0 a_refused a_isWall a_kind a_lampCell a_range a_lit a_scenes a_who a_cell a_minuteOf a_standsAt i_lampMany i_people i_minute a_tape a_letter a_letterAt a_told i_taped i_at i_statements a_kept i_hasImage i_isKeeping i_cursor a_far a_shut a_queue i_queued a_litBy a_may a_row i_rowMany g0) (gTy cI cL))) (gQ D b none M (mg cI h0 a_refused a_isWall a_kind a_lampCell a_range a_lit a_scenes a_who a_cell R.1 a_standsAt i_lampMany i_people i_minute a_tape a_letter a_letterAt a_told i_taped i_at i_statements R.2.1 i_hasImage i_isKeeping R.2.2 a_far a_shut a_queue i_queued a_litBy a_may a_row i_rowMany g0)) 0 0 (gA b) := by
  refine gp_met (cc := cX12_passes) (maxL := 3) (ret := none) (by decide) rfl (Nat.le_of_ble_eq_true rfl) ?_
  intro p e s m below meth c X ls hG hl
  have hS : va_S (gA b) s.heap s.heap [] := va_S.rf
  obtain ⟨H, hH0⟩ : ∃ H : Heap, H = s.heap := ⟨_, rfl⟩
  rw [← hH0] at hG ⊢
  have hS : va_S (gA b) s.heap H [] := by rw [hH0]; exact va_S.rf
  obtain ⟨locs, hlo⟩ : ∃ z : List Loc, z = [] := ⟨_, rfl⟩
  rw [← hlo] at hS ⊢
  unfold f_X12_passes_minuteOf at hf
  obtain ⟨hx, hb, hr, hml, hown, hts, hlocks, hKn, hBs⟩ := id X
  have hK := hKn.1
  have hin : ∀ w ∈ wsX120, w ∈ wsX12_passes := fun w h => List.mem_cons_of_mem _ (List.mem_append_right _ h)
  have hl : lv_has ls 3 [(0, .ref h0), (1, .ref (h0 + 10))] := hl
  refine lv_iconst (v := 0) hx hb dX12_passes_0 (by decide) ?_
  refine lv_istore_n (lv' := [(2, .int 0), (0, .ref h0), (1, .ref (h0 + 10))]) hx hb dX12_passes_1 rfl hl (by decide) rfl (fun ls hl => ?_)
  refine w_X12_passes_minuteOf_2 X _ _ _ _ _ hf (fun x2_58 hf H locs ls hG hS hl => ?_) _ _ _ hG hS (lv_sub hl [1, 2, 0] rfl)
  · have hf := Option.some.inj hf
    subst hf
    exact gp_retV hx hb hr hlocks hG hS (Nat.le_refl _) (Nat.le_refl _) dX12_passes_58
-- X12_passes@range
abbrev rm_X12_passes_range : Room := { frames := 0, cells := 0, slots := 0, locals := 0 }
set_option maxHeartbeats 4000000 in
set_option maxRecDepth 100000 in
theorem w_X12_passes_range_2 {α : Type} {R : α} {K58 : ((Nat → Int32) × (Nat → Int32) × Int32) → Option α} (X : gC p s m args meth c cX12_passes 3 none wsX12_passes RX12 D b (gTy cI cL)) : ∀ (n : Nat) (v2 : Int32) (a_range : Nat → Int32) (a_kept : Nat → Int32) (i_cursor : Int32), L_X12_passes_range_2 K58 i_isKeeping n v2 a_range a_kept i_cursor = some R → (∀ (x : (Nat → Int32) × (Nat → Int32) × Int32), K58 x = some R → ∀ (H : Heap) (locs : List Loc) (ls : Array Slot), GP D b M (mg cI h0 a_refused a_isWall a_kind a_lampCell x.1 a_lit a_scenes a_who a_cell a_minuteOf a_standsAt i_lampMany i_people i_minute a_tape a_letter a_letterAt a_told i_taped i_at i_statements x.2.1 i_hasImage i_isKeeping x.2.2 a_far a_shut a_queue i_queued a_litBy a_may a_row i_rowMany g0) H → va_S (gA b) s.heap H locs → lv_has ls 3 [] → W p l e rm_X12_passes_range s m args below meth c H locs 0 0 Q (F0 m 58 ls [])) → ∀ (H : Heap) (locs : List Loc) (ls : Array Slot), GP D b M (mg cI h0 a_refused a_isWall a_kind a_lampCell a_range a_lit a_scenes a_who a_cell a_minuteOf a_standsAt i_lampMany i_people i_minute a_tape a_letter a_letterAt a_told i_taped i_at i_statements a_kept i_hasImage i_isKeeping i_cursor a_far a_shut a_queue i_queued a_litBy a_may a_row i_rowMany g0) H → va_S (gA b) s.heap H locs → lv_has ls 3 [(0, .ref h0), (1, .ref (h0 + 5)), (2, .int v2)] → W p l e rm_X12_passes_range s m args below meth c H locs 0 0 Q (F0 m 2 ls []) := by
  obtain ⟨hx, hb, hr, hml, hown, hts, hlocks, hKn, hBs⟩ := id X
  have hK := hKn.1
  have hin : ∀ w ∈ wsX120, w ∈ wsX12_passes := fun w h => List.mem_cons_of_mem _ (List.mem_append_right _ h)
  intro n
  induction n with
  | zero =>
    intro v2 a_range a_kept i_cursor hf
    cases hf
  | succ n ih =>
    intro v2 a_range a_kept i_cursor hf hk58 H locs ls hG hS hl
    rw [L_X12_passes_range_2.eq_2] at hf
    refine lv_iload_n hx hb dX12_passes_2 rfl (lv_at hl 2 rfl) ?_
    refine lv_aload_n hx hb dX12_passes_3 rfl (lv_at hl 1 rfl) ?_
    refine gp_alenI (v := 6) hx hb hK hG mg_range rfl dX12_passes_4 ?_
    refine lv_icmp_ge (tgt := 58) hx hb dX12_passes_5 (by decide) (fun c5 => ?_) (fun c5 => ?_)
    · have hf := gb_t c5 hf
      exact hk58 _ hf _ _ _ hG hS (lv_sub hl [] rfl)
    · have hf := gb_f c5 hf
      refine lv_aload_n hx hb dX12_passes_8 rfl (lv_at hl 0 rfl) ?_
      refine gp_get (v := .int i_isKeeping) (C := RX12) (T := TX12) (N := 33) (ci := 10) hx hb hts hin hown hK hG mg_o rfl 23 (by decide) (hts _ (List.mem_of_getElem? (i := 1) rfl)) (fun _ h9 => h9) rfl dX12_passes_9 ?_
      obtain ⟨j12, hj12, hf⟩ := gb_b hf
      have hJ12 : ∀ (H : Heap) (locs : List Loc) (ls : Array Slot), GP D b M (mg cI h0 a_refused a_isWall a_kind a_lampCell j12.1 a_lit a_scenes a_who a_cell a_minuteOf a_standsAt i_lampMany i_people i_minute a_tape a_letter a_letterAt a_told i_taped i_at i_statements j12.2 i_hasImage i_isKeeping i_cursor a_far a_shut a_queue i_queued a_litBy a_may a_row i_rowMany g0) H → va_S (gA b) s.heap H locs → lv_has ls 3 [(0, .ref h0), (1, .ref (h0 + 5)), (2, .int v2)] → W p l e rm_X12_passes_range s m args below meth c H locs 0 0 Q (F0 m 42 ls []) := by
        intro H locs ls hG hS hl
        refine lv_aload_n hx hb dX12_passes_42 rfl (lv_at hl 0 rfl) ?_
        refine lv_dup hx hb dX12_passes_43 rfl ?_
        refine gp_get (v := .int i_cursor) (C := RX12) (T := TX12) (N := 33) (ci := 10) hx hb hts hin hown hK hG mg_o rfl 24 (by decide) (hts _ (List.mem_of_getElem? (i := 3) rfl)) (fun _ h9 => h9) rfl dX12_passes_44 ?_
        refine lv_iconst (v := 1) hx hb dX12_passes_47 (by decide) ?_
        refine lv_iadd hx hb dX12_passes_48 ?_
        refine gp_put (v := .int (i_cursor + 1)) (tyk := .int) (C := RX12) (T := TX12) (N := 33) (ci := 10) hx hb hts hin tyX12 tyX12_ok nmX12 hown hK hG hS mg_o rfl 24 (by decide) (hts _ (List.mem_of_getElem? (i := 3) rfl)) (fun _ h9 => h9) rfl rfl rfl rfl (Nat.le_of_ble_eq_true rfl) mu_cursor dX12_passes_49 (fun H locs hG hS => ?_)
        refine lv_iinc (v := v2 + 1) (lv' := [(2, .int (v2 + 1)), (0, .ref h0), (1, .ref (h0 + 5))]) hx hb dX12_passes_52 hl (k := 2) rfl rfl (by decide) rfl (fun ls hl => ?_)
        refine lv_goto (tgt := 2) hx hb dX12_passes_55 (by decide) ?_
        exact ih _ _ _ _ hf hk58 _ _ _ hG hS (lv_sub hl [1, 2, 0] rfl)
      refine lv_if_eq (tgt := 30) hx hb dX12_passes_12 (by decide) (fun c12 => ?_) (fun c12 => ?_)
      · have hj12 := gb_t c12 hj12
        refine lv_aload_n hx hb dX12_passes_30 rfl (lv_at hl 1 rfl) ?_
        refine lv_iload_n hx hb dX12_passes_31 rfl (lv_at hl 2 rfl) ?_
        refine lv_aload_n hx hb dX12_passes_32 rfl (lv_at hl 0 rfl) ?_
        refine gp_get (v := .ref (h0 + 16)) (C := RX12) (T := TX12) (N := 33) (ci := 10) hx hb hts hin hown hK hG mg_o rfl 21 (by decide) (hts _ (List.mem_of_getElem? (i := 2) rfl)) (fun _ h9 => h9) rfl dX12_passes_33 ?_
        refine lv_aload_n hx hb dX12_passes_36 rfl (lv_at hl 0 rfl) ?_
        refine gp_get (v := .int i_cursor) (C := RX12) (T := TX12) (N := 33) (ci := 10) hx hb hts hin hown hK hG mg_o rfl 24 (by decide) (hts _ (List.mem_of_getElem? (i := 3) rfl)) (fun _ h9 => h9) rfl dX12_passes_37 ?_
        obtain ⟨b40, hj12⟩ := gb_ix hj12
        refine gp_iald hx hb hK hG mg_kept b40 dX12_passes_40 ?_
        obtain ⟨b41, hj12⟩ := gb_ix hj12
        refine gp_iast hx hb hK hG hS mg_range b41 mu_range dX12_passes_41 (fun H locs hG hS => ?_)
        have hj12 := Option.some.inj hj12
        subst hj12
        exact hJ12 H locs ls hG hS (lv_sub hl [0, 1, 2] rfl)
      · have hj12 := gb_f c12 hj12
        refine lv_aload_n hx hb dX12_passes_15 rfl (lv_at hl 0 rfl) ?_
        refine gp_get (v := .ref (h0 + 16)) (C := RX12) (T := TX12) (N := 33) (ci := 10) hx hb hts hin hown hK hG mg_o rfl 21 (by decide) (hts _ (List.mem_of_getElem? (i := 2) rfl)) (fun _ h9 => h9) rfl dX12_passes_16 ?_
        refine lv_aload_n hx hb dX12_passes_19 rfl (lv_at hl 0 rfl) ?_
        refine gp_get (v := .int i_cursor) (C := RX12) (T := TX12) (N := 33) (ci := 10) hx hb hts hin hown hK hG mg_o rfl 24 (by decide) (hts _ (List.mem_of_getElem? (i := 3) rfl)) (fun _ h9 => h9) rfl dX12_passes_20 ?_
        refine lv_aload_n hx hb dX12_passes_23 rfl (lv_at hl 1 rfl) ?_
        refine lv_iload_n hx hb dX12_passes_24 rfl (lv_at hl 2 rfl) ?_
        obtain ⟨b25, hj12⟩ := gb_ix hj12
        refine gp_iald hx hb hK hG mg_range b25 dX12_passes_25 ?_
        obtain ⟨b26, hj12⟩ := gb_ix hj12
        refine gp_iast hx hb hK hG hS mg_kept b26 mu_kept dX12_passes_26 (fun H locs hG hS => ?_)
        refine lv_goto (tgt := 42) hx hb dX12_passes_27 (by decide) ?_
        have hj12 := Option.some.inj hj12
        subst hj12
        exact hJ12 H locs ls hG hS (lv_sub hl [0, 1, 2] rfl)
set_option maxHeartbeats 4000000 in
set_option maxRecDepth 100000 in
theorem c_X12_passes_range {R : (Nat → Int32) × (Nat → Int32) × Int32} (hf : f_X12_passes_range a_range a_kept i_isKeeping i_cursor = some R) : Met l yX12_passes wsX12_passes rm_X12_passes_range (va_Pc [.ref h0, .ref (h0 + 5)] (gPre D b M (mg cI h0 a_refused a_isWall a_kind a_lampCell a_range a_lit a_scenes a_who a_cell a_minuteOf a_standsAt i_lampMany i_people i_minute a_tape a_letter a_letterAt a_told i_taped i_at i_statements a_kept i_hasImage i_isKeeping i_cursor a_far a_shut a_queue i_queued a_litBy a_may a_row i_rowMany g0) (gTy cI cL))) (gQ D b none M (mg cI h0 a_refused a_isWall a_kind a_lampCell R.1 a_lit a_scenes a_who a_cell a_minuteOf a_standsAt i_lampMany i_people i_minute a_tape a_letter a_letterAt a_told i_taped i_at i_statements R.2.1 i_hasImage i_isKeeping R.2.2 a_far a_shut a_queue i_queued a_litBy a_may a_row i_rowMany g0)) 0 0 (gA b) := by
  refine gp_met (cc := cX12_passes) (maxL := 3) (ret := none) (by decide) rfl (Nat.le_of_ble_eq_true rfl) ?_
  intro p e s m below meth c X ls hG hl
  have hS : va_S (gA b) s.heap s.heap [] := va_S.rf
  obtain ⟨H, hH0⟩ : ∃ H : Heap, H = s.heap := ⟨_, rfl⟩
  rw [← hH0] at hG ⊢
  have hS : va_S (gA b) s.heap H [] := by rw [hH0]; exact va_S.rf
  obtain ⟨locs, hlo⟩ : ∃ z : List Loc, z = [] := ⟨_, rfl⟩
  rw [← hlo] at hS ⊢
  unfold f_X12_passes_range at hf
  obtain ⟨hx, hb, hr, hml, hown, hts, hlocks, hKn, hBs⟩ := id X
  have hK := hKn.1
  have hin : ∀ w ∈ wsX120, w ∈ wsX12_passes := fun w h => List.mem_cons_of_mem _ (List.mem_append_right _ h)
  have hl : lv_has ls 3 [(0, .ref h0), (1, .ref (h0 + 5))] := hl
  refine lv_iconst (v := 0) hx hb dX12_passes_0 (by decide) ?_
  refine lv_istore_n (lv' := [(2, .int 0), (0, .ref h0), (1, .ref (h0 + 5))]) hx hb dX12_passes_1 rfl hl (by decide) rfl (fun ls hl => ?_)
  refine w_X12_passes_range_2 X _ _ _ _ _ hf (fun x2_58 hf H locs ls hG hS hl => ?_) _ _ _ hG hS (lv_sub hl [1, 2, 0] rfl)
  · have hf := Option.some.inj hf
    subst hf
    exact gp_retV hx hb hr hlocks hG hS (Nat.le_refl _) (Nat.le_refl _) dX12_passes_58
-- X12_passes@scenes
abbrev rm_X12_passes_scenes : Room := { frames := 0, cells := 0, slots := 0, locals := 0 }
set_option maxHeartbeats 4000000 in
set_option maxRecDepth 100000 in
theorem w_X12_passes_scenes_2 {α : Type} {R : α} {K58 : ((Nat → Int32) × (Nat → Int32) × Int32) → Option α} (X : gC p s m args meth c cX12_passes 3 none wsX12_passes RX12 D b (gTy cI cL)) : ∀ (n : Nat) (v2 : Int32) (a_scenes : Nat → Int32) (a_kept : Nat → Int32) (i_cursor : Int32), L_X12_passes_scenes_2 K58 i_isKeeping n v2 a_scenes a_kept i_cursor = some R → (∀ (x : (Nat → Int32) × (Nat → Int32) × Int32), K58 x = some R → ∀ (H : Heap) (locs : List Loc) (ls : Array Slot), GP D b M (mg cI h0 a_refused a_isWall a_kind a_lampCell a_range a_lit x.1 a_who a_cell a_minuteOf a_standsAt i_lampMany i_people i_minute a_tape a_letter a_letterAt a_told i_taped i_at i_statements x.2.1 i_hasImage i_isKeeping x.2.2 a_far a_shut a_queue i_queued a_litBy a_may a_row i_rowMany g0) H → va_S (gA b) s.heap H locs → lv_has ls 3 [] → W p l e rm_X12_passes_scenes s m args below meth c H locs 0 0 Q (F0 m 58 ls [])) → ∀ (H : Heap) (locs : List Loc) (ls : Array Slot), GP D b M (mg cI h0 a_refused a_isWall a_kind a_lampCell a_range a_lit a_scenes a_who a_cell a_minuteOf a_standsAt i_lampMany i_people i_minute a_tape a_letter a_letterAt a_told i_taped i_at i_statements a_kept i_hasImage i_isKeeping i_cursor a_far a_shut a_queue i_queued a_litBy a_may a_row i_rowMany g0) H → va_S (gA b) s.heap H locs → lv_has ls 3 [(0, .ref h0), (1, .ref (h0 + 7)), (2, .int v2)] → W p l e rm_X12_passes_scenes s m args below meth c H locs 0 0 Q (F0 m 2 ls []) := by
  obtain ⟨hx, hb, hr, hml, hown, hts, hlocks, hKn, hBs⟩ := id X
  have hK := hKn.1
  have hin : ∀ w ∈ wsX120, w ∈ wsX12_passes := fun w h => List.mem_cons_of_mem _ (List.mem_append_right _ h)
  intro n
  induction n with
  | zero =>
    intro v2 a_scenes a_kept i_cursor hf
    cases hf
  | succ n ih =>
    intro v2 a_scenes a_kept i_cursor hf hk58 H locs ls hG hS hl
    rw [L_X12_passes_scenes_2.eq_2] at hf
    refine lv_iload_n hx hb dX12_passes_2 rfl (lv_at hl 2 rfl) ?_
    refine lv_aload_n hx hb dX12_passes_3 rfl (lv_at hl 1 rfl) ?_
    refine gp_alenI (v := 6) hx hb hK hG mg_scenes rfl dX12_passes_4 ?_
    refine lv_icmp_ge (tgt := 58) hx hb dX12_passes_5 (by decide) (fun c5 => ?_) (fun c5 => ?_)
    · have hf := gb_t c5 hf
      exact hk58 _ hf _ _ _ hG hS (lv_sub hl [] rfl)
    · have hf := gb_f c5 hf
      refine lv_aload_n hx hb dX12_passes_8 rfl (lv_at hl 0 rfl) ?_
      refine gp_get (v := .int i_isKeeping) (C := RX12) (T := TX12) (N := 33) (ci := 10) hx hb hts hin hown hK hG mg_o rfl 23 (by decide) (hts _ (List.mem_of_getElem? (i := 1) rfl)) (fun _ h9 => h9) rfl dX12_passes_9 ?_
      obtain ⟨j12, hj12, hf⟩ := gb_b hf
      have hJ12 : ∀ (H : Heap) (locs : List Loc) (ls : Array Slot), GP D b M (mg cI h0 a_refused a_isWall a_kind a_lampCell a_range a_lit j12.1 a_who a_cell a_minuteOf a_standsAt i_lampMany i_people i_minute a_tape a_letter a_letterAt a_told i_taped i_at i_statements j12.2 i_hasImage i_isKeeping i_cursor a_far a_shut a_queue i_queued a_litBy a_may a_row i_rowMany g0) H → va_S (gA b) s.heap H locs → lv_has ls 3 [(0, .ref h0), (1, .ref (h0 + 7)), (2, .int v2)] → W p l e rm_X12_passes_scenes s m args below meth c H locs 0 0 Q (F0 m 42 ls []) := by
        intro H locs ls hG hS hl
        refine lv_aload_n hx hb dX12_passes_42 rfl (lv_at hl 0 rfl) ?_
        refine lv_dup hx hb dX12_passes_43 rfl ?_
        refine gp_get (v := .int i_cursor) (C := RX12) (T := TX12) (N := 33) (ci := 10) hx hb hts hin hown hK hG mg_o rfl 24 (by decide) (hts _ (List.mem_of_getElem? (i := 3) rfl)) (fun _ h9 => h9) rfl dX12_passes_44 ?_
        refine lv_iconst (v := 1) hx hb dX12_passes_47 (by decide) ?_
        refine lv_iadd hx hb dX12_passes_48 ?_
        refine gp_put (v := .int (i_cursor + 1)) (tyk := .int) (C := RX12) (T := TX12) (N := 33) (ci := 10) hx hb hts hin tyX12 tyX12_ok nmX12 hown hK hG hS mg_o rfl 24 (by decide) (hts _ (List.mem_of_getElem? (i := 3) rfl)) (fun _ h9 => h9) rfl rfl rfl rfl (Nat.le_of_ble_eq_true rfl) mu_cursor dX12_passes_49 (fun H locs hG hS => ?_)
        refine lv_iinc (v := v2 + 1) (lv' := [(2, .int (v2 + 1)), (0, .ref h0), (1, .ref (h0 + 7))]) hx hb dX12_passes_52 hl (k := 2) rfl rfl (by decide) rfl (fun ls hl => ?_)
        refine lv_goto (tgt := 2) hx hb dX12_passes_55 (by decide) ?_
        exact ih _ _ _ _ hf hk58 _ _ _ hG hS (lv_sub hl [1, 2, 0] rfl)
      refine lv_if_eq (tgt := 30) hx hb dX12_passes_12 (by decide) (fun c12 => ?_) (fun c12 => ?_)
      · have hj12 := gb_t c12 hj12
        refine lv_aload_n hx hb dX12_passes_30 rfl (lv_at hl 1 rfl) ?_
        refine lv_iload_n hx hb dX12_passes_31 rfl (lv_at hl 2 rfl) ?_
        refine lv_aload_n hx hb dX12_passes_32 rfl (lv_at hl 0 rfl) ?_
        refine gp_get (v := .ref (h0 + 16)) (C := RX12) (T := TX12) (N := 33) (ci := 10) hx hb hts hin hown hK hG mg_o rfl 21 (by decide) (hts _ (List.mem_of_getElem? (i := 2) rfl)) (fun _ h9 => h9) rfl dX12_passes_33 ?_
        refine lv_aload_n hx hb dX12_passes_36 rfl (lv_at hl 0 rfl) ?_
        refine gp_get (v := .int i_cursor) (C := RX12) (T := TX12) (N := 33) (ci := 10) hx hb hts hin hown hK hG mg_o rfl 24 (by decide) (hts _ (List.mem_of_getElem? (i := 3) rfl)) (fun _ h9 => h9) rfl dX12_passes_37 ?_
        obtain ⟨b40, hj12⟩ := gb_ix hj12
        refine gp_iald hx hb hK hG mg_kept b40 dX12_passes_40 ?_
        obtain ⟨b41, hj12⟩ := gb_ix hj12
        refine gp_iast hx hb hK hG hS mg_scenes b41 mu_scenes dX12_passes_41 (fun H locs hG hS => ?_)
        have hj12 := Option.some.inj hj12
        subst hj12
        exact hJ12 H locs ls hG hS (lv_sub hl [0, 1, 2] rfl)
      · have hj12 := gb_f c12 hj12
        refine lv_aload_n hx hb dX12_passes_15 rfl (lv_at hl 0 rfl) ?_
        refine gp_get (v := .ref (h0 + 16)) (C := RX12) (T := TX12) (N := 33) (ci := 10) hx hb hts hin hown hK hG mg_o rfl 21 (by decide) (hts _ (List.mem_of_getElem? (i := 2) rfl)) (fun _ h9 => h9) rfl dX12_passes_16 ?_
        refine lv_aload_n hx hb dX12_passes_19 rfl (lv_at hl 0 rfl) ?_
        refine gp_get (v := .int i_cursor) (C := RX12) (T := TX12) (N := 33) (ci := 10) hx hb hts hin hown hK hG mg_o rfl 24 (by decide) (hts _ (List.mem_of_getElem? (i := 3) rfl)) (fun _ h9 => h9) rfl dX12_passes_20 ?_
        refine lv_aload_n hx hb dX12_passes_23 rfl (lv_at hl 1 rfl) ?_
        refine lv_iload_n hx hb dX12_passes_24 rfl (lv_at hl 2 rfl) ?_
        obtain ⟨b25, hj12⟩ := gb_ix hj12
        refine gp_iald hx hb hK hG mg_scenes b25 dX12_passes_25 ?_
        obtain ⟨b26, hj12⟩ := gb_ix hj12
        refine gp_iast hx hb hK hG hS mg_kept b26 mu_kept dX12_passes_26 (fun H locs hG hS => ?_)
        refine lv_goto (tgt := 42) hx hb dX12_passes_27 (by decide) ?_
        have hj12 := Option.some.inj hj12
        subst hj12
        exact hJ12 H locs ls hG hS (lv_sub hl [0, 1, 2] rfl)
set_option maxHeartbeats 4000000 in
set_option maxRecDepth 100000 in
theorem c_X12_passes_scenes {R : (Nat → Int32) × (Nat → Int32) × Int32} (hf : f_X12_passes_scenes a_scenes a_kept i_isKeeping i_cursor = some R) : Met l yX12_passes wsX12_passes rm_X12_passes_scenes (va_Pc [.ref h0, .ref (h0 + 7)] (gPre D b M (mg cI h0 a_refused a_isWall a_kind a_lampCell a_range a_lit a_scenes a_who a_cell a_minuteOf a_standsAt i_lampMany i_people i_minute a_tape a_letter a_letterAt a_told i_taped i_at i_statements a_kept i_hasImage i_isKeeping i_cursor a_far a_shut a_queue i_queued a_litBy a_may a_row i_rowMany g0) (gTy cI cL))) (gQ D b none M (mg cI h0 a_refused a_isWall a_kind a_lampCell a_range a_lit R.1 a_who a_cell a_minuteOf a_standsAt i_lampMany i_people i_minute a_tape a_letter a_letterAt a_told i_taped i_at i_statements R.2.1 i_hasImage i_isKeeping R.2.2 a_far a_shut a_queue i_queued a_litBy a_may a_row i_rowMany g0)) 0 0 (gA b) := by
  refine gp_met (cc := cX12_passes) (maxL := 3) (ret := none) (by decide) rfl (Nat.le_of_ble_eq_true rfl) ?_
  intro p e s m below meth c X ls hG hl
  have hS : va_S (gA b) s.heap s.heap [] := va_S.rf
  obtain ⟨H, hH0⟩ : ∃ H : Heap, H = s.heap := ⟨_, rfl⟩
  rw [← hH0] at hG ⊢
  have hS : va_S (gA b) s.heap H [] := by rw [hH0]; exact va_S.rf
  obtain ⟨locs, hlo⟩ : ∃ z : List Loc, z = [] := ⟨_, rfl⟩
  rw [← hlo] at hS ⊢
  unfold f_X12_passes_scenes at hf
  obtain ⟨hx, hb, hr, hml, hown, hts, hlocks, hKn, hBs⟩ := id X
  have hK := hKn.1
  have hin : ∀ w ∈ wsX120, w ∈ wsX12_passes := fun w h => List.mem_cons_of_mem _ (List.mem_append_right _ h)
  have hl : lv_has ls 3 [(0, .ref h0), (1, .ref (h0 + 7))] := hl
  refine lv_iconst (v := 0) hx hb dX12_passes_0 (by decide) ?_
  refine lv_istore_n (lv' := [(2, .int 0), (0, .ref h0), (1, .ref (h0 + 7))]) hx hb dX12_passes_1 rfl hl (by decide) rfl (fun ls hl => ?_)
  refine w_X12_passes_scenes_2 X _ _ _ _ _ hf (fun x2_58 hf H locs ls hG hS hl => ?_) _ _ _ hG hS (lv_sub hl [1, 2, 0] rfl)
  · have hf := Option.some.inj hf
    subst hf
    exact gp_retV hx hb hr hlocks hG hS (Nat.le_refl _) (Nat.le_refl _) dX12_passes_58
-- X12_passes@standsAt
abbrev rm_X12_passes_standsAt : Room := { frames := 0, cells := 0, slots := 0, locals := 0 }
set_option maxHeartbeats 4000000 in
set_option maxRecDepth 100000 in
theorem w_X12_passes_standsAt_2 {α : Type} {R : α} {K58 : ((Nat → Int32) × (Nat → Int32) × Int32) → Option α} (X : gC p s m args meth c cX12_passes 3 none wsX12_passes RX12 D b (gTy cI cL)) : ∀ (n : Nat) (v2 : Int32) (a_standsAt : Nat → Int32) (a_kept : Nat → Int32) (i_cursor : Int32), L_X12_passes_standsAt_2 K58 i_isKeeping n v2 a_standsAt a_kept i_cursor = some R → (∀ (x : (Nat → Int32) × (Nat → Int32) × Int32), K58 x = some R → ∀ (H : Heap) (locs : List Loc) (ls : Array Slot), GP D b M (mg cI h0 a_refused a_isWall a_kind a_lampCell a_range a_lit a_scenes a_who a_cell a_minuteOf x.1 i_lampMany i_people i_minute a_tape a_letter a_letterAt a_told i_taped i_at i_statements x.2.1 i_hasImage i_isKeeping x.2.2 a_far a_shut a_queue i_queued a_litBy a_may a_row i_rowMany g0) H → va_S (gA b) s.heap H locs → lv_has ls 3 [] → W p l e rm_X12_passes_standsAt s m args below meth c H locs 0 0 Q (F0 m 58 ls [])) → ∀ (H : Heap) (locs : List Loc) (ls : Array Slot), GP D b M (mg cI h0 a_refused a_isWall a_kind a_lampCell a_range a_lit a_scenes a_who a_cell a_minuteOf a_standsAt i_lampMany i_people i_minute a_tape a_letter a_letterAt a_told i_taped i_at i_statements a_kept i_hasImage i_isKeeping i_cursor a_far a_shut a_queue i_queued a_litBy a_may a_row i_rowMany g0) H → va_S (gA b) s.heap H locs → lv_has ls 3 [(0, .ref h0), (1, .ref (h0 + 11)), (2, .int v2)] → W p l e rm_X12_passes_standsAt s m args below meth c H locs 0 0 Q (F0 m 2 ls []) := by
  obtain ⟨hx, hb, hr, hml, hown, hts, hlocks, hKn, hBs⟩ := id X
  have hK := hKn.1
  have hin : ∀ w ∈ wsX120, w ∈ wsX12_passes := fun w h => List.mem_cons_of_mem _ (List.mem_append_right _ h)
  intro n
  induction n with
  | zero =>
    intro v2 a_standsAt a_kept i_cursor hf
    cases hf
  | succ n ih =>
    intro v2 a_standsAt a_kept i_cursor hf hk58 H locs ls hG hS hl
    rw [L_X12_passes_standsAt_2.eq_2] at hf
    refine lv_iload_n hx hb dX12_passes_2 rfl (lv_at hl 2 rfl) ?_
    refine lv_aload_n hx hb dX12_passes_3 rfl (lv_at hl 1 rfl) ?_
    refine gp_alenI (v := 4) hx hb hK hG mg_standsAt rfl dX12_passes_4 ?_
    refine lv_icmp_ge (tgt := 58) hx hb dX12_passes_5 (by decide) (fun c5 => ?_) (fun c5 => ?_)
    · have hf := gb_t c5 hf
      exact hk58 _ hf _ _ _ hG hS (lv_sub hl [] rfl)
    · have hf := gb_f c5 hf
      refine lv_aload_n hx hb dX12_passes_8 rfl (lv_at hl 0 rfl) ?_
      refine gp_get (v := .int i_isKeeping) (C := RX12) (T := TX12) (N := 33) (ci := 10) hx hb hts hin hown hK hG mg_o rfl 23 (by decide) (hts _ (List.mem_of_getElem? (i := 1) rfl)) (fun _ h9 => h9) rfl dX12_passes_9 ?_
      obtain ⟨j12, hj12, hf⟩ := gb_b hf
      have hJ12 : ∀ (H : Heap) (locs : List Loc) (ls : Array Slot), GP D b M (mg cI h0 a_refused a_isWall a_kind a_lampCell a_range a_lit a_scenes a_who a_cell a_minuteOf j12.1 i_lampMany i_people i_minute a_tape a_letter a_letterAt a_told i_taped i_at i_statements j12.2 i_hasImage i_isKeeping i_cursor a_far a_shut a_queue i_queued a_litBy a_may a_row i_rowMany g0) H → va_S (gA b) s.heap H locs → lv_has ls 3 [(0, .ref h0), (1, .ref (h0 + 11)), (2, .int v2)] → W p l e rm_X12_passes_standsAt s m args below meth c H locs 0 0 Q (F0 m 42 ls []) := by
        intro H locs ls hG hS hl
        refine lv_aload_n hx hb dX12_passes_42 rfl (lv_at hl 0 rfl) ?_
        refine lv_dup hx hb dX12_passes_43 rfl ?_
        refine gp_get (v := .int i_cursor) (C := RX12) (T := TX12) (N := 33) (ci := 10) hx hb hts hin hown hK hG mg_o rfl 24 (by decide) (hts _ (List.mem_of_getElem? (i := 3) rfl)) (fun _ h9 => h9) rfl dX12_passes_44 ?_
        refine lv_iconst (v := 1) hx hb dX12_passes_47 (by decide) ?_
        refine lv_iadd hx hb dX12_passes_48 ?_
        refine gp_put (v := .int (i_cursor + 1)) (tyk := .int) (C := RX12) (T := TX12) (N := 33) (ci := 10) hx hb hts hin tyX12 tyX12_ok nmX12 hown hK hG hS mg_o rfl 24 (by decide) (hts _ (List.mem_of_getElem? (i := 3) rfl)) (fun _ h9 => h9) rfl rfl rfl rfl (Nat.le_of_ble_eq_true rfl) mu_cursor dX12_passes_49 (fun H locs hG hS => ?_)
        refine lv_iinc (v := v2 + 1) (lv' := [(2, .int (v2 + 1)), (0, .ref h0), (1, .ref (h0 + 11))]) hx hb dX12_passes_52 hl (k := 2) rfl rfl (by decide) rfl (fun ls hl => ?_)
        refine lv_goto (tgt := 2) hx hb dX12_passes_55 (by decide) ?_
        exact ih _ _ _ _ hf hk58 _ _ _ hG hS (lv_sub hl [1, 2, 0] rfl)
      refine lv_if_eq (tgt := 30) hx hb dX12_passes_12 (by decide) (fun c12 => ?_) (fun c12 => ?_)
      · have hj12 := gb_t c12 hj12
        refine lv_aload_n hx hb dX12_passes_30 rfl (lv_at hl 1 rfl) ?_
        refine lv_iload_n hx hb dX12_passes_31 rfl (lv_at hl 2 rfl) ?_
        refine lv_aload_n hx hb dX12_passes_32 rfl (lv_at hl 0 rfl) ?_
        refine gp_get (v := .ref (h0 + 16)) (C := RX12) (T := TX12) (N := 33) (ci := 10) hx hb hts hin hown hK hG mg_o rfl 21 (by decide) (hts _ (List.mem_of_getElem? (i := 2) rfl)) (fun _ h9 => h9) rfl dX12_passes_33 ?_
        refine lv_aload_n hx hb dX12_passes_36 rfl (lv_at hl 0 rfl) ?_
        refine gp_get (v := .int i_cursor) (C := RX12) (T := TX12) (N := 33) (ci := 10) hx hb hts hin hown hK hG mg_o rfl 24 (by decide) (hts _ (List.mem_of_getElem? (i := 3) rfl)) (fun _ h9 => h9) rfl dX12_passes_37 ?_
        obtain ⟨b40, hj12⟩ := gb_ix hj12
        refine gp_iald hx hb hK hG mg_kept b40 dX12_passes_40 ?_
        obtain ⟨b41, hj12⟩ := gb_ix hj12
        refine gp_iast hx hb hK hG hS mg_standsAt b41 mu_standsAt dX12_passes_41 (fun H locs hG hS => ?_)
        have hj12 := Option.some.inj hj12
        subst hj12
        exact hJ12 H locs ls hG hS (lv_sub hl [0, 1, 2] rfl)
      · have hj12 := gb_f c12 hj12
        refine lv_aload_n hx hb dX12_passes_15 rfl (lv_at hl 0 rfl) ?_
        refine gp_get (v := .ref (h0 + 16)) (C := RX12) (T := TX12) (N := 33) (ci := 10) hx hb hts hin hown hK hG mg_o rfl 21 (by decide) (hts _ (List.mem_of_getElem? (i := 2) rfl)) (fun _ h9 => h9) rfl dX12_passes_16 ?_
        refine lv_aload_n hx hb dX12_passes_19 rfl (lv_at hl 0 rfl) ?_
        refine gp_get (v := .int i_cursor) (C := RX12) (T := TX12) (N := 33) (ci := 10) hx hb hts hin hown hK hG mg_o rfl 24 (by decide) (hts _ (List.mem_of_getElem? (i := 3) rfl)) (fun _ h9 => h9) rfl dX12_passes_20 ?_
        refine lv_aload_n hx hb dX12_passes_23 rfl (lv_at hl 1 rfl) ?_
        refine lv_iload_n hx hb dX12_passes_24 rfl (lv_at hl 2 rfl) ?_
        obtain ⟨b25, hj12⟩ := gb_ix hj12
        refine gp_iald hx hb hK hG mg_standsAt b25 dX12_passes_25 ?_
        obtain ⟨b26, hj12⟩ := gb_ix hj12
        refine gp_iast hx hb hK hG hS mg_kept b26 mu_kept dX12_passes_26 (fun H locs hG hS => ?_)
        refine lv_goto (tgt := 42) hx hb dX12_passes_27 (by decide) ?_
        have hj12 := Option.some.inj hj12
        subst hj12
        exact hJ12 H locs ls hG hS (lv_sub hl [0, 1, 2] rfl)
set_option maxHeartbeats 4000000 in
set_option maxRecDepth 100000 in
theorem c_X12_passes_standsAt {R : (Nat → Int32) × (Nat → Int32) × Int32} (hf : f_X12_passes_standsAt a_standsAt a_kept i_isKeeping i_cursor = some R) : Met l yX12_passes wsX12_passes rm_X12_passes_standsAt (va_Pc [.ref h0, .ref (h0 + 11)] (gPre D b M (mg cI h0 a_refused a_isWall a_kind a_lampCell a_range a_lit a_scenes a_who a_cell a_minuteOf a_standsAt i_lampMany i_people i_minute a_tape a_letter a_letterAt a_told i_taped i_at i_statements a_kept i_hasImage i_isKeeping i_cursor a_far a_shut a_queue i_queued a_litBy a_may a_row i_rowMany g0) (gTy cI cL))) (gQ D b none M (mg cI h0 a_refused a_isWall a_kind a_lampCell a_range a_lit a_scenes a_who a_cell a_minuteOf R.1 i_lampMany i_people i_minute a_tape a_letter a_letterAt a_told i_taped i_at i_statements R.2.1 i_hasImage i_isKeeping R.2.2 a_far a_shut a_queue i_queued a_litBy a_may a_row i_rowMany g0)) 0 0 (gA b) := by
  refine gp_met (cc := cX12_passes) (maxL := 3) (ret := none) (by decide) rfl (Nat.le_of_ble_eq_true rfl) ?_
  intro p e s m below meth c X ls hG hl
  have hS : va_S (gA b) s.heap s.heap [] := va_S.rf
  obtain ⟨H, hH0⟩ : ∃ H : Heap, H = s.heap := ⟨_, rfl⟩
  rw [← hH0] at hG ⊢
  have hS : va_S (gA b) s.heap H [] := by rw [hH0]; exact va_S.rf
  obtain ⟨locs, hlo⟩ : ∃ z : List Loc, z = [] := ⟨_, rfl⟩
  rw [← hlo] at hS ⊢
  unfold f_X12_passes_standsAt at hf
  obtain ⟨hx, hb, hr, hml, hown, hts, hlocks, hKn, hBs⟩ := id X
  have hK := hKn.1
  have hin : ∀ w ∈ wsX120, w ∈ wsX12_passes := fun w h => List.mem_cons_of_mem _ (List.mem_append_right _ h)
  have hl : lv_has ls 3 [(0, .ref h0), (1, .ref (h0 + 11))] := hl
  refine lv_iconst (v := 0) hx hb dX12_passes_0 (by decide) ?_
  refine lv_istore_n (lv' := [(2, .int 0), (0, .ref h0), (1, .ref (h0 + 11))]) hx hb dX12_passes_1 rfl hl (by decide) rfl (fun ls hl => ?_)
  refine w_X12_passes_standsAt_2 X _ _ _ _ _ hf (fun x2_58 hf H locs ls hG hS hl => ?_) _ _ _ hG hS (lv_sub hl [1, 2, 0] rfl)
  · have hf := Option.some.inj hf
    subst hf
    exact gp_retV hx hb hr hlocks hG hS (Nat.le_refl _) (Nat.le_refl _) dX12_passes_58
-- X12_passes@who
abbrev rm_X12_passes_who : Room := { frames := 0, cells := 0, slots := 0, locals := 0 }
set_option maxHeartbeats 4000000 in
set_option maxRecDepth 100000 in
theorem w_X12_passes_who_2 {α : Type} {R : α} {K58 : ((Nat → Int32) × (Nat → Int32) × Int32) → Option α} (X : gC p s m args meth c cX12_passes 3 none wsX12_passes RX12 D b (gTy cI cL)) : ∀ (n : Nat) (v2 : Int32) (a_who : Nat → Int32) (a_kept : Nat → Int32) (i_cursor : Int32), L_X12_passes_who_2 K58 i_isKeeping n v2 a_who a_kept i_cursor = some R → (∀ (x : (Nat → Int32) × (Nat → Int32) × Int32), K58 x = some R → ∀ (H : Heap) (locs : List Loc) (ls : Array Slot), GP D b M (mg cI h0 a_refused a_isWall a_kind a_lampCell a_range a_lit a_scenes x.1 a_cell a_minuteOf a_standsAt i_lampMany i_people i_minute a_tape a_letter a_letterAt a_told i_taped i_at i_statements x.2.1 i_hasImage i_isKeeping x.2.2 a_far a_shut a_queue i_queued a_litBy a_may a_row i_rowMany g0) H → va_S (gA b) s.heap H locs → lv_has ls 3 [] → W p l e rm_X12_passes_who s m args below meth c H locs 0 0 Q (F0 m 58 ls [])) → ∀ (H : Heap) (locs : List Loc) (ls : Array Slot), GP D b M (mg cI h0 a_refused a_isWall a_kind a_lampCell a_range a_lit a_scenes a_who a_cell a_minuteOf a_standsAt i_lampMany i_people i_minute a_tape a_letter a_letterAt a_told i_taped i_at i_statements a_kept i_hasImage i_isKeeping i_cursor a_far a_shut a_queue i_queued a_litBy a_may a_row i_rowMany g0) H → va_S (gA b) s.heap H locs → lv_has ls 3 [(0, .ref h0), (1, .ref (h0 + 8)), (2, .int v2)] → W p l e rm_X12_passes_who s m args below meth c H locs 0 0 Q (F0 m 2 ls []) := by
  obtain ⟨hx, hb, hr, hml, hown, hts, hlocks, hKn, hBs⟩ := id X
  have hK := hKn.1
  have hin : ∀ w ∈ wsX120, w ∈ wsX12_passes := fun w h => List.mem_cons_of_mem _ (List.mem_append_right _ h)
  intro n
  induction n with
  | zero =>
    intro v2 a_who a_kept i_cursor hf
    cases hf
  | succ n ih =>
    intro v2 a_who a_kept i_cursor hf hk58 H locs ls hG hS hl
    rw [L_X12_passes_who_2.eq_2] at hf
    refine lv_iload_n hx hb dX12_passes_2 rfl (lv_at hl 2 rfl) ?_
    refine lv_aload_n hx hb dX12_passes_3 rfl (lv_at hl 1 rfl) ?_
    refine gp_alenI (v := 54) hx hb hK hG mg_who rfl dX12_passes_4 ?_
    refine lv_icmp_ge (tgt := 58) hx hb dX12_passes_5 (by decide) (fun c5 => ?_) (fun c5 => ?_)
    · have hf := gb_t c5 hf
      exact hk58 _ hf _ _ _ hG hS (lv_sub hl [] rfl)
    · have hf := gb_f c5 hf
      refine lv_aload_n hx hb dX12_passes_8 rfl (lv_at hl 0 rfl) ?_
      refine gp_get (v := .int i_isKeeping) (C := RX12) (T := TX12) (N := 33) (ci := 10) hx hb hts hin hown hK hG mg_o rfl 23 (by decide) (hts _ (List.mem_of_getElem? (i := 1) rfl)) (fun _ h9 => h9) rfl dX12_passes_9 ?_
      obtain ⟨j12, hj12, hf⟩ := gb_b hf
      have hJ12 : ∀ (H : Heap) (locs : List Loc) (ls : Array Slot), GP D b M (mg cI h0 a_refused a_isWall a_kind a_lampCell a_range a_lit a_scenes j12.1 a_cell a_minuteOf a_standsAt i_lampMany i_people i_minute a_tape a_letter a_letterAt a_told i_taped i_at i_statements j12.2 i_hasImage i_isKeeping i_cursor a_far a_shut a_queue i_queued a_litBy a_may a_row i_rowMany g0) H → va_S (gA b) s.heap H locs → lv_has ls 3 [(0, .ref h0), (1, .ref (h0 + 8)), (2, .int v2)] → W p l e rm_X12_passes_who s m args below meth c H locs 0 0 Q (F0 m 42 ls []) := by
        intro H locs ls hG hS hl
        refine lv_aload_n hx hb dX12_passes_42 rfl (lv_at hl 0 rfl) ?_
        refine lv_dup hx hb dX12_passes_43 rfl ?_
        refine gp_get (v := .int i_cursor) (C := RX12) (T := TX12) (N := 33) (ci := 10) hx hb hts hin hown hK hG mg_o rfl 24 (by decide) (hts _ (List.mem_of_getElem? (i := 3) rfl)) (fun _ h9 => h9) rfl dX12_passes_44 ?_
        refine lv_iconst (v := 1) hx hb dX12_passes_47 (by decide) ?_
        refine lv_iadd hx hb dX12_passes_48 ?_
        refine gp_put (v := .int (i_cursor + 1)) (tyk := .int) (C := RX12) (T := TX12) (N := 33) (ci := 10) hx hb hts hin tyX12 tyX12_ok nmX12 hown hK hG hS mg_o rfl 24 (by decide) (hts _ (List.mem_of_getElem? (i := 3) rfl)) (fun _ h9 => h9) rfl rfl rfl rfl (Nat.le_of_ble_eq_true rfl) mu_cursor dX12_passes_49 (fun H locs hG hS => ?_)
        refine lv_iinc (v := v2 + 1) (lv' := [(2, .int (v2 + 1)), (0, .ref h0), (1, .ref (h0 + 8))]) hx hb dX12_passes_52 hl (k := 2) rfl rfl (by decide) rfl (fun ls hl => ?_)
        refine lv_goto (tgt := 2) hx hb dX12_passes_55 (by decide) ?_
        exact ih _ _ _ _ hf hk58 _ _ _ hG hS (lv_sub hl [1, 2, 0] rfl)
      refine lv_if_eq (tgt := 30) hx hb dX12_passes_12 (by decide) (fun c12 => ?_) (fun c12 => ?_)
      · have hj12 := gb_t c12 hj12
        refine lv_aload_n hx hb dX12_passes_30 rfl (lv_at hl 1 rfl) ?_
        refine lv_iload_n hx hb dX12_passes_31 rfl (lv_at hl 2 rfl) ?_
        refine lv_aload_n hx hb dX12_passes_32 rfl (lv_at hl 0 rfl) ?_
        refine gp_get (v := .ref (h0 + 16)) (C := RX12) (T := TX12) (N := 33) (ci := 10) hx hb hts hin hown hK hG mg_o rfl 21 (by decide) (hts _ (List.mem_of_getElem? (i := 2) rfl)) (fun _ h9 => h9) rfl dX12_passes_33 ?_
        refine lv_aload_n hx hb dX12_passes_36 rfl (lv_at hl 0 rfl) ?_
        refine gp_get (v := .int i_cursor) (C := RX12) (T := TX12) (N := 33) (ci := 10) hx hb hts hin hown hK hG mg_o rfl 24 (by decide) (hts _ (List.mem_of_getElem? (i := 3) rfl)) (fun _ h9 => h9) rfl dX12_passes_37 ?_
        obtain ⟨b40, hj12⟩ := gb_ix hj12
        refine gp_iald hx hb hK hG mg_kept b40 dX12_passes_40 ?_
        obtain ⟨b41, hj12⟩ := gb_ix hj12
        refine gp_iast hx hb hK hG hS mg_who b41 mu_who dX12_passes_41 (fun H locs hG hS => ?_)
        have hj12 := Option.some.inj hj12
        subst hj12
        exact hJ12 H locs ls hG hS (lv_sub hl [0, 1, 2] rfl)
      · have hj12 := gb_f c12 hj12
        refine lv_aload_n hx hb dX12_passes_15 rfl (lv_at hl 0 rfl) ?_
        refine gp_get (v := .ref (h0 + 16)) (C := RX12) (T := TX12) (N := 33) (ci := 10) hx hb hts hin hown hK hG mg_o rfl 21 (by decide) (hts _ (List.mem_of_getElem? (i := 2) rfl)) (fun _ h9 => h9) rfl dX12_passes_16 ?_
        refine lv_aload_n hx hb dX12_passes_19 rfl (lv_at hl 0 rfl) ?_
        refine gp_get (v := .int i_cursor) (C := RX12) (T := TX12) (N := 33) (ci := 10) hx hb hts hin hown hK hG mg_o rfl 24 (by decide) (hts _ (List.mem_of_getElem? (i := 3) rfl)) (fun _ h9 => h9) rfl dX12_passes_20 ?_
        refine lv_aload_n hx hb dX12_passes_23 rfl (lv_at hl 1 rfl) ?_
        refine lv_iload_n hx hb dX12_passes_24 rfl (lv_at hl 2 rfl) ?_
        obtain ⟨b25, hj12⟩ := gb_ix hj12
        refine gp_iald hx hb hK hG mg_who b25 dX12_passes_25 ?_
        obtain ⟨b26, hj12⟩ := gb_ix hj12
        refine gp_iast hx hb hK hG hS mg_kept b26 mu_kept dX12_passes_26 (fun H locs hG hS => ?_)
        refine lv_goto (tgt := 42) hx hb dX12_passes_27 (by decide) ?_
        have hj12 := Option.some.inj hj12
        subst hj12
        exact hJ12 H locs ls hG hS (lv_sub hl [0, 1, 2] rfl)
set_option maxHeartbeats 4000000 in
set_option maxRecDepth 100000 in
theorem c_X12_passes_who {R : (Nat → Int32) × (Nat → Int32) × Int32} (hf : f_X12_passes_who a_who a_kept i_isKeeping i_cursor = some R) : Met l yX12_passes wsX12_passes rm_X12_passes_who (va_Pc [.ref h0, .ref (h0 + 8)] (gPre D b M (mg cI h0 a_refused a_isWall a_kind a_lampCell a_range a_lit a_scenes a_who a_cell a_minuteOf a_standsAt i_lampMany i_people i_minute a_tape a_letter a_letterAt a_told i_taped i_at i_statements a_kept i_hasImage i_isKeeping i_cursor a_far a_shut a_queue i_queued a_litBy a_may a_row i_rowMany g0) (gTy cI cL))) (gQ D b none M (mg cI h0 a_refused a_isWall a_kind a_lampCell a_range a_lit a_scenes R.1 a_cell a_minuteOf a_standsAt i_lampMany i_people i_minute a_tape a_letter a_letterAt a_told i_taped i_at i_statements R.2.1 i_hasImage i_isKeeping R.2.2 a_far a_shut a_queue i_queued a_litBy a_may a_row i_rowMany g0)) 0 0 (gA b) := by
  refine gp_met (cc := cX12_passes) (maxL := 3) (ret := none) (by decide) rfl (Nat.le_of_ble_eq_true rfl) ?_
  intro p e s m below meth c X ls hG hl
  have hS : va_S (gA b) s.heap s.heap [] := va_S.rf
  obtain ⟨H, hH0⟩ : ∃ H : Heap, H = s.heap := ⟨_, rfl⟩
  rw [← hH0] at hG ⊢
  have hS : va_S (gA b) s.heap H [] := by rw [hH0]; exact va_S.rf
  obtain ⟨locs, hlo⟩ : ∃ z : List Loc, z = [] := ⟨_, rfl⟩
  rw [← hlo] at hS ⊢
  unfold f_X12_passes_who at hf
  obtain ⟨hx, hb, hr, hml, hown, hts, hlocks, hKn, hBs⟩ := id X
  have hK := hKn.1
  have hin : ∀ w ∈ wsX120, w ∈ wsX12_passes := fun w h => List.mem_cons_of_mem _ (List.mem_append_right _ h)
  have hl : lv_has ls 3 [(0, .ref h0), (1, .ref (h0 + 8))] := hl
  refine lv_iconst (v := 0) hx hb dX12_passes_0 (by decide) ?_
  refine lv_istore_n (lv' := [(2, .int 0), (0, .ref h0), (1, .ref (h0 + 8))]) hx hb dX12_passes_1 rfl hl (by decide) rfl (fun ls hl => ?_)
  refine w_X12_passes_who_2 X _ _ _ _ _ hf (fun x2_58 hf H locs ls hG hS hl => ?_) _ _ _ hG hS (lv_sub hl [1, 2, 0] rfl)
  · have hf := Option.some.inj hf
    subst hf
    exact gp_retV hx hb hr hlocks hG hS (Nat.le_refl _) (Nat.le_refl _) dX12_passes_58
-- X12_passesAll
abbrev rm_X12_passesAll : Room := { frames := 1, cells := 0, slots := 0, locals := 22 }
set_option maxHeartbeats 4000000 in
set_option maxRecDepth 100000 in
theorem c_X12_passesAll {v1 : Int32} {v2 : Int32} {R : (Nat → Int32) × (Nat → Int32) × (Nat → Int32) × (Nat → Int32) × (Nat → Int32) × (Nat → Int32) × (Nat → Int32) × (Nat → Int32) × (Nat → Int32) × (Nat → Int32) × Int32 × Int32 × Int32 × (Nat → Int32) × Int32 × Int32} (hf : f_X12_passesAll a_isWall a_kind a_lampCell a_range a_lit a_scenes a_who a_cell a_minuteOf a_standsAt i_lampMany i_people i_minute a_kept i_isKeeping i_cursor v1 v2 = some R) : Met l yX12_passesAll wsX12_passesAll rm_X12_passesAll (va_Pc [.ref h0, .int v1, .int v2] (gPre D b M (mg cI h0 a_refused a_isWall a_kind a_lampCell a_range a_lit a_scenes a_who a_cell a_minuteOf a_standsAt i_lampMany i_people i_minute a_tape a_letter a_letterAt a_told i_taped i_at i_statements a_kept i_hasImage i_isKeeping i_cursor a_far a_shut a_queue i_queued a_litBy a_may a_row i_rowMany g0) (gTy cI cL))) (gQ D b none M (mg cI h0 a_refused R.1 R.2.1 R.2.2.1 R.2.2.2.1 R.2.2.2.2.1 R.2.2.2.2.2.1 R.2.2.2.2.2.2.1 R.2.2.2.2.2.2.2.1 R.2.2.2.2.2.2.2.2.1 R.2.2.2.2.2.2.2.2.2.1 R.2.2.2.2.2.2.2.2.2.2.1 R.2.2.2.2.2.2.2.2.2.2.2.1 R.2.2.2.2.2.2.2.2.2.2.2.2.1 a_tape a_letter a_letterAt a_told i_taped i_at i_statements R.2.2.2.2.2.2.2.2.2.2.2.2.2.1 i_hasImage R.2.2.2.2.2.2.2.2.2.2.2.2.2.2.1 R.2.2.2.2.2.2.2.2.2.2.2.2.2.2.2 a_far a_shut a_queue i_queued a_litBy a_may a_row i_rowMany g0)) 0 0 (gA b) := by
  refine gp_met (cc := cX12_passesAll) (maxL := 3) (ret := none) (by decide) rfl (Nat.le_of_ble_eq_true rfl) ?_
  intro p e s m below meth c X ls hG hl
  have hS : va_S (gA b) s.heap s.heap [] := va_S.rf
  obtain ⟨H, hH0⟩ : ∃ H : Heap, H = s.heap := ⟨_, rfl⟩
  rw [← hH0] at hG ⊢
  have hS : va_S (gA b) s.heap H [] := by rw [hH0]; exact va_S.rf
  obtain ⟨locs, hlo⟩ : ∃ z : List Loc, z = [] := ⟨_, rfl⟩
  rw [← hlo] at hS ⊢
  unfold f_X12_passesAll at hf
  obtain ⟨hx, hb, hr, hml, hown, hts, hlocks, hKn, hBs⟩ := id X
  have hK := hKn.1
  have hin : ∀ w ∈ wsX120, w ∈ wsX12_passesAll := fun w h => List.mem_cons_of_mem _ (List.mem_append_right _ h)
  have hl : lv_has ls 3 [(0, .ref h0), (1, .int v1), (2, .int v2)] := hl
  refine lv_aload_n hx hb dX12_passesAll_0 rfl (lv_at hl 0 rfl) ?_
  refine lv_sipush (v := 300) hx hb dX12_passesAll_1 (by decide) ?_
  refine lv_iload_n hx hb dX12_passesAll_4 rfl (lv_at hl 1 rfl) ?_
  refine lv_imul hx hb dX12_passesAll_5 ?_
  refine gp_put (v := .int (300 * v1)) (tyk := .int) (C := RX12) (T := TX12) (N := 33) (ci := 10) hx hb hts hin tyX12 tyX12_ok nmX12 hown hK hG hS mg_o rfl 24 (by decide) (hts _ (List.mem_of_getElem? (i := 1) rfl)) (fun _ h9 => h9) rfl rfl rfl rfl (Nat.le_of_ble_eq_true rfl) mu_cursor dX12_passesAll_6 (fun H locs hG hS => ?_)
  refine lv_aload_n hx hb dX12_passesAll_9 rfl (lv_at hl 0 rfl) ?_
  refine lv_iload_n hx hb dX12_passesAll_10 rfl (lv_at hl 2 rfl) ?_
  obtain ⟨z11, hf⟩ := gb_zb hf
  refine gp_put (v := .int v2) (tyk := .boolean) (C := RX12) (T := TX12) (N := 33) (ci := 10) hx hb hts hin tyX12 tyX12_ok nmX12 hown hK hG hS mg_o rfl 23 (by decide) (hts _ (List.mem_of_getElem? (i := 2) rfl)) (fun _ h9 => h9) rfl rfl (gfit_z z11).1 (gfit_z z11).2 (Nat.le_of_ble_eq_true rfl) mu_isKeeping dX12_passesAll_11 (fun H locs hG hS => ?_)
  refine lv_aload_n hx hb dX12_passesAll_14 rfl (lv_at hl 0 rfl) ?_
  refine lv_aload_n hx hb dX12_passesAll_15 rfl (lv_at hl 0 rfl) ?_
  refine gp_get (v := .ref (h0 + 2)) (C := RX12) (T := TX12) (N := 33) (ci := 10) hx hb hts hin hown hK hG mg_o rfl 1 (by decide) (hts _ (List.mem_of_getElem? (i := 3) rfl)) (fun _ h9 => h9) rfl dX12_passesAll_16 ?_
  obtain ⟨o19, hc19, hf⟩ := gb_b hf
  refine gp_callV (va_runV (As := [.ref (h0 + 2)]) (rest := []) ⟨hx, hb, hml, hown, hts⟩ (c_X12_passes_isWall (l := l) (D := D) (b := b) (M := M) (cI := cI) (cL := cL) hc19) (cwV 1 hts gX12_passesAll_X12_passes rfl rfl rfl (by decide +kernel) ⟨Nat.le_of_ble_eq_true rfl, Nat.le_of_ble_eq_true rfl⟩) (gp_preV hKn hG mg_o rfl) rfl rfl hl.1 rfl (lv_room (Nat.le_of_ble_eq_true rfl)) dX12_passesAll_19 ⟨Nat.le_of_ble_eq_true rfl, Nat.le_of_ble_eq_true rfl⟩) hS (fun H locs hG hS => ?_)
  refine lv_aload_n hx hb dX12_passesAll_22 rfl (lv_at hl 0 rfl) ?_
  refine lv_aload_n hx hb dX12_passesAll_23 rfl (lv_at hl 0 rfl) ?_
  refine gp_get (v := .ref (h0 + 3)) (C := RX12) (T := TX12) (N := 33) (ci := 10) hx hb hts hin hown hK hG mg_o rfl 2 (by decide) (hts _ (List.mem_of_getElem? (i := 4) rfl)) (fun _ h9 => h9) rfl dX12_passesAll_24 ?_
  obtain ⟨o27, hc27, hf⟩ := gb_b hf
  refine gp_callV (va_runV (As := [.ref (h0 + 3)]) (rest := []) ⟨hx, hb, hml, hown, hts⟩ (c_X12_passes_kind (l := l) (D := D) (b := b) (M := M) (cI := cI) (cL := cL) hc27) (cwV 1 hts gX12_passesAll_X12_passes rfl rfl rfl (by decide +kernel) ⟨Nat.le_of_ble_eq_true rfl, Nat.le_of_ble_eq_true rfl⟩) (gp_preV hKn hG mg_o rfl) rfl rfl hl.1 rfl (lv_room (Nat.le_of_ble_eq_true rfl)) dX12_passesAll_27 ⟨Nat.le_of_ble_eq_true rfl, Nat.le_of_ble_eq_true rfl⟩) hS (fun H locs hG hS => ?_)
  refine lv_aload_n hx hb dX12_passesAll_30 rfl (lv_at hl 0 rfl) ?_
  refine lv_aload_n hx hb dX12_passesAll_31 rfl (lv_at hl 0 rfl) ?_
  refine gp_get (v := .ref (h0 + 4)) (C := RX12) (T := TX12) (N := 33) (ci := 10) hx hb hts hin hown hK hG mg_o rfl 3 (by decide) (hts _ (List.mem_of_getElem? (i := 5) rfl)) (fun _ h9 => h9) rfl dX12_passesAll_32 ?_
  obtain ⟨o35, hc35, hf⟩ := gb_b hf
  refine gp_callV (va_runV (As := [.ref (h0 + 4)]) (rest := []) ⟨hx, hb, hml, hown, hts⟩ (c_X12_passes_lampCell (l := l) (D := D) (b := b) (M := M) (cI := cI) (cL := cL) hc35) (cwV 1 hts gX12_passesAll_X12_passes rfl rfl rfl (by decide +kernel) ⟨Nat.le_of_ble_eq_true rfl, Nat.le_of_ble_eq_true rfl⟩) (gp_preV hKn hG mg_o rfl) rfl rfl hl.1 rfl (lv_room (Nat.le_of_ble_eq_true rfl)) dX12_passesAll_35 ⟨Nat.le_of_ble_eq_true rfl, Nat.le_of_ble_eq_true rfl⟩) hS (fun H locs hG hS => ?_)
  refine lv_aload_n hx hb dX12_passesAll_38 rfl (lv_at hl 0 rfl) ?_
  refine lv_aload_n hx hb dX12_passesAll_39 rfl (lv_at hl 0 rfl) ?_
  refine gp_get (v := .ref (h0 + 5)) (C := RX12) (T := TX12) (N := 33) (ci := 10) hx hb hts hin hown hK hG mg_o rfl 4 (by decide) (hts _ (List.mem_of_getElem? (i := 6) rfl)) (fun _ h9 => h9) rfl dX12_passesAll_40 ?_
  obtain ⟨o43, hc43, hf⟩ := gb_b hf
  refine gp_callV (va_runV (As := [.ref (h0 + 5)]) (rest := []) ⟨hx, hb, hml, hown, hts⟩ (c_X12_passes_range (l := l) (D := D) (b := b) (M := M) (cI := cI) (cL := cL) hc43) (cwV 1 hts gX12_passesAll_X12_passes rfl rfl rfl (by decide +kernel) ⟨Nat.le_of_ble_eq_true rfl, Nat.le_of_ble_eq_true rfl⟩) (gp_preV hKn hG mg_o rfl) rfl rfl hl.1 rfl (lv_room (Nat.le_of_ble_eq_true rfl)) dX12_passesAll_43 ⟨Nat.le_of_ble_eq_true rfl, Nat.le_of_ble_eq_true rfl⟩) hS (fun H locs hG hS => ?_)
  refine lv_aload_n hx hb dX12_passesAll_46 rfl (lv_at hl 0 rfl) ?_
  refine lv_aload_n hx hb dX12_passesAll_47 rfl (lv_at hl 0 rfl) ?_
  refine gp_get (v := .ref (h0 + 6)) (C := RX12) (T := TX12) (N := 33) (ci := 10) hx hb hts hin hown hK hG mg_o rfl 5 (by decide) (hts _ (List.mem_of_getElem? (i := 7) rfl)) (fun _ h9 => h9) rfl dX12_passesAll_48 ?_
  obtain ⟨o51, hc51, hf⟩ := gb_b hf
  refine gp_callV (va_runV (As := [.ref (h0 + 6)]) (rest := []) ⟨hx, hb, hml, hown, hts⟩ (c_X12_passes_lit (l := l) (D := D) (b := b) (M := M) (cI := cI) (cL := cL) hc51) (cwV 1 hts gX12_passesAll_X12_passes rfl rfl rfl (by decide +kernel) ⟨Nat.le_of_ble_eq_true rfl, Nat.le_of_ble_eq_true rfl⟩) (gp_preV hKn hG mg_o rfl) rfl rfl hl.1 rfl (lv_room (Nat.le_of_ble_eq_true rfl)) dX12_passesAll_51 ⟨Nat.le_of_ble_eq_true rfl, Nat.le_of_ble_eq_true rfl⟩) hS (fun H locs hG hS => ?_)
  refine lv_aload_n hx hb dX12_passesAll_54 rfl (lv_at hl 0 rfl) ?_
  refine lv_aload_n hx hb dX12_passesAll_55 rfl (lv_at hl 0 rfl) ?_
  refine gp_get (v := .ref (h0 + 7)) (C := RX12) (T := TX12) (N := 33) (ci := 10) hx hb hts hin hown hK hG mg_o rfl 6 (by decide) (hts _ (List.mem_of_getElem? (i := 8) rfl)) (fun _ h9 => h9) rfl dX12_passesAll_56 ?_
  obtain ⟨o59, hc59, hf⟩ := gb_b hf
  refine gp_callV (va_runV (As := [.ref (h0 + 7)]) (rest := []) ⟨hx, hb, hml, hown, hts⟩ (c_X12_passes_scenes (l := l) (D := D) (b := b) (M := M) (cI := cI) (cL := cL) hc59) (cwV 1 hts gX12_passesAll_X12_passes rfl rfl rfl (by decide +kernel) ⟨Nat.le_of_ble_eq_true rfl, Nat.le_of_ble_eq_true rfl⟩) (gp_preV hKn hG mg_o rfl) rfl rfl hl.1 rfl (lv_room (Nat.le_of_ble_eq_true rfl)) dX12_passesAll_59 ⟨Nat.le_of_ble_eq_true rfl, Nat.le_of_ble_eq_true rfl⟩) hS (fun H locs hG hS => ?_)
  refine lv_aload_n hx hb dX12_passesAll_62 rfl (lv_at hl 0 rfl) ?_
  refine lv_aload_n hx hb dX12_passesAll_63 rfl (lv_at hl 0 rfl) ?_
  refine gp_get (v := .ref (h0 + 8)) (C := RX12) (T := TX12) (N := 33) (ci := 10) hx hb hts hin hown hK hG mg_o rfl 7 (by decide) (hts _ (List.mem_of_getElem? (i := 9) rfl)) (fun _ h9 => h9) rfl dX12_passesAll_64 ?_
  obtain ⟨o67, hc67, hf⟩ := gb_b hf
  refine gp_callV (va_runV (As := [.ref (h0 + 8)]) (rest := []) ⟨hx, hb, hml, hown, hts⟩ (c_X12_passes_who (l := l) (D := D) (b := b) (M := M) (cI := cI) (cL := cL) hc67) (cwV 1 hts gX12_passesAll_X12_passes rfl rfl rfl (by decide +kernel) ⟨Nat.le_of_ble_eq_true rfl, Nat.le_of_ble_eq_true rfl⟩) (gp_preV hKn hG mg_o rfl) rfl rfl hl.1 rfl (lv_room (Nat.le_of_ble_eq_true rfl)) dX12_passesAll_67 ⟨Nat.le_of_ble_eq_true rfl, Nat.le_of_ble_eq_true rfl⟩) hS (fun H locs hG hS => ?_)
  refine lv_aload_n hx hb dX12_passesAll_70 rfl (lv_at hl 0 rfl) ?_
  refine lv_aload_n hx hb dX12_passesAll_71 rfl (lv_at hl 0 rfl) ?_
  refine gp_get (v := .ref (h0 + 9)) (C := RX12) (T := TX12) (N := 33) (ci := 10) hx hb hts hin hown hK hG mg_o rfl 8 (by decide) (hts _ (List.mem_of_getElem? (i := 10) rfl)) (fun _ h9 => h9) rfl dX12_passesAll_72 ?_
  obtain ⟨o75, hc75, hf⟩ := gb_b hf
  refine gp_callV (va_runV (As := [.ref (h0 + 9)]) (rest := []) ⟨hx, hb, hml, hown, hts⟩ (c_X12_passes_cell (l := l) (D := D) (b := b) (M := M) (cI := cI) (cL := cL) hc75) (cwV 1 hts gX12_passesAll_X12_passes rfl rfl rfl (by decide +kernel) ⟨Nat.le_of_ble_eq_true rfl, Nat.le_of_ble_eq_true rfl⟩) (gp_preV hKn hG mg_o rfl) rfl rfl hl.1 rfl (lv_room (Nat.le_of_ble_eq_true rfl)) dX12_passesAll_75 ⟨Nat.le_of_ble_eq_true rfl, Nat.le_of_ble_eq_true rfl⟩) hS (fun H locs hG hS => ?_)
  refine lv_aload_n hx hb dX12_passesAll_78 rfl (lv_at hl 0 rfl) ?_
  refine lv_aload_n hx hb dX12_passesAll_79 rfl (lv_at hl 0 rfl) ?_
  refine gp_get (v := .ref (h0 + 10)) (C := RX12) (T := TX12) (N := 33) (ci := 10) hx hb hts hin hown hK hG mg_o rfl 9 (by decide) (hts _ (List.mem_of_getElem? (i := 11) rfl)) (fun _ h9 => h9) rfl dX12_passesAll_80 ?_
  obtain ⟨o83, hc83, hf⟩ := gb_b hf
  refine gp_callV (va_runV (As := [.ref (h0 + 10)]) (rest := []) ⟨hx, hb, hml, hown, hts⟩ (c_X12_passes_minuteOf (l := l) (D := D) (b := b) (M := M) (cI := cI) (cL := cL) hc83) (cwV 1 hts gX12_passesAll_X12_passes rfl rfl rfl (by decide +kernel) ⟨Nat.le_of_ble_eq_true rfl, Nat.le_of_ble_eq_true rfl⟩) (gp_preV hKn hG mg_o rfl) rfl rfl hl.1 rfl (lv_room (Nat.le_of_ble_eq_true rfl)) dX12_passesAll_83 ⟨Nat.le_of_ble_eq_true rfl, Nat.le_of_ble_eq_true rfl⟩) hS (fun H locs hG hS => ?_)
  refine lv_aload_n hx hb dX12_passesAll_86 rfl (lv_at hl 0 rfl) ?_
  refine lv_aload_n hx hb dX12_passesAll_87 rfl (lv_at hl 0 rfl) ?_
  refine gp_get (v := .ref (h0 + 11)) (C := RX12) (T := TX12) (N := 33) (ci := 10) hx hb hts hin hown hK hG mg_o rfl 10 (by decide) (hts _ (List.mem_of_getElem? (i := 12) rfl)) (fun _ h9 => h9) rfl dX12_passesAll_88 ?_
  obtain ⟨o91, hc91, hf⟩ := gb_b hf
  refine gp_callV (va_runV (As := [.ref (h0 + 11)]) (rest := []) ⟨hx, hb, hml, hown, hts⟩ (c_X12_passes_standsAt (l := l) (D := D) (b := b) (M := M) (cI := cI) (cL := cL) hc91) (cwV 1 hts gX12_passesAll_X12_passes rfl rfl rfl (by decide +kernel) ⟨Nat.le_of_ble_eq_true rfl, Nat.le_of_ble_eq_true rfl⟩) (gp_preV hKn hG mg_o rfl) rfl rfl hl.1 rfl (lv_room (Nat.le_of_ble_eq_true rfl)) dX12_passesAll_91 ⟨Nat.le_of_ble_eq_true rfl, Nat.le_of_ble_eq_true rfl⟩) hS (fun H locs hG hS => ?_)
  refine lv_aload_n hx hb dX12_passesAll_94 rfl (lv_at hl 0 rfl) ?_
  refine lv_aload_n hx hb dX12_passesAll_95 rfl (lv_at hl 0 rfl) ?_
  refine lv_aload_n hx hb dX12_passesAll_96 rfl (lv_at hl 0 rfl) ?_
  refine gp_get (v := .int i_lampMany) (C := RX12) (T := TX12) (N := 33) (ci := 10) hx hb hts hin hown hK hG mg_o rfl 11 (by decide) (hts _ (List.mem_of_getElem? (i := 13) rfl)) (fun _ h9 => h9) rfl dX12_passesAll_97 ?_
  obtain ⟨o100, hc100, hf⟩ := gb_b hf
  refine gp_callI (va_runV (As := [.int i_lampMany]) (rest := [.ref h0]) ⟨hx, hb, hml, hown, hts⟩ (c_X12_passOne (l := l) (D := D) (b := b) (M := M) (cI := cI) (cL := cL) hc100) (cwV 1 hts gX12_passesAll_X12_passOne rfl rfl rfl (by decide +kernel) ⟨Nat.le_of_ble_eq_true rfl, Nat.le_of_ble_eq_true rfl⟩) (gp_preV hKn hG mg_o rfl) rfl rfl hl.1 rfl (lv_room (Nat.le_of_ble_eq_true rfl)) dX12_passesAll_100 ⟨Nat.le_of_ble_eq_true rfl, Nat.le_of_ble_eq_true rfl⟩) hS (fun H locs hG hS => ?_)
  refine gp_put (v := .int o100.1) (tyk := .int) (C := RX12) (T := TX12) (N := 33) (ci := 10) hx hb hts hin tyX12 tyX12_ok nmX12 hown hK hG hS mg_o rfl 11 (by decide) (hts _ (List.mem_of_getElem? (i := 13) rfl)) (fun _ h9 => h9) rfl rfl rfl rfl (Nat.le_of_ble_eq_true rfl) mu_lampMany dX12_passesAll_103 (fun H locs hG hS => ?_)
  refine lv_aload_n hx hb dX12_passesAll_106 rfl (lv_at hl 0 rfl) ?_
  refine lv_aload_n hx hb dX12_passesAll_107 rfl (lv_at hl 0 rfl) ?_
  refine lv_aload_n hx hb dX12_passesAll_108 rfl (lv_at hl 0 rfl) ?_
  refine gp_get (v := .int i_people) (C := RX12) (T := TX12) (N := 33) (ci := 10) hx hb hts hin hown hK hG mg_o rfl 12 (by decide) (hts _ (List.mem_of_getElem? (i := 14) rfl)) (fun _ h9 => h9) rfl dX12_passesAll_109 ?_
  obtain ⟨o112, hc112, hf⟩ := gb_b hf
  refine gp_callI (va_runV (As := [.int i_people]) (rest := [.ref h0]) ⟨hx, hb, hml, hown, hts⟩ (c_X12_passOne (l := l) (D := D) (b := b) (M := M) (cI := cI) (cL := cL) hc112) (cwV 1 hts gX12_passesAll_X12_passOne rfl rfl rfl (by decide +kernel) ⟨Nat.le_of_ble_eq_true rfl, Nat.le_of_ble_eq_true rfl⟩) (gp_preV hKn hG mg_o rfl) rfl rfl hl.1 rfl (lv_room (Nat.le_of_ble_eq_true rfl)) dX12_passesAll_112 ⟨Nat.le_of_ble_eq_true rfl, Nat.le_of_ble_eq_true rfl⟩) hS (fun H locs hG hS => ?_)
  refine gp_put (v := .int o112.1) (tyk := .int) (C := RX12) (T := TX12) (N := 33) (ci := 10) hx hb hts hin tyX12 tyX12_ok nmX12 hown hK hG hS mg_o rfl 12 (by decide) (hts _ (List.mem_of_getElem? (i := 14) rfl)) (fun _ h9 => h9) rfl rfl rfl rfl (Nat.le_of_ble_eq_true rfl) mu_people dX12_passesAll_115 (fun H locs hG hS => ?_)
  refine lv_aload_n hx hb dX12_passesAll_118 rfl (lv_at hl 0 rfl) ?_
  refine lv_aload_n hx hb dX12_passesAll_119 rfl (lv_at hl 0 rfl) ?_
  refine lv_aload_n hx hb dX12_passesAll_120 rfl (lv_at hl 0 rfl) ?_
  refine gp_get (v := .int i_minute) (C := RX12) (T := TX12) (N := 33) (ci := 10) hx hb hts hin hown hK hG mg_o rfl 13 (by decide) (hts _ (List.mem_of_getElem? (i := 15) rfl)) (fun _ h9 => h9) rfl dX12_passesAll_121 ?_
  obtain ⟨o124, hc124, hf⟩ := gb_b hf
  refine gp_callI (va_runV (As := [.int i_minute]) (rest := [.ref h0]) ⟨hx, hb, hml, hown, hts⟩ (c_X12_passOne (l := l) (D := D) (b := b) (M := M) (cI := cI) (cL := cL) hc124) (cwV 1 hts gX12_passesAll_X12_passOne rfl rfl rfl (by decide +kernel) ⟨Nat.le_of_ble_eq_true rfl, Nat.le_of_ble_eq_true rfl⟩) (gp_preV hKn hG mg_o rfl) rfl rfl hl.1 rfl (lv_room (Nat.le_of_ble_eq_true rfl)) dX12_passesAll_124 ⟨Nat.le_of_ble_eq_true rfl, Nat.le_of_ble_eq_true rfl⟩) hS (fun H locs hG hS => ?_)
  refine gp_put (v := .int o124.1) (tyk := .int) (C := RX12) (T := TX12) (N := 33) (ci := 10) hx hb hts hin tyX12 tyX12_ok nmX12 hown hK hG hS mg_o rfl 13 (by decide) (hts _ (List.mem_of_getElem? (i := 15) rfl)) (fun _ h9 => h9) rfl rfl rfl rfl (Nat.le_of_ble_eq_true rfl) mu_minute dX12_passesAll_127 (fun H locs hG hS => ?_)
  have hf := Option.some.inj hf
  subst hf
  exact gp_retV hx hb hr hlocks hG hS (Nat.le_refl _) (Nat.le_refl _) dX12_passesAll_130
-- X12_town
abbrev rm_X12_town : Room := { frames := 7, cells := 0, slots := 0, locals := 162 }
set_option maxHeartbeats 4000000 in
set_option maxRecDepth 100000 in
theorem w_X12_town_12 {α : Type} {R : α} {K60 : (Int32 × (Nat → Int32) × (Nat → Int32) × (Nat → Int32) × Int32 × Int32) → Option α} (X : gC p s m args meth c cX12_town 3 (some .int) wsX12_town RX12 D b (gTy cI cL)) : ∀ (n : Nat) (v1 : Int32) (a_letter : Nat → Int32) (a_letterAt : Nat → Int32) (a_told : Nat → Int32) (i_at : Int32) (i_statements : Int32), L_X12_town_12 K60 a_tape i_taped n v1 a_letter a_letterAt a_told i_at i_statements = some R → (∀ (x : Int32 × (Nat → Int32) × (Nat → Int32) × (Nat → Int32) × Int32 × Int32), K60 x = some R → ∀ (H : Heap) (locs : List Loc) (ls : Array Slot), GP D b M (mg cI h0 a_refused a_isWall a_kind a_lampCell a_range a_lit a_scenes a_who a_cell a_minuteOf a_standsAt i_lampMany i_people i_minute a_tape x.2.1 x.2.2.1 x.2.2.2.1 i_taped x.2.2.2.2.1 x.2.2.2.2.2 a_kept i_hasImage i_isKeeping i_cursor a_far a_shut a_queue i_queued a_litBy a_may a_row i_rowMany g0) H → va_S (gA b) s.heap H locs → lv_has ls 3 [(0, .ref h0), (1, .int x.1)] → W p l e rm_X12_town s m args below meth c H locs 0 0 Q (F0 m 60 ls [])) → ∀ (H : Heap) (locs : List Loc) (ls : Array Slot), GP D b M (mg cI h0 a_refused a_isWall a_kind a_lampCell a_range a_lit a_scenes a_who a_cell a_minuteOf a_standsAt i_lampMany i_people i_minute a_tape a_letter a_letterAt a_told i_taped i_at i_statements a_kept i_hasImage i_isKeeping i_cursor a_far a_shut a_queue i_queued a_litBy a_may a_row i_rowMany g0) H → va_S (gA b) s.heap H locs → lv_has ls 3 [(0, .ref h0), (1, .int v1)] → W p l e rm_X12_town s m args below meth c H locs 0 0 Q (F0 m 12 ls []) := by
  obtain ⟨hx, hb, hr, hml, hown, hts, hlocks, hKn, hBs⟩ := id X
  have hK := hKn.1
  have hin : ∀ w ∈ wsX120, w ∈ wsX12_town := fun w h => List.mem_cons_of_mem _ (List.mem_append_right _ h)
  intro n
  induction n with
  | zero =>
    intro v1 a_letter a_letterAt a_told i_at i_statements hf
    cases hf
  | succ n ih =>
    intro v1 a_letter a_letterAt a_told i_at i_statements hf hk60 H locs ls hG hS hl
    rw [L_X12_town_12.eq_2] at hf
    refine lv_iload_n hx hb dX12_town_12 rfl (lv_at hl 1 rfl) ?_
    refine lv_if_eq (tgt := 60) hx hb dX12_town_13 (by decide) (fun c13 => ?_) (fun c13 => ?_)
    · have hf := gb_t c13 hf
      exact hk60 _ hf _ _ _ hG hS (lv_sub hl [0, 1] rfl)
    · have hf := gb_f c13 hf
      refine lv_aload_n hx hb dX12_town_16 rfl (lv_at hl 0 rfl) ?_
      refine gp_get (v := .int i_at) (C := RX12) (T := TX12) (N := 33) (ci := 10) hx hb hts hin hown hK hG mg_o rfl 19 (by decide) (hts _ (List.mem_of_getElem? (i := 1) rfl)) (fun _ h9 => h9) rfl dX12_town_17 ?_
      refine lv_aload_n hx hb dX12_town_20 rfl (lv_at hl 0 rfl) ?_
      refine gp_get (v := .int i_taped) (C := RX12) (T := TX12) (N := 33) (ci := 10) hx hb hts hin hown hK hG mg_o rfl 18 (by decide) (hts _ (List.mem_of_getElem? (i := 3) rfl)) (fun _ h9 => h9) rfl dX12_town_21 ?_
      refine lv_icmp_lt (tgt := 34) hx hb dX12_town_24 (by decide) (fun c24 => ?_) (fun c24 => ?_)
      · have hf := gb_t c24 hf
        refine lv_aload_n hx hb dX12_town_34 rfl (lv_at hl 0 rfl) ?_
        obtain ⟨o35, hc35, hf⟩ := gb_b hf
        refine gp_callI (va_runV (As := []) (rest := []) ⟨hx, hb, hml, hown, hts⟩ (c_X12_statement (l := l) (D := D) (b := b) (M := M) (cI := cI) (cL := cL) hc35) (cwV 0 hts gX12_town_X12_statement rfl rfl rfl (by decide +kernel) ⟨Nat.le_of_ble_eq_true rfl, Nat.le_of_ble_eq_true rfl⟩) (gp_preV hKn hG mg_o rfl) rfl rfl hl.1 rfl (lv_room (Nat.le_of_ble_eq_true rfl)) dX12_town_35 ⟨Nat.le_of_ble_eq_true rfl, Nat.le_of_ble_eq_true rfl⟩) hS (fun H locs hG hS => ?_)
        refine lv_istore_n (lv' := [(1, .int o35.1), (0, .ref h0)]) hx hb dX12_town_38 rfl hl (by decide) rfl (fun ls hl => ?_)
        refine lv_aload_n hx hb dX12_town_39 rfl (lv_at hl 1 rfl) ?_
        refine lv_dup hx hb dX12_town_40 rfl ?_
        refine gp_get (v := .int i_statements) (C := RX12) (T := TX12) (N := 33) (ci := 10) hx hb hts hin hown hK hG mg_o rfl 20 (by decide) (hts _ (List.mem_of_getElem? (i := 2) rfl)) (fun _ h9 => h9) rfl dX12_town_41 ?_
        refine lv_iload_n hx hb dX12_town_44 rfl (lv_at hl 0 rfl) ?_
        have hJ45 : ∀ Z : Int32, Z = (if o35.1 = 0 then 0 else 1) → W p l e rm_X12_town s m args below meth c H locs 0 0 Q (F0 m 53 ls (.int Z :: [.int i_statements, .ref h0])) := by
          intro Z hZ
          subst hZ
          refine lv_iadd hx hb dX12_town_53 ?_
          refine gp_put (v := .int (i_statements + (if o35.1 = 0 then 0 else 1))) (tyk := .int) (C := RX12) (T := TX12) (N := 33) (ci := 10) hx hb hts hin tyX12 tyX12_ok nmX12 hown hK hG hS mg_o rfl 20 (by decide) (hts _ (List.mem_of_getElem? (i := 2) rfl)) (fun _ h9 => h9) rfl rfl rfl rfl (Nat.le_of_ble_eq_true rfl) mu_statements dX12_town_54 (fun H locs hG hS => ?_)
          refine lv_goto (tgt := 12) hx hb dX12_town_57 (by decide) ?_
          exact ih _ _ _ _ _ _ hf hk60 _ _ _ hG hS (lv_sub hl [1, 0] rfl)
        refine lv_if_eq (tgt := 52) hx hb dX12_town_45 (by decide) (fun c45 => ?_) (fun c45 => ?_)
        · rw [if_pos c45] at hJ45
          refine lv_iconst (v := 0) hx hb dX12_town_52 (by decide) ?_
          exact hJ45 _ rfl
        · rw [if_neg c45] at hJ45
          refine lv_iconst (v := 1) hx hb dX12_town_48 (by decide) ?_
          refine lv_goto (tgt := 53) hx hb dX12_town_49 (by decide) ?_
          exact hJ45 _ rfl
      · have hf := gb_f c24 hf
        refine lv_aload_n hx hb dX12_town_27 rfl (lv_at hl 0 rfl) ?_
        refine gp_get (v := .int i_statements) (C := RX12) (T := TX12) (N := 33) (ci := 10) hx hb hts hin hown hK hG mg_o rfl 20 (by decide) (hts _ (List.mem_of_getElem? (i := 2) rfl)) (fun _ h9 => h9) rfl dX12_town_28 ?_
        refine lv_if_ne (tgt := 60) hx hb dX12_town_31 (by decide) (fun c31 => ?_) (fun c31 => ?_)
        · have hf := gb_f c31 hf
          exact hk60 _ hf _ _ _ hG hS (lv_sub hl [0, 1] rfl)
        · have hf := gb_t c31 hf
          refine lv_aload_n hx hb dX12_town_34 rfl (lv_at hl 0 rfl) ?_
          obtain ⟨o35, hc35, hf⟩ := gb_b hf
          refine gp_callI (va_runV (As := []) (rest := []) ⟨hx, hb, hml, hown, hts⟩ (c_X12_statement (l := l) (D := D) (b := b) (M := M) (cI := cI) (cL := cL) hc35) (cwV 0 hts gX12_town_X12_statement rfl rfl rfl (by decide +kernel) ⟨Nat.le_of_ble_eq_true rfl, Nat.le_of_ble_eq_true rfl⟩) (gp_preV hKn hG mg_o rfl) rfl rfl hl.1 rfl (lv_room (Nat.le_of_ble_eq_true rfl)) dX12_town_35 ⟨Nat.le_of_ble_eq_true rfl, Nat.le_of_ble_eq_true rfl⟩) hS (fun H locs hG hS => ?_)
          refine lv_istore_n (lv' := [(1, .int o35.1), (0, .ref h0)]) hx hb dX12_town_38 rfl hl (by decide) rfl (fun ls hl => ?_)
          refine lv_aload_n hx hb dX12_town_39 rfl (lv_at hl 1 rfl) ?_
          refine lv_dup hx hb dX12_town_40 rfl ?_
          refine gp_get (v := .int i_statements) (C := RX12) (T := TX12) (N := 33) (ci := 10) hx hb hts hin hown hK hG mg_o rfl 20 (by decide) (hts _ (List.mem_of_getElem? (i := 2) rfl)) (fun _ h9 => h9) rfl dX12_town_41 ?_
          refine lv_iload_n hx hb dX12_town_44 rfl (lv_at hl 0 rfl) ?_
          have hJ45 : ∀ Z : Int32, Z = (if o35.1 = 0 then 0 else 1) → W p l e rm_X12_town s m args below meth c H locs 0 0 Q (F0 m 53 ls (.int Z :: [.int i_statements, .ref h0])) := by
            intro Z hZ
            subst hZ
            refine lv_iadd hx hb dX12_town_53 ?_
            refine gp_put (v := .int (i_statements + (if o35.1 = 0 then 0 else 1))) (tyk := .int) (C := RX12) (T := TX12) (N := 33) (ci := 10) hx hb hts hin tyX12 tyX12_ok nmX12 hown hK hG hS mg_o rfl 20 (by decide) (hts _ (List.mem_of_getElem? (i := 2) rfl)) (fun _ h9 => h9) rfl rfl rfl rfl (Nat.le_of_ble_eq_true rfl) mu_statements dX12_town_54 (fun H locs hG hS => ?_)
            refine lv_goto (tgt := 12) hx hb dX12_town_57 (by decide) ?_
            exact ih _ _ _ _ _ _ hf hk60 _ _ _ hG hS (lv_sub hl [1, 0] rfl)
          refine lv_if_eq (tgt := 52) hx hb dX12_town_45 (by decide) (fun c45 => ?_) (fun c45 => ?_)
          · rw [if_pos c45] at hJ45
            refine lv_iconst (v := 0) hx hb dX12_town_52 (by decide) ?_
            exact hJ45 _ rfl
          · rw [if_neg c45] at hJ45
            refine lv_iconst (v := 1) hx hb dX12_town_48 (by decide) ?_
            refine lv_goto (tgt := 53) hx hb dX12_town_49 (by decide) ?_
            exact hJ45 _ rfl
set_option maxHeartbeats 4000000 in
set_option maxRecDepth 100000 in
theorem w_X12_town_86 {α : Type} {R : α} {K105 : (Int32 × (Nat → Int32) × (Nat → Int32) × (Nat → Int32) × (Nat → Int32) × (Nat → Int32) × (Nat → Int32) × (Nat → Int32) × (Nat → Int32) × (Nat → Int32) × (Nat → Int32) × Int32 × Int32 × Int32 × (Nat → Int32) × (Nat → Int32) × (Nat → Int32) × Int32 × (Nat → Int32)) → Option α} {K128 : ((Nat → Int32) × (Nat → Int32) × (Nat → Int32) × (Nat → Int32) × (Nat → Int32) × (Nat → Int32) × (Nat → Int32) × (Nat → Int32) × (Nat → Int32) × (Nat → Int32) × Int32 × Int32 × Int32 × (Nat → Int32) × (Nat → Int32) × (Nat → Int32) × Int32 × (Nat → Int32)) → Option α} (X : gC p s m args meth c cX12_town 3 (some .int) wsX12_town RX12 D b (gTy cI cL)) : ∀ (n : Nat) (v2 : Int32) (a_isWall : Nat → Int32) (a_kind : Nat → Int32) (a_lampCell : Nat → Int32) (a_range : Nat → Int32) (a_lit : Nat → Int32) (a_scenes : Nat → Int32) (a_who : Nat → Int32) (a_cell : Nat → Int32) (a_minuteOf : Nat → Int32) (a_standsAt : Nat → Int32) (i_lampMany : Int32) (i_people : Int32) (i_minute : Int32) (a_far : Nat → Int32) (a_shut : Nat → Int32) (a_queue : Nat → Int32) (i_queued : Int32) (a_litBy : Nat → Int32), L_X12_town_86 K105 K128 a_letter a_told i_statements n v2 a_isWall a_kind a_lampCell a_range a_lit a_scenes a_who a_cell a_minuteOf a_standsAt i_lampMany i_people i_minute a_far a_shut a_queue i_queued a_litBy = some R → (∀ (x : Int32 × (Nat → Int32) × (Nat → Int32) × (Nat → Int32) × (Nat → Int32) × (Nat → Int32) × (Nat → Int32) × (Nat → Int32) × (Nat → Int32) × (Nat → Int32) × (Nat → Int32) × Int32 × Int32 × Int32 × (Nat → Int32) × (Nat → Int32) × (Nat → Int32) × Int32 × (Nat → Int32)), K105 x = some R → ∀ (H : Heap) (locs : List Loc) (ls : Array Slot), GP D b M (mg cI h0 a_refused x.2.1 x.2.2.1 x.2.2.2.1 x.2.2.2.2.1 x.2.2.2.2.2.1 x.2.2.2.2.2.2.1 x.2.2.2.2.2.2.2.1 x.2.2.2.2.2.2.2.2.1 x.2.2.2.2.2.2.2.2.2.1 x.2.2.2.2.2.2.2.2.2.2.1 x.2.2.2.2.2.2.2.2.2.2.2.1 x.2.2.2.2.2.2.2.2.2.2.2.2.1 x.2.2.2.2.2.2.2.2.2.2.2.2.2.1 a_tape a_letter a_letterAt a_told i_taped i_at i_statements a_kept i_hasImage i_isKeeping i_cursor x.2.2.2.2.2.2.2.2.2.2.2.2.2.2.1 x.2.2.2.2.2.2.2.2.2.2.2.2.2.2.2.1 x.2.2.2.2.2.2.2.2.2.2.2.2.2.2.2.2.1 x.2.2.2.2.2.2.2.2.2.2.2.2.2.2.2.2.2.1 x.2.2.2.2.2.2.2.2.2.2.2.2.2.2.2.2.2.2 a_may a_row i_rowMany g0) H → va_S (gA b) s.heap H locs → lv_has ls 3 [(0, .ref h0), (2, .int x.1)] → W p l e rm_X12_town s m args below meth c H locs 0 0 Q (F0 m 105 ls [])) → (∀ (x : (Nat → Int32) × (Nat → Int32) × (Nat → Int32) × (Nat → Int32) × (Nat → Int32) × (Nat → Int32) × (Nat → Int32) × (Nat → Int32) × (Nat → Int32) × (Nat → Int32) × Int32 × Int32 × Int32 × (Nat → Int32) × (Nat → Int32) × (Nat → Int32) × Int32 × (Nat → Int32)), K128 x = some R → ∀ (H : Heap) (locs : List Loc) (ls : Array Slot), GP D b M (mg cI h0 a_refused x.1 x.2.1 x.2.2.1 x.2.2.2.1 x.2.2.2.2.1 x.2.2.2.2.2.1 x.2.2.2.2.2.2.1 x.2.2.2.2.2.2.2.1 x.2.2.2.2.2.2.2.2.1 x.2.2.2.2.2.2.2.2.2.1 x.2.2.2.2.2.2.2.2.2.2.1 x.2.2.2.2.2.2.2.2.2.2.2.1 x.2.2.2.2.2.2.2.2.2.2.2.2.1 a_tape a_letter a_letterAt a_told i_taped i_at i_statements a_kept i_hasImage i_isKeeping i_cursor x.2.2.2.2.2.2.2.2.2.2.2.2.2.1 x.2.2.2.2.2.2.2.2.2.2.2.2.2.2.1 x.2.2.2.2.2.2.2.2.2.2.2.2.2.2.2.1 x.2.2.2.2.2.2.2.2.2.2.2.2.2.2.2.2.1 x.2.2.2.2.2.2.2.2.2.2.2.2.2.2.2.2.2 a_may a_row i_rowMany g0) H → va_S (gA b) s.heap H locs → lv_has ls 3 [(0, .ref h0)] → W p l e rm_X12_town s m args below meth c H locs 0 0 Q (F0 m 128 ls [])) → ∀ (H : Heap) (locs : List Loc) (ls : Array Slot), GP D b M (mg cI h0 a_refused a_isWall a_kind a_lampCell a_range a_lit a_scenes a_who a_cell a_minuteOf a_standsAt i_lampMany i_people i_minute a_tape a_letter a_letterAt a_told i_taped i_at i_statements a_kept i_hasImage i_isKeeping i_cursor a_far a_shut a_queue i_queued a_litBy a_may a_row i_rowMany g0) H → va_S (gA b) s.heap H locs → lv_has ls 3 [(0, .ref h0), (2, .int v2)] → W p l e rm_X12_town s m args below meth c H locs 0 0 Q (F0 m 86 ls []) := by
  obtain ⟨hx, hb, hr, hml, hown, hts, hlocks, hKn, hBs⟩ := id X
  have hK := hKn.1
  have hin : ∀ w ∈ wsX120, w ∈ wsX12_town := fun w h => List.mem_cons_of_mem _ (List.mem_append_right _ h)
  intro n
  induction n with
  | zero =>
    intro v2 a_isWall a_kind a_lampCell a_range a_lit a_scenes a_who a_cell a_minuteOf a_standsAt i_lampMany i_people i_minute a_far a_shut a_queue i_queued a_litBy hf
    cases hf
  | succ n ih =>
    intro v2 a_isWall a_kind a_lampCell a_range a_lit a_scenes a_who a_cell a_minuteOf a_standsAt i_lampMany i_people i_minute a_far a_shut a_queue i_queued a_litBy hf hk105 hk128 H locs ls hG hS hl
    rw [L_X12_town_86.eq_2] at hf
    refine lv_iload_n hx hb dX12_town_86 rfl (lv_at hl 1 rfl) ?_
    refine lv_aload_n hx hb dX12_town_87 rfl (lv_at hl 0 rfl) ?_
    refine gp_get (v := .int i_statements) (C := RX12) (T := TX12) (N := 33) (ci := 10) hx hb hts hin hown hK hG mg_o rfl 20 (by decide) (hts _ (List.mem_of_getElem? (i := 2) rfl)) (fun _ h9 => h9) rfl dX12_town_88 ?_
    refine lv_icmp_ge (tgt := 128) hx hb dX12_town_91 (by decide) (fun c91 => ?_) (fun c91 => ?_)
    · have hf := gb_t c91 hf
      exact hk128 _ hf _ _ _ hG hS (lv_sub hl [0] rfl)
    · have hf := gb_f c91 hf
      refine lv_aload_n hx hb dX12_town_94 rfl (lv_at hl 0 rfl) ?_
      refine lv_iload_n hx hb dX12_town_95 rfl (lv_at hl 1 rfl) ?_
      obtain ⟨o96, hc96, hf⟩ := gb_b hf
      refine gp_callI (va_runV (As := [.int v2]) (rest := []) ⟨hx, hb, hml, hown, hts⟩ (c_X12_comes (l := l) (D := D) (b := b) (M := M) (cI := cI) (cL := cL) hc96) (cwV 1 hts gX12_town_X12_comes rfl rfl rfl (by decide +kernel) ⟨Nat.le_of_ble_eq_true rfl, Nat.le_of_ble_eq_true rfl⟩) (gp_preV hKn hG mg_o rfl) rfl rfl hl.1 rfl (lv_room (Nat.le_of_ble_eq_true rfl)) dX12_town_96 ⟨Nat.le_of_ble_eq_true rfl, Nat.le_of_ble_eq_true rfl⟩) hS (fun H locs hG hS => ?_)
      refine lv_if_eq (tgt := 105) hx hb dX12_town_99 (by decide) (fun c99 => ?_) (fun c99 => ?_)
      · have hf := gb_t c99 hf
        exact hk105 _ hf _ _ _ hG hS (lv_sub hl [0, 1] rfl)
      · have hf := gb_f c99 hf
        refine lv_goto (tgt := 122) hx hb dX12_town_102 (by decide) ?_
        refine lv_iinc (v := v2 + 1) (lv' := [(2, .int (v2 + 1)), (0, .ref h0)]) hx hb dX12_town_122 hl (k := 1) rfl rfl (by decide) rfl (fun ls hl => ?_)
        refine lv_goto (tgt := 86) hx hb dX12_town_125 (by decide) ?_
        exact ih _ _ _ _ _ _ _ _ _ _ _ _ _ _ _ _ _ _ _ hf hk105 hk128 _ _ _ hG hS (lv_sub hl [1, 0] rfl)
set_option maxHeartbeats 4000000 in
set_option maxRecDepth 100000 in
theorem c_X12_town {R : Int32 × (Nat → Int32) × (Nat → Int32) × (Nat → Int32) × (Nat → Int32) × (Nat → Int32) × (Nat → Int32) × (Nat → Int32) × (Nat → Int32) × (Nat → Int32) × (Nat → Int32) × Int32 × Int32 × Int32 × (Nat → Int32) × (Nat → Int32) × (Nat → Int32) × Int32 × Int32 × Int32 × (Nat → Int32) × Int32 × Int32 × (Nat → Int32) × (Nat → Int32) × (Nat → Int32) × Int32 × (Nat → Int32)} (hf : f_X12_town a_isWall a_kind a_lampCell a_range a_lit a_scenes a_who a_cell a_minuteOf a_standsAt i_lampMany i_people i_minute a_tape a_letter a_letterAt a_told i_taped i_at i_statements a_kept i_isKeeping i_cursor a_far a_shut a_queue i_queued a_litBy = some R) : Met l yX12_town wsX12_town rm_X12_town (va_Pc [.ref h0] (gPre D b M (mg cI h0 a_refused a_isWall a_kind a_lampCell a_range a_lit a_scenes a_who a_cell a_minuteOf a_standsAt i_lampMany i_people i_minute a_tape a_letter a_letterAt a_told i_taped i_at i_statements a_kept i_hasImage i_isKeeping i_cursor a_far a_shut a_queue i_queued a_litBy a_may a_row i_rowMany g0) (gTy cI cL))) (gQ D b (some (.int R.1)) M (mg cI h0 a_refused R.2.1 R.2.2.1 R.2.2.2.1 R.2.2.2.2.1 R.2.2.2.2.2.1 R.2.2.2.2.2.2.1 R.2.2.2.2.2.2.2.1 R.2.2.2.2.2.2.2.2.1 R.2.2.2.2.2.2.2.2.2.1 R.2.2.2.2.2.2.2.2.2.2.1 R.2.2.2.2.2.2.2.2.2.2.2.1 R.2.2.2.2.2.2.2.2.2.2.2.2.1 R.2.2.2.2.2.2.2.2.2.2.2.2.2.1 a_tape R.2.2.2.2.2.2.2.2.2.2.2.2.2.2.1 R.2.2.2.2.2.2.2.2.2.2.2.2.2.2.2.1 R.2.2.2.2.2.2.2.2.2.2.2.2.2.2.2.2.1 R.2.2.2.2.2.2.2.2.2.2.2.2.2.2.2.2.2.1 R.2.2.2.2.2.2.2.2.2.2.2.2.2.2.2.2.2.2.1 R.2.2.2.2.2.2.2.2.2.2.2.2.2.2.2.2.2.2.2.1 R.2.2.2.2.2.2.2.2.2.2.2.2.2.2.2.2.2.2.2.2.1 i_hasImage R.2.2.2.2.2.2.2.2.2.2.2.2.2.2.2.2.2.2.2.2.2.1 R.2.2.2.2.2.2.2.2.2.2.2.2.2.2.2.2.2.2.2.2.2.2.1 R.2.2.2.2.2.2.2.2.2.2.2.2.2.2.2.2.2.2.2.2.2.2.2.1 R.2.2.2.2.2.2.2.2.2.2.2.2.2.2.2.2.2.2.2.2.2.2.2.2.1 R.2.2.2.2.2.2.2.2.2.2.2.2.2.2.2.2.2.2.2.2.2.2.2.2.2.1 R.2.2.2.2.2.2.2.2.2.2.2.2.2.2.2.2.2.2.2.2.2.2.2.2.2.2.1 R.2.2.2.2.2.2.2.2.2.2.2.2.2.2.2.2.2.2.2.2.2.2.2.2.2.2.2 a_may a_row i_rowMany g0)) 0 0 (gA b) := by
  refine gp_met (cc := cX12_town) (maxL := 3) (ret := (some .int)) (by decide) rfl (Nat.le_of_ble_eq_true rfl) ?_
  intro p e s m below meth c X ls hG hl
  have hS : va_S (gA b) s.heap s.heap [] := va_S.rf
  obtain ⟨H, hH0⟩ : ∃ H : Heap, H = s.heap := ⟨_, rfl⟩
  rw [← hH0] at hG ⊢
  have hS : va_S (gA b) s.heap H [] := by rw [hH0]; exact va_S.rf
  obtain ⟨locs, hlo⟩ : ∃ z : List Loc, z = [] := ⟨_, rfl⟩
  rw [← hlo] at hS ⊢
  unfold f_X12_town at hf
  obtain ⟨hx, hb, hr, hml, hown, hts, hlocks, hKn, hBs⟩ := id X
  have hK := hKn.1
  have hin : ∀ w ∈ wsX120, w ∈ wsX12_town := fun w h => List.mem_cons_of_mem _ (List.mem_append_right _ h)
  have hl : lv_has ls 3 [(0, .ref h0)] := hl
  refine lv_aload_n hx hb dX12_town_0 rfl (lv_at hl 0 rfl) ?_
  refine lv_iconst (v := 0) hx hb dX12_town_1 (by decide) ?_
  refine gp_put (v := .int 0) (tyk := .int) (C := RX12) (T := TX12) (N := 33) (ci := 10) hx hb hts hin tyX12 tyX12_ok nmX12 hown hK hG hS mg_o rfl 19 (by decide) (hts _ (List.mem_of_getElem? (i := 1) rfl)) (fun _ h9 => h9) rfl rfl rfl rfl (Nat.le_of_ble_eq_true rfl) mu_at dX12_town_2 (fun H locs hG hS => ?_)
  refine lv_aload_n hx hb dX12_town_5 rfl (lv_at hl 0 rfl) ?_
  refine lv_iconst (v := 0) hx hb dX12_town_6 (by decide) ?_
  refine gp_put (v := .int 0) (tyk := .int) (C := RX12) (T := TX12) (N := 33) (ci := 10) hx hb hts hin tyX12 tyX12_ok nmX12 hown hK hG hS mg_o rfl 20 (by decide) (hts _ (List.mem_of_getElem? (i := 2) rfl)) (fun _ h9 => h9) rfl rfl rfl rfl (Nat.le_of_ble_eq_true rfl) mu_statements dX12_town_7 (fun H locs hG hS => ?_)
  refine lv_iconst (v := 1) hx hb dX12_town_10 (by decide) ?_
  refine lv_istore_n (lv' := [(1, .int 1), (0, .ref h0)]) hx hb dX12_town_11 rfl hl (by decide) rfl (fun ls hl => ?_)
  refine w_X12_town_12 X _ _ _ _ _ _ _ hf (fun x12_60 hf H locs ls hG hS hl => ?_) _ _ _ hG hS (lv_sub hl [1, 0] rfl)
  · refine lv_aload_n hx hb dX12_town_60 rfl (lv_at hl 0 rfl) ?_
    refine lv_iconst (v := 0) hx hb dX12_town_61 (by decide) ?_
    refine gp_put (v := .int 0) (tyk := .int) (C := RX12) (T := TX12) (N := 33) (ci := 10) hx hb hts hin tyX12 tyX12_ok nmX12 hown hK hG hS mg_o rfl 18 (by decide) (hts _ (List.mem_of_getElem? (i := 3) rfl)) (fun _ h9 => h9) rfl rfl rfl rfl (Nat.le_of_ble_eq_true rfl) mu_taped dX12_town_62 (fun H locs hG hS => ?_)
    refine lv_iload_n hx hb dX12_town_65 rfl (lv_at hl 1 rfl) ?_
    refine lv_if_ne (tgt := 78) hx hb dX12_town_66 (by decide) (fun c66 => ?_) (fun c66 => ?_)
    · have hf := gb_f c66 hf
      refine lv_aload_n hx hb dX12_town_78 rfl (lv_at hl 0 rfl) ?_
      refine lv_iconst (v := 1) hx hb dX12_town_79 (by decide) ?_
      refine lv_iconst (v := 1) hx hb dX12_town_80 (by decide) ?_
      obtain ⟨o81, hc81, hf⟩ := gb_b hf
      refine gp_callV (va_runV (As := [.int 1, .int 1]) (rest := []) ⟨hx, hb, hml, hown, hts⟩ (c_X12_passesAll (l := l) (D := D) (b := b) (M := M) (cI := cI) (cL := cL) hc81) (cwV 2 hts gX12_town_X12_passesAll rfl rfl rfl (by decide +kernel) ⟨Nat.le_of_ble_eq_true rfl, Nat.le_of_ble_eq_true rfl⟩) (gp_preV hKn hG mg_o rfl) rfl rfl hl.1 rfl (lv_room (Nat.le_of_ble_eq_true rfl)) dX12_town_81 ⟨Nat.le_of_ble_eq_true rfl, Nat.le_of_ble_eq_true rfl⟩) hS (fun H locs hG hS => ?_)
      refine lv_iconst (v := 0) hx hb dX12_town_84 (by decide) ?_
      refine lv_istore_n (lv' := [(2, .int 0), (0, .ref h0), (1, .int x12_60.1)]) hx hb dX12_town_85 rfl hl (by decide) rfl (fun ls hl => ?_)
      refine w_X12_town_86 X _ _ _ _ _ _ _ _ _ _ _ _ _ _ _ _ _ _ _ _ hf (fun x86_105 hf H locs ls hG hS hl => ?_) (fun x86_128 hf H locs ls hG hS hl => ?_) _ _ _ hG hS (lv_sub hl [1, 0] rfl)
      · refine lv_aload_n hx hb dX12_town_105 rfl (lv_at hl 0 rfl) ?_
        refine lv_iconst (v := 1) hx hb dX12_town_106 (by decide) ?_
        refine lv_iconst (v := 0) hx hb dX12_town_107 (by decide) ?_
        obtain ⟨o108, hc108, hf⟩ := gb_b hf
        refine gp_callV (va_runV (As := [.int 1, .int 0]) (rest := []) ⟨hx, hb, hml, hown, hts⟩ (c_X12_passesAll (l := l) (D := D) (b := b) (M := M) (cI := cI) (cL := cL) hc108) (cwV 2 hts gX12_town_X12_passesAll rfl rfl rfl (by decide +kernel) ⟨Nat.le_of_ble_eq_true rfl, Nat.le_of_ble_eq_true rfl⟩) (gp_preV hKn hG mg_o rfl) rfl rfl hl.1 rfl (lv_room (Nat.le_of_ble_eq_true rfl)) dX12_town_108 ⟨Nat.le_of_ble_eq_true rfl, Nat.le_of_ble_eq_true rfl⟩) hS (fun H locs hG hS => ?_)
        refine lv_sipush (v := (-2000 : Int32)) hx hb dX12_town_111 (by decide) ?_
        refine lv_aload_n hx hb dX12_town_114 rfl (lv_at hl 0 rfl) ?_
        refine gp_get (v := .ref (h0 + 14)) (C := RX12) (T := TX12) (N := 33) (ci := 10) hx hb hts hin hown hK hG mg_o rfl 16 (by decide) (hts _ (List.mem_of_getElem? (i := 4) rfl)) (fun _ h9 => h9) rfl dX12_town_115 ?_
        refine lv_iload_n hx hb dX12_town_118 rfl (lv_at hl 1 rfl) ?_
        obtain ⟨b119, hf⟩ := gb_ix hf
        refine gp_iald hx hb hK hG mg_letterAt b119 dX12_town_119 ?_
        refine lv_isub hx hb dX12_town_120 ?_
        have hf := Option.some.inj hf
        subst hf
        exact gp_retI hx hb hr hlocks hG hS (Nat.le_refl _) (Nat.le_refl _) dX12_town_121
      · refine lv_aload_n hx hb dX12_town_128 rfl (lv_at hl 0 rfl) ?_
        refine gp_get (v := .int x12_60.2.2.2.2.2) (C := RX12) (T := TX12) (N := 33) (ci := 10) hx hb hts hin hown hK hG mg_o rfl 20 (by decide) (hts _ (List.mem_of_getElem? (i := 2) rfl)) (fun _ h9 => h9) rfl dX12_town_129 ?_
        have hf := Option.some.inj hf
        subst hf
        exact gp_retI hx hb hr hlocks hG hS (Nat.le_refl _) (Nat.le_refl _) dX12_town_132
    · have hf := gb_t c66 hf
      refine lv_sipush (v := (-1000 : Int32)) hx hb dX12_town_69 (by decide) ?_
      refine lv_aload_n hx hb dX12_town_72 rfl (lv_at hl 0 rfl) ?_
      refine gp_get (v := .int x12_60.2.2.2.2.1) (C := RX12) (T := TX12) (N := 33) (ci := 10) hx hb hts hin hown hK hG mg_o rfl 19 (by decide) (hts _ (List.mem_of_getElem? (i := 1) rfl)) (fun _ h9 => h9) rfl dX12_town_73 ?_
      refine lv_isub hx hb dX12_town_76 ?_
      have hf := Option.some.inj hf
      subst hf
      exact gp_retI hx hb hr hlocks hG hS (Nat.le_refl _) (Nat.le_refl _) dX12_town_77
end
