section
variable {p : Program} {l : Launch} {e : Env} {s : State} {m : MethodId} {args : Array Value} {below : List Frame} {meth : Method} {c : Code} {D : va_G} {b : GB} {M : Nat} {cI cL : ClassId} {h0 : Nat} {g0 gh : Nat → va_E} {Q : State → Prop}
variable {a_refused : Nat → Int32} {a_isWall : Nat → Int32} {a_kind : Nat → Int32} {a_lampCell : Nat → Int32} {a_range : Nat → Int32} {a_lit : Nat → Int32} {a_scenes : Nat → Int32} {a_who : Nat → Int32} {a_cell : Nat → Int32} {a_minuteOf : Nat → Int32} {a_standsAt : Nat → Int32} {i_lampMany : Int32} {i_people : Int32} {i_minute : Int32} {a_tape : Nat → Int32} {a_letter : Nat → Int32} {a_letterAt : Nat → Int32} {a_told : Nat → Int32} {i_taped : Int32} {i_at : Int32} {i_statements : Int32} {a_kept : Nat → Int32} {i_hasImage : Int32} {i_isKeeping : Int32} {i_cursor : Int32} {a_far : Nat → Int32} {a_shut : Nat → Int32} {a_queue : Nat → Int32} {i_queued : Int32} {a_litBy : Nat → Int32} {a_may : Nat → Int32} {a_row : Nat → Int32} {i_rowMany : Int32}
-- X12_no
abbrev rm_X12_no : Room := { frames := 0, cells := 0, slots := 0, locals := 0 }
set_option maxHeartbeats 4000000 in
set_option maxRecDepth 100000 in
theorem c_X12_no {v1 : Int32} {R : Int32 × (Nat → Int32)} (hf : f_X12_no a_refused v1 = some R) : Met l yX12_no wsX12_no rm_X12_no (va_Pc [.ref h0, .int v1] (gPre D b M (mg cI h0 a_refused a_isWall a_kind a_lampCell a_range a_lit a_scenes a_who a_cell a_minuteOf a_standsAt i_lampMany i_people i_minute a_tape a_letter a_letterAt a_told i_taped i_at i_statements a_kept i_hasImage i_isKeeping i_cursor a_far a_shut a_queue i_queued a_litBy a_may a_row i_rowMany g0) (gTy cI cL))) (gQ D b (some (.int R.1)) M (mg cI h0 R.2 a_isWall a_kind a_lampCell a_range a_lit a_scenes a_who a_cell a_minuteOf a_standsAt i_lampMany i_people i_minute a_tape a_letter a_letterAt a_told i_taped i_at i_statements a_kept i_hasImage i_isKeeping i_cursor a_far a_shut a_queue i_queued a_litBy a_may a_row i_rowMany g0)) 0 0 (gA b) := by
  refine gp_met (cc := cX12_no) (maxL := 2) (ret := (some .int)) (by decide) rfl (Nat.le_of_ble_eq_true rfl) ?_
  intro p e s m below meth c X ls hG hl
  have hS : va_S (gA b) s.heap s.heap [] := va_S.rf
  obtain ⟨H, hH0⟩ : ∃ H : Heap, H = s.heap := ⟨_, rfl⟩
  rw [← hH0] at hG ⊢
  have hS : va_S (gA b) s.heap H [] := by rw [hH0]; exact va_S.rf
  obtain ⟨locs, hlo⟩ : ∃ z : List Loc, z = [] := ⟨_, rfl⟩
  rw [← hlo] at hS ⊢
  unfold f_X12_no at hf
  obtain ⟨hx, hb, hr, hml, hown, hts, hlocks, hKn, hBs⟩ := id X
  have hK := hKn.1
  have hin : ∀ w ∈ wsX120, w ∈ wsX12_no := fun w h => List.mem_cons_of_mem _ (List.mem_append_right _ h)
  have hl : lv_has ls 2 [(0, .ref h0), (1, .int v1)] := hl
  refine lv_aload_n hx hb dX12_no_0 rfl (lv_at hl 0 rfl) ?_
  refine gp_get (v := .ref (h0 + 1)) (C := RX12) (T := TX12) (N := 33) (ci := 10) hx hb hts hin hown hK hG mg_o rfl 0 (by decide) (hts _ (List.mem_of_getElem? (i := 1) rfl)) (fun _ h9 => h9) rfl dX12_no_1 ?_
  refine lv_iload_n hx hb dX12_no_4 rfl (lv_at hl 1 rfl) ?_
  refine lv_ineg hx hb dX12_no_5 ?_
  refine lv_dup2_11 hx hb dX12_no_6 rfl rfl ?_
  obtain ⟨b7, hf⟩ := gb_ix hf
  refine gp_iald hx hb hK hG mg_refused b7 dX12_no_7 ?_
  refine lv_iconst (v := 1) hx hb dX12_no_8 (by decide) ?_
  refine lv_iadd hx hb dX12_no_9 ?_
  obtain ⟨b10, hf⟩ := gb_ix hf
  refine gp_iast hx hb hK hG hS mg_refused b10 mu_refused dX12_no_10 (fun H locs hG hS => ?_)
  refine lv_iload_n hx hb dX12_no_11 rfl (lv_at hl 1 rfl) ?_
  have hf := Option.some.inj hf
  subst hf
  exact gp_retI hx hb hr hlocks hG hS (Nat.le_refl _) (Nat.le_refl _) dX12_no_12
-- X12_lower
abbrev rm_X12_lower : Room := { frames := 0, cells := 0, slots := 0, locals := 0 }
set_option maxHeartbeats 4000000 in
set_option maxRecDepth 100000 in
theorem c_X12_lower {v1 : Int32} {R : Int32 × (Nat → Int32)} (hf : f_X12_lower a_refused v1 = some R) : Met l yX12_lower wsX12_lower rm_X12_lower (va_Pc [.ref h0, .int v1] (gPre D b M (mg cI h0 a_refused a_isWall a_kind a_lampCell a_range a_lit a_scenes a_who a_cell a_minuteOf a_standsAt i_lampMany i_people i_minute a_tape a_letter a_letterAt a_told i_taped i_at i_statements a_kept i_hasImage i_isKeeping i_cursor a_far a_shut a_queue i_queued a_litBy a_may a_row i_rowMany g0) (gTy cI cL))) (gQ D b (some (.int R.1)) M (mg cI h0 R.2 a_isWall a_kind a_lampCell a_range a_lit a_scenes a_who a_cell a_minuteOf a_standsAt i_lampMany i_people i_minute a_tape a_letter a_letterAt a_told i_taped i_at i_statements a_kept i_hasImage i_isKeeping i_cursor a_far a_shut a_queue i_queued a_litBy a_may a_row i_rowMany g0)) 0 0 (gA b) := by
  refine gp_met (cc := cX12_lower) (maxL := 2) (ret := (some .int)) (by decide) rfl (Nat.le_of_ble_eq_true rfl) ?_
  intro p e s m below meth c X ls hG hl
  have hS : va_S (gA b) s.heap s.heap [] := va_S.rf
  obtain ⟨H, hH0⟩ : ∃ H : Heap, H = s.heap := ⟨_, rfl⟩
  rw [← hH0] at hG ⊢
  have hS : va_S (gA b) s.heap H [] := by rw [hH0]; exact va_S.rf
  obtain ⟨locs, hlo⟩ : ∃ z : List Loc, z = [] := ⟨_, rfl⟩
  rw [← hlo] at hS ⊢
  unfold f_X12_lower at hf
  obtain ⟨hx, hb, hr, hml, hown, hts, hlocks, hKn, hBs⟩ := id X
  have hK := hKn.1
  have hin : ∀ w ∈ wsX120, w ∈ wsX12_lower := fun w h => List.mem_cons_of_mem _ (List.mem_append_right _ h)
  have hl : lv_has ls 2 [(0, .ref h0), (1, .int v1)] := hl
  refine lv_aload_n hx hb dX12_lower_0 rfl (lv_at hl 0 rfl) ?_
  refine gp_get (v := .ref (h0 + 1)) (C := RX12) (T := TX12) (N := 33) (ci := 10) hx hb hts hin hown hK hG mg_o rfl 0 (by decide) (hts _ (List.mem_of_getElem? (i := 1) rfl)) (fun _ h9 => h9) rfl dX12_lower_1 ?_
  refine lv_iload_n hx hb dX12_lower_4 rfl (lv_at hl 1 rfl) ?_
  refine lv_ineg hx hb dX12_lower_5 ?_
  refine lv_dup2_11 hx hb dX12_lower_6 rfl rfl ?_
  obtain ⟨b7, hf⟩ := gb_ix hf
  refine gp_iald hx hb hK hG mg_refused b7 dX12_lower_7 ?_
  refine lv_iconst (v := 1) hx hb dX12_lower_8 (by decide) ?_
  refine lv_iadd hx hb dX12_lower_9 ?_
  obtain ⟨b10, hf⟩ := gb_ix hf
  refine gp_iast hx hb hK hG hS mg_refused b10 mu_refused dX12_lower_10 (fun H locs hG hS => ?_)
  refine lv_ldc (v := 1000000000) hx hb hown (hts _ (List.mem_of_getElem? (i := 2) rfl)) dX12_lower_11 ?_
  refine lv_iload_n hx hb dX12_lower_13 rfl (lv_at hl 1 rfl) ?_
  refine lv_isub hx hb dX12_lower_14 ?_
  have hf := Option.some.inj hf
  subst hf
  exact gp_retI hx hb hr hlocks hG hS (Nat.le_refl _) (Nat.le_refl _) dX12_lower_15
-- X12_isIn
abbrev rm_X12_isIn : Room := { frames := 0, cells := 0, slots := 0, locals := 0 }
set_option maxHeartbeats 4000000 in
set_option maxRecDepth 100000 in
theorem c_X12_isIn {v0 : Int32} {v1 : Int32} {v2 : Int32} {R : Int32} (hf : f_X12_isIn v0 v1 v2 = some R) : Met l yX12_isIn wsX12_isIn rm_X12_isIn (va_Pc [.int v0, .int v1, .int v2] (gPre D b M (gh) (gTy cI cL))) (gQ D b (some (.int R)) M (gh)) 0 0 (gA b) := by
  refine gp_met (cc := cX12_isIn) (maxL := 3) (ret := (some .boolean)) (by decide) rfl (Nat.le_of_ble_eq_true rfl) ?_
  intro p e s m below meth c X ls hG hl
  have hS : va_S (gA b) s.heap s.heap [] := va_S.rf
  obtain ⟨H, hH0⟩ : ∃ H : Heap, H = s.heap := ⟨_, rfl⟩
  rw [← hH0] at hG ⊢
  have hS : va_S (gA b) s.heap H [] := by rw [hH0]; exact va_S.rf
  obtain ⟨locs, hlo⟩ : ∃ z : List Loc, z = [] := ⟨_, rfl⟩
  rw [← hlo] at hS ⊢
  unfold f_X12_isIn at hf
  obtain ⟨hx, hb, hr, hml, hown, hts, hlocks, hKn, hBs⟩ := id X
  have hK := hKn.1
  skip
  have hl : lv_has ls 3 [(0, .int v0), (1, .int v1), (2, .int v2)] := hl
  refine lv_iload_n hx hb dX12_isIn_0 rfl (lv_at hl 0 rfl) ?_
  refine lv_iload_n hx hb dX12_isIn_1 rfl (lv_at hl 1 rfl) ?_
  have hJ2 : ∀ Z : Int32, Z = (if v0 < v1 then 0 else if v2 < v0 then 0 else 1) → W p l e rm_X12_isIn s m [.int v0, .int v1, .int v2].toArray below meth c H locs 0 0 (MQ below (gQ D b (some (.int R)) M (gh)) [.int v0, .int v1, .int v2].toArray s 0 0 (gA b)) (F0 m 15 ls (.int Z :: [])) := by
    intro Z hZ
    subst hZ
    obtain ⟨z15, hf⟩ := gb_zb hf
    have hf := Option.some.inj hf
    subst hf
    exact gp_retZ hx hb hr z15 hlocks hG hS (Nat.le_refl _) (Nat.le_refl _) dX12_isIn_15
  refine lv_icmp_lt (tgt := 14) hx hb dX12_isIn_2 (by decide) (fun c2 => ?_) (fun c2 => ?_)
  · rw [if_pos c2] at hJ2
    refine lv_iconst (v := 0) hx hb dX12_isIn_14 (by decide) ?_
    exact hJ2 _ rfl
  · rw [if_neg c2] at hJ2
    refine lv_iload_n hx hb dX12_isIn_5 rfl (lv_at hl 0 rfl) ?_
    refine lv_iload_n hx hb dX12_isIn_6 rfl (lv_at hl 2 rfl) ?_
    refine lv_icmp_gt (tgt := 14) hx hb dX12_isIn_7 (by decide) (fun c7 => ?_) (fun c7 => ?_)
    · rw [if_pos c7] at hJ2
      refine lv_iconst (v := 0) hx hb dX12_isIn_14 (by decide) ?_
      exact hJ2 _ rfl
    · rw [if_neg c7] at hJ2
      refine lv_iconst (v := 1) hx hb dX12_isIn_10 (by decide) ?_
      refine lv_goto (tgt := 15) hx hb dX12_isIn_11 (by decide) ?_
      exact hJ2 _ rfl
-- X12_bound
abbrev rm_X12_bound : Room := { frames := 0, cells := 0, slots := 0, locals := 0 }
set_option maxHeartbeats 4000000 in
set_option maxRecDepth 100000 in
theorem c_X12_bound {v0 : Int32} {v1 : Int32} {v2 : Int32} {R : Int32} (hf : f_X12_bound v0 v1 v2 = some R) : Met l yX12_bound wsX12_bound rm_X12_bound (va_Pc [.int v0, .int v1, .int v2] (gPre D b M (gh) (gTy cI cL))) (gQ D b (some (.int R)) M (gh)) 0 0 (gA b) := by
  refine gp_met (cc := cX12_bound) (maxL := 3) (ret := (some .int)) (by decide) rfl (Nat.le_of_ble_eq_true rfl) ?_
  intro p e s m below meth c X ls hG hl
  have hS : va_S (gA b) s.heap s.heap [] := va_S.rf
  obtain ⟨H, hH0⟩ : ∃ H : Heap, H = s.heap := ⟨_, rfl⟩
  rw [← hH0] at hG ⊢
  have hS : va_S (gA b) s.heap H [] := by rw [hH0]; exact va_S.rf
  obtain ⟨locs, hlo⟩ : ∃ z : List Loc, z = [] := ⟨_, rfl⟩
  rw [← hlo] at hS ⊢
  unfold f_X12_bound at hf
  obtain ⟨hx, hb, hr, hml, hown, hts, hlocks, hKn, hBs⟩ := id X
  have hK := hKn.1
  skip
  have hl : lv_has ls 3 [(0, .int v0), (1, .int v1), (2, .int v2)] := hl
  refine lv_iload_n hx hb dX12_bound_0 rfl (lv_at hl 0 rfl) ?_
  refine lv_iload_n hx hb dX12_bound_1 rfl (lv_at hl 1 rfl) ?_
  have hJ2 : ∀ Z : Int32, Z = (if v1 ≤ v0 then if v0 ≤ v2 then 0 else (-6 : Int32) else (-4 : Int32)) → W p l e rm_X12_bound s m [.int v0, .int v1, .int v2].toArray below meth c H locs 0 0 (MQ below (gQ D b (some (.int R)) M (gh)) [.int v0, .int v1, .int v2].toArray s 0 0 (gA b)) (F0 m 21 ls (.int Z :: [])) := by
    intro Z hZ
    subst hZ
    have hf := Option.some.inj hf
    subst hf
    exact gp_retI hx hb hr hlocks hG hS (Nat.le_refl _) (Nat.le_refl _) dX12_bound_21
  refine lv_icmp_ge (tgt := 10) hx hb dX12_bound_2 (by decide) (fun c2 => ?_) (fun c2 => ?_)
  · rw [if_pos c2] at hJ2
    refine lv_iload_n hx hb dX12_bound_10 rfl (lv_at hl 0 rfl) ?_
    refine lv_iload_n hx hb dX12_bound_11 rfl (lv_at hl 2 rfl) ?_
    refine lv_icmp_le (tgt := 20) hx hb dX12_bound_12 (by decide) (fun c12 => ?_) (fun c12 => ?_)
    · rw [if_pos c12] at hJ2
      refine lv_iconst (v := 0) hx hb dX12_bound_20 (by decide) ?_
      exact hJ2 _ rfl
    · rw [if_neg c12] at hJ2
      refine lv_bipush (v := (-6 : Int32)) hx hb dX12_bound_15 (by decide) ?_
      refine lv_goto (tgt := 21) hx hb dX12_bound_17 (by decide) ?_
      exact hJ2 _ rfl
  · rw [if_neg c2] at hJ2
    refine lv_bipush (v := (-4 : Int32)) hx hb dX12_bound_5 (by decide) ?_
    refine lv_goto (tgt := 21) hx hb dX12_bound_7 (by decide) ?_
    exact hJ2 _ rfl
-- X12_has
abbrev rm_X12_has : Room := { frames := 0, cells := 0, slots := 0, locals := 0 }
set_option maxHeartbeats 4000000 in
set_option maxRecDepth 100000 in
theorem c_X12_has {v0 : Int32} {v1 : Int32} {R : Int32} (hf : f_X12_has v0 v1 = some R) : Met l yX12_has wsX12_has rm_X12_has (va_Pc [.int v0, .int v1] (gPre D b M (gh) (gTy cI cL))) (gQ D b (some (.int R)) M (gh)) 0 0 (gA b) := by
  refine gp_met (cc := cX12_has) (maxL := 2) (ret := (some .boolean)) (by decide) rfl (Nat.le_of_ble_eq_true rfl) ?_
  intro p e s m below meth c X ls hG hl
  have hS : va_S (gA b) s.heap s.heap [] := va_S.rf
  obtain ⟨H, hH0⟩ : ∃ H : Heap, H = s.heap := ⟨_, rfl⟩
  rw [← hH0] at hG ⊢
  have hS : va_S (gA b) s.heap H [] := by rw [hH0]; exact va_S.rf
  obtain ⟨locs, hlo⟩ : ∃ z : List Loc, z = [] := ⟨_, rfl⟩
  rw [← hlo] at hS ⊢
  unfold f_X12_has at hf
  obtain ⟨hx, hb, hr, hml, hown, hts, hlocks, hKn, hBs⟩ := id X
  have hK := hKn.1
  skip
  have hl : lv_has ls 2 [(0, .int v0), (1, .int v1)] := hl
  refine lv_iload_n hx hb dX12_has_0 rfl (lv_at hl 0 rfl) ?_
  refine lv_iload_n hx hb dX12_has_1 rfl (lv_at hl 1 rfl) ?_
  refine lv_ishr hx hb dX12_has_2 ?_
  refine lv_iconst (v := 1) hx hb dX12_has_3 (by decide) ?_
  refine lv_iand hx hb dX12_has_4 ?_
  refine lv_iconst (v := 1) hx hb dX12_has_5 (by decide) ?_
  have hJ6 : ∀ Z : Int32, Z = (if ((v0 >>> (v1 &&& 31)) &&& 1) = 1 then 1 else 0) → W p l e rm_X12_has s m [.int v0, .int v1].toArray below meth c H locs 0 0 (MQ below (gQ D b (some (.int R)) M (gh)) [.int v0, .int v1].toArray s 0 0 (gA b)) (F0 m 14 ls (.int Z :: [])) := by
    intro Z hZ
    subst hZ
    obtain ⟨z14, hf⟩ := gb_zb hf
    have hf := Option.some.inj hf
    subst hf
    exact gp_retZ hx hb hr z14 hlocks hG hS (Nat.le_refl _) (Nat.le_refl _) dX12_has_14
  refine lv_icmp_ne (tgt := 13) hx hb dX12_has_6 (by decide) (fun c6 => ?_) (fun c6 => ?_)
  · rw [if_neg c6] at hJ6
    refine lv_iconst (v := 0) hx hb dX12_has_13 (by decide) ?_
    exact hJ6 _ rfl
  · rw [if_pos c6] at hJ6
    refine lv_iconst (v := 1) hx hb dX12_has_9 (by decide) ?_
    refine lv_goto (tgt := 14) hx hb dX12_has_10 (by decide) ?_
    exact hJ6 _ rfl
-- X12_bits
abbrev rm_X12_bits : Room := { frames := 0, cells := 0, slots := 0, locals := 0 }
set_option maxHeartbeats 4000000 in
set_option maxRecDepth 100000 in
theorem w_X12_bits_4 {α : Type} {R : α} {K24 : Int32 → Option α} {v0 : Int32} (X : gC p s m args meth c cX12_bits 3 (some .int) wsX12_bits RX12 D b (gTy cI cL)) : ∀ (n : Nat) (v1 : Int32) (v2 : Int32), L_X12_bits_4 K24 v0 n v1 v2 = some R → (∀ (x : Int32), K24 x = some R → ∀ (H : Heap) (locs : List Loc) (ls : Array Slot), GP D b M (gh) H → va_S (gA b) s.heap H locs → lv_has ls 3 [(1, .int x)] → W p l e rm_X12_bits s m args below meth c H locs 0 0 Q (F0 m 24 ls [])) → ∀ (H : Heap) (locs : List Loc) (ls : Array Slot), GP D b M (gh) H → va_S (gA b) s.heap H locs → lv_has ls 3 [(0, .int v0), (1, .int v1), (2, .int v2)] → W p l e rm_X12_bits s m args below meth c H locs 0 0 Q (F0 m 4 ls []) := by
  obtain ⟨hx, hb, hr, hml, hown, hts, hlocks, hKn, hBs⟩ := id X
  have hK := hKn.1
  skip
  intro n
  induction n with
  | zero =>
    intro v1 v2 hf
    cases hf
  | succ n ih =>
    intro v1 v2 hf hk24 H locs ls hG hS hl
    rw [L_X12_bits_4.eq_2] at hf
    refine lv_iload_n hx hb dX12_bits_4 rfl (lv_at hl 2 rfl) ?_
    refine lv_bipush (v := 31) hx hb dX12_bits_5 (by decide) ?_
    refine lv_icmp_ge (tgt := 24) hx hb dX12_bits_7 (by decide) (fun c7 => ?_) (fun c7 => ?_)
    · have hf := gb_t c7 hf
      exact hk24 _ hf _ _ _ hG hS (lv_sub hl [1] rfl)
    · have hf := gb_f c7 hf
      refine lv_iload_n hx hb dX12_bits_10 rfl (lv_at hl 1 rfl) ?_
      refine lv_iload_n hx hb dX12_bits_11 rfl (lv_at hl 0 rfl) ?_
      refine lv_iload_n hx hb dX12_bits_12 rfl (lv_at hl 2 rfl) ?_
      refine lv_ishr hx hb dX12_bits_13 ?_
      refine lv_iconst (v := 1) hx hb dX12_bits_14 (by decide) ?_
      refine lv_iand hx hb dX12_bits_15 ?_
      refine lv_iadd hx hb dX12_bits_16 ?_
      refine lv_istore_n (lv' := [(1, .int (v1 + ((v0 >>> (v2 &&& 31)) &&& 1))), (0, .int v0), (2, .int v2)]) hx hb dX12_bits_17 rfl hl (by decide) rfl (fun ls hl => ?_)
      refine lv_iinc (v := v2 + 1) (lv' := [(2, .int (v2 + 1)), (1, .int (v1 + ((v0 >>> (v2 &&& 31)) &&& 1))), (0, .int v0)]) hx hb dX12_bits_18 hl (k := 2) rfl rfl (by decide) rfl (fun ls hl => ?_)
      refine lv_goto (tgt := 4) hx hb dX12_bits_21 (by decide) ?_
      exact ih _ _ hf hk24 _ _ _ hG hS (lv_sub hl [2, 1, 0] rfl)
set_option maxHeartbeats 4000000 in
set_option maxRecDepth 100000 in
theorem c_X12_bits {v0 : Int32} {R : Int32} (hf : f_X12_bits v0 = some R) : Met l yX12_bits wsX12_bits rm_X12_bits (va_Pc [.int v0] (gPre D b M (gh) (gTy cI cL))) (gQ D b (some (.int R)) M (gh)) 0 0 (gA b) := by
  refine gp_met (cc := cX12_bits) (maxL := 3) (ret := (some .int)) (by decide) rfl (Nat.le_of_ble_eq_true rfl) ?_
  intro p e s m below meth c X ls hG hl
  have hS : va_S (gA b) s.heap s.heap [] := va_S.rf
  obtain ⟨H, hH0⟩ : ∃ H : Heap, H = s.heap := ⟨_, rfl⟩
  rw [← hH0] at hG ⊢
  have hS : va_S (gA b) s.heap H [] := by rw [hH0]; exact va_S.rf
  obtain ⟨locs, hlo⟩ : ∃ z : List Loc, z = [] := ⟨_, rfl⟩
  rw [← hlo] at hS ⊢
  unfold f_X12_bits at hf
  obtain ⟨hx, hb, hr, hml, hown, hts, hlocks, hKn, hBs⟩ := id X
  have hK := hKn.1
  skip
  have hl : lv_has ls 3 [(0, .int v0)] := hl
  refine lv_iconst (v := 0) hx hb dX12_bits_0 (by decide) ?_
  refine lv_istore_n (lv' := [(1, .int 0), (0, .int v0)]) hx hb dX12_bits_1 rfl hl (by decide) rfl (fun ls hl => ?_)
  refine lv_iconst (v := 0) hx hb dX12_bits_2 (by decide) ?_
  refine lv_istore_n (lv' := [(2, .int 0), (1, .int 0), (0, .int v0)]) hx hb dX12_bits_3 rfl hl (by decide) rfl (fun ls hl => ?_)
  refine w_X12_bits_4 X _ _ _ hf (fun x4_24 hf H locs ls hG hS hl => ?_) _ _ _ hG hS (lv_sub hl [2, 1, 0] rfl)
  · refine lv_iload_n hx hb dX12_bits_24 rfl (lv_at hl 0 rfl) ?_
    have hf := Option.some.inj hf
    subst hf
    exact gp_retI hx hb hr hlocks hG hS (Nat.le_refl _) (Nat.le_refl _) dX12_bits_25
-- X12_isCell
abbrev rm_X12_isCell : Room := { frames := 0, cells := 0, slots := 0, locals := 0 }
set_option maxHeartbeats 4000000 in
set_option maxRecDepth 100000 in
theorem c_X12_isCell {v0 : Int32} {R : Int32} (hf : f_X12_isCell v0 = some R) : Met l yX12_isCell wsX12_isCell rm_X12_isCell (va_Pc [.int v0] (gPre D b M (gh) (gTy cI cL))) (gQ D b (some (.int R)) M (gh)) 0 0 (gA b) := by
  refine gp_met (cc := cX12_isCell) (maxL := 1) (ret := (some .boolean)) (by decide) rfl (Nat.le_of_ble_eq_true rfl) ?_
  intro p e s m below meth c X ls hG hl
  have hS : va_S (gA b) s.heap s.heap [] := va_S.rf
  obtain ⟨H, hH0⟩ : ∃ H : Heap, H = s.heap := ⟨_, rfl⟩
  rw [← hH0] at hG ⊢
  have hS : va_S (gA b) s.heap H [] := by rw [hH0]; exact va_S.rf
  obtain ⟨locs, hlo⟩ : ∃ z : List Loc, z = [] := ⟨_, rfl⟩
  rw [← hlo] at hS ⊢
  unfold f_X12_isCell at hf
  obtain ⟨hx, hb, hr, hml, hown, hts, hlocks, hKn, hBs⟩ := id X
  have hK := hKn.1
  skip
  have hl : lv_has ls 1 [(0, .int v0)] := hl
  refine lv_iload_n hx hb dX12_isCell_0 rfl (lv_at hl 0 rfl) ?_
  have hJ1 : ∀ Z : Int32, Z = (if v0 < 0 then 0 else if 36 ≤ v0 then 0 else 1) → W p l e rm_X12_isCell s m [.int v0].toArray below meth c H locs 0 0 (MQ below (gQ D b (some (.int R)) M (gh)) [.int v0].toArray s 0 0 (gA b)) (F0 m 15 ls (.int Z :: [])) := by
    intro Z hZ
    subst hZ
    obtain ⟨z15, hf⟩ := gb_zb hf
    have hf := Option.some.inj hf
    subst hf
    exact gp_retZ hx hb hr z15 hlocks hG hS (Nat.le_refl _) (Nat.le_refl _) dX12_isCell_15
  refine lv_if_lt (tgt := 14) hx hb dX12_isCell_1 (by decide) (fun c1 => ?_) (fun c1 => ?_)
  · rw [if_pos c1] at hJ1
    refine lv_iconst (v := 0) hx hb dX12_isCell_14 (by decide) ?_
    exact hJ1 _ rfl
  · rw [if_neg c1] at hJ1
    refine lv_iload_n hx hb dX12_isCell_4 rfl (lv_at hl 0 rfl) ?_
    refine lv_bipush (v := 36) hx hb dX12_isCell_5 (by decide) ?_
    refine lv_icmp_ge (tgt := 14) hx hb dX12_isCell_7 (by decide) (fun c7 => ?_) (fun c7 => ?_)
    · rw [if_pos c7] at hJ1
      refine lv_iconst (v := 0) hx hb dX12_isCell_14 (by decide) ?_
      exact hJ1 _ rfl
    · rw [if_neg c7] at hJ1
      refine lv_iconst (v := 1) hx hb dX12_isCell_10 (by decide) ?_
      refine lv_goto (tgt := 15) hx hb dX12_isCell_11 (by decide) ?_
      exact hJ1 _ rfl
-- X12_isLamp
abbrev rm_X12_isLamp : Room := { frames := 0, cells := 0, slots := 0, locals := 0 }
set_option maxHeartbeats 4000000 in
set_option maxRecDepth 100000 in
theorem c_X12_isLamp {v1 : Int32} {R : Int32} (hf : f_X12_isLamp i_lampMany v1 = some R) : Met l yX12_isLamp wsX12_isLamp rm_X12_isLamp (va_Pc [.ref h0, .int v1] (gPre D b M (mg cI h0 a_refused a_isWall a_kind a_lampCell a_range a_lit a_scenes a_who a_cell a_minuteOf a_standsAt i_lampMany i_people i_minute a_tape a_letter a_letterAt a_told i_taped i_at i_statements a_kept i_hasImage i_isKeeping i_cursor a_far a_shut a_queue i_queued a_litBy a_may a_row i_rowMany g0) (gTy cI cL))) (gQ D b (some (.int R)) M (mg cI h0 a_refused a_isWall a_kind a_lampCell a_range a_lit a_scenes a_who a_cell a_minuteOf a_standsAt i_lampMany i_people i_minute a_tape a_letter a_letterAt a_told i_taped i_at i_statements a_kept i_hasImage i_isKeeping i_cursor a_far a_shut a_queue i_queued a_litBy a_may a_row i_rowMany g0)) 0 0 (gA b) := by
  refine gp_met (cc := cX12_isLamp) (maxL := 2) (ret := (some .boolean)) (by decide) rfl (Nat.le_of_ble_eq_true rfl) ?_
  intro p e s m below meth c X ls hG hl
  have hS : va_S (gA b) s.heap s.heap [] := va_S.rf
  obtain ⟨H, hH0⟩ : ∃ H : Heap, H = s.heap := ⟨_, rfl⟩
  rw [← hH0] at hG ⊢
  have hS : va_S (gA b) s.heap H [] := by rw [hH0]; exact va_S.rf
  obtain ⟨locs, hlo⟩ : ∃ z : List Loc, z = [] := ⟨_, rfl⟩
  rw [← hlo] at hS ⊢
  unfold f_X12_isLamp at hf
  obtain ⟨hx, hb, hr, hml, hown, hts, hlocks, hKn, hBs⟩ := id X
  have hK := hKn.1
  have hin : ∀ w ∈ wsX120, w ∈ wsX12_isLamp := fun w h => List.mem_cons_of_mem _ (List.mem_append_right _ h)
  have hl : lv_has ls 2 [(0, .ref h0), (1, .int v1)] := hl
  refine lv_iload_n hx hb dX12_isLamp_0 rfl (lv_at hl 1 rfl) ?_
  have hJ1 : ∀ Z : Int32, Z = (if v1 < 0 then 0 else if i_lampMany ≤ v1 then 0 else 1) → W p l e rm_X12_isLamp s m [.ref h0, .int v1].toArray below meth c H locs 0 0 (MQ below (gQ D b (some (.int R)) M (mg cI h0 a_refused a_isWall a_kind a_lampCell a_range a_lit a_scenes a_who a_cell a_minuteOf a_standsAt i_lampMany i_people i_minute a_tape a_letter a_letterAt a_told i_taped i_at i_statements a_kept i_hasImage i_isKeeping i_cursor a_far a_shut a_queue i_queued a_litBy a_may a_row i_rowMany g0)) [.ref h0, .int v1].toArray s 0 0 (gA b)) (F0 m 17 ls (.int Z :: [])) := by
    intro Z hZ
    subst hZ
    obtain ⟨z17, hf⟩ := gb_zb hf
    have hf := Option.some.inj hf
    subst hf
    exact gp_retZ hx hb hr z17 hlocks hG hS (Nat.le_refl _) (Nat.le_refl _) dX12_isLamp_17
  refine lv_if_lt (tgt := 16) hx hb dX12_isLamp_1 (by decide) (fun c1 => ?_) (fun c1 => ?_)
  · rw [if_pos c1] at hJ1
    refine lv_iconst (v := 0) hx hb dX12_isLamp_16 (by decide) ?_
    exact hJ1 _ rfl
  · rw [if_neg c1] at hJ1
    refine lv_iload_n hx hb dX12_isLamp_4 rfl (lv_at hl 1 rfl) ?_
    refine lv_aload_n hx hb dX12_isLamp_5 rfl (lv_at hl 0 rfl) ?_
    refine gp_get (v := .int i_lampMany) (C := RX12) (T := TX12) (N := 33) (ci := 10) hx hb hts hin hown hK hG mg_o rfl 11 (by decide) (hts _ (List.mem_of_getElem? (i := 1) rfl)) (fun _ h9 => h9) rfl dX12_isLamp_6 ?_
    refine lv_icmp_ge (tgt := 16) hx hb dX12_isLamp_9 (by decide) (fun c9 => ?_) (fun c9 => ?_)
    · rw [if_pos c9] at hJ1
      refine lv_iconst (v := 0) hx hb dX12_isLamp_16 (by decide) ?_
      exact hJ1 _ rfl
    · rw [if_neg c9] at hJ1
      refine lv_iconst (v := 1) hx hb dX12_isLamp_12 (by decide) ?_
      refine lv_goto (tgt := 17) hx hb dX12_isLamp_13 (by decide) ?_
      exact hJ1 _ rfl
-- X12_isPerson
abbrev rm_X12_isPerson : Room := { frames := 0, cells := 0, slots := 0, locals := 0 }
set_option maxHeartbeats 4000000 in
set_option maxRecDepth 100000 in
theorem c_X12_isPerson {v1 : Int32} {R : Int32} (hf : f_X12_isPerson i_people v1 = some R) : Met l yX12_isPerson wsX12_isPerson rm_X12_isPerson (va_Pc [.ref h0, .int v1] (gPre D b M (mg cI h0 a_refused a_isWall a_kind a_lampCell a_range a_lit a_scenes a_who a_cell a_minuteOf a_standsAt i_lampMany i_people i_minute a_tape a_letter a_letterAt a_told i_taped i_at i_statements a_kept i_hasImage i_isKeeping i_cursor a_far a_shut a_queue i_queued a_litBy a_may a_row i_rowMany g0) (gTy cI cL))) (gQ D b (some (.int R)) M (mg cI h0 a_refused a_isWall a_kind a_lampCell a_range a_lit a_scenes a_who a_cell a_minuteOf a_standsAt i_lampMany i_people i_minute a_tape a_letter a_letterAt a_told i_taped i_at i_statements a_kept i_hasImage i_isKeeping i_cursor a_far a_shut a_queue i_queued a_litBy a_may a_row i_rowMany g0)) 0 0 (gA b) := by
  refine gp_met (cc := cX12_isPerson) (maxL := 2) (ret := (some .boolean)) (by decide) rfl (Nat.le_of_ble_eq_true rfl) ?_
  intro p e s m below meth c X ls hG hl
  have hS : va_S (gA b) s.heap s.heap [] := va_S.rf
  obtain ⟨H, hH0⟩ : ∃ H : Heap, H = s.heap := ⟨_, rfl⟩
  rw [← hH0] at hG ⊢
  have hS : va_S (gA b) s.heap H [] := by rw [hH0]; exact va_S.rf
  obtain ⟨locs, hlo⟩ : ∃ z : List Loc, z = [] := ⟨_, rfl⟩
  rw [← hlo] at hS ⊢
  unfold f_X12_isPerson at hf
  obtain ⟨hx, hb, hr, hml, hown, hts, hlocks, hKn, hBs⟩ := id X
  have hK := hKn.1
  have hin : ∀ w ∈ wsX120, w ∈ wsX12_isPerson := fun w h => List.mem_cons_of_mem _ (List.mem_append_right _ h)
  have hl : lv_has ls 2 [(0, .ref h0), (1, .int v1)] := hl
  refine lv_iload_n hx hb dX12_isPerson_0 rfl (lv_at hl 1 rfl) ?_
  have hJ1 : ∀ Z : Int32, Z = (if v1 < 0 then 0 else if i_people ≤ v1 then 0 else 1) → W p l e rm_X12_isPerson s m [.ref h0, .int v1].toArray below meth c H locs 0 0 (MQ below (gQ D b (some (.int R)) M (mg cI h0 a_refused a_isWall a_kind a_lampCell a_range a_lit a_scenes a_who a_cell a_minuteOf a_standsAt i_lampMany i_people i_minute a_tape a_letter a_letterAt a_told i_taped i_at i_statements a_kept i_hasImage i_isKeeping i_cursor a_far a_shut a_queue i_queued a_litBy a_may a_row i_rowMany g0)) [.ref h0, .int v1].toArray s 0 0 (gA b)) (F0 m 17 ls (.int Z :: [])) := by
    intro Z hZ
    subst hZ
    obtain ⟨z17, hf⟩ := gb_zb hf
    have hf := Option.some.inj hf
    subst hf
    exact gp_retZ hx hb hr z17 hlocks hG hS (Nat.le_refl _) (Nat.le_refl _) dX12_isPerson_17
  refine lv_if_lt (tgt := 16) hx hb dX12_isPerson_1 (by decide) (fun c1 => ?_) (fun c1 => ?_)
  · rw [if_pos c1] at hJ1
    refine lv_iconst (v := 0) hx hb dX12_isPerson_16 (by decide) ?_
    exact hJ1 _ rfl
  · rw [if_neg c1] at hJ1
    refine lv_iload_n hx hb dX12_isPerson_4 rfl (lv_at hl 1 rfl) ?_
    refine lv_aload_n hx hb dX12_isPerson_5 rfl (lv_at hl 0 rfl) ?_
    refine gp_get (v := .int i_people) (C := RX12) (T := TX12) (N := 33) (ci := 10) hx hb hts hin hown hK hG mg_o rfl 12 (by decide) (hts _ (List.mem_of_getElem? (i := 1) rfl)) (fun _ h9 => h9) rfl dX12_isPerson_6 ?_
    refine lv_icmp_ge (tgt := 16) hx hb dX12_isPerson_9 (by decide) (fun c9 => ?_) (fun c9 => ?_)
    · rw [if_pos c9] at hJ1
      refine lv_iconst (v := 0) hx hb dX12_isPerson_16 (by decide) ?_
      exact hJ1 _ rfl
    · rw [if_neg c9] at hJ1
      refine lv_iconst (v := 1) hx hb dX12_isPerson_12 (by decide) ?_
      refine lv_goto (tgt := 17) hx hb dX12_isPerson_13 (by decide) ?_
      exact hJ1 _ rfl
-- X12_letter
abbrev rm_X12_letter : Room := { frames := 1, cells := 0, slots := 0, locals := 22 }
set_option maxHeartbeats 4000000 in
set_option maxRecDepth 100000 in
theorem c_X12_letter {v1 : Int32} {R : Int32 × (Nat → Int32) × (Nat → Int32) × Int32} (hf : f_X12_letter a_refused a_tape i_taped v1 = some R) : Met l yX12_letter wsX12_letter rm_X12_letter (va_Pc [.ref h0, .int v1] (gPre D b M (mg cI h0 a_refused a_isWall a_kind a_lampCell a_range a_lit a_scenes a_who a_cell a_minuteOf a_standsAt i_lampMany i_people i_minute a_tape a_letter a_letterAt a_told i_taped i_at i_statements a_kept i_hasImage i_isKeeping i_cursor a_far a_shut a_queue i_queued a_litBy a_may a_row i_rowMany g0) (gTy cI cL))) (gQ D b (some (.int R.1)) M (mg cI h0 R.2.1 a_isWall a_kind a_lampCell a_range a_lit a_scenes a_who a_cell a_minuteOf a_standsAt i_lampMany i_people i_minute R.2.2.1 a_letter a_letterAt a_told R.2.2.2 i_at i_statements a_kept i_hasImage i_isKeeping i_cursor a_far a_shut a_queue i_queued a_litBy a_may a_row i_rowMany g0)) 0 0 (gA b) := by
  refine gp_met (cc := cX12_letter) (maxL := 3) (ret := (some .int)) (by decide) rfl (Nat.le_of_ble_eq_true rfl) ?_
  intro p e s m below meth c X ls hG hl
  have hS : va_S (gA b) s.heap s.heap [] := va_S.rf
  obtain ⟨H, hH0⟩ : ∃ H : Heap, H = s.heap := ⟨_, rfl⟩
  rw [← hH0] at hG ⊢
  have hS : va_S (gA b) s.heap H [] := by rw [hH0]; exact va_S.rf
  obtain ⟨locs, hlo⟩ : ∃ z : List Loc, z = [] := ⟨_, rfl⟩
  rw [← hlo] at hS ⊢
  unfold f_X12_letter at hf
  obtain ⟨hx, hb, hr, hml, hown, hts, hlocks, hKn, hBs⟩ := id X
  have hK := hKn.1
  have hin : ∀ w ∈ wsX120, w ∈ wsX12_letter := fun w h => List.mem_cons_of_mem _ (List.mem_append_right _ h)
  have hl : lv_has ls 3 [(0, .ref h0), (1, .int v1)] := hl
  refine lv_iload_n hx hb dX12_letter_0 rfl (lv_at hl 1 rfl) ?_
  refine lv_iconst (v := 0) hx hb dX12_letter_1 (by decide) ?_
  refine lv_sipush (v := 255) hx hb dX12_letter_2 (by decide) ?_
  obtain ⟨o5, hc5, hf⟩ := gb_b hf
  refine gp_callI (va_runS (As := [.int v1, .int 0, .int 255]) (rest := []) ⟨hx, hb, hml, hown, hts⟩ (c_X12_bound (l := l) (D := D) (b := b) (M := M) (cI := cI) (cL := cL) hc5) (va_cwS 3 hts gX12_letter_X12_bound rfl rfl rfl (by decide +kernel) ⟨Nat.le_of_ble_eq_true rfl, Nat.le_of_ble_eq_true rfl⟩) (gp_preS hKn hG) rfl rfl hl.1 rfl (lv_room (Nat.le_of_ble_eq_true rfl)) dX12_letter_5 ⟨Nat.le_of_ble_eq_true rfl, Nat.le_of_ble_eq_true rfl⟩) hS (fun H locs hG hS => ?_)
  refine lv_istore_n (lv' := [(2, .int o5), (0, .ref h0), (1, .int v1)]) hx hb dX12_letter_8 rfl hl (by decide) rfl (fun ls hl => ?_)
  refine lv_iload_n hx hb dX12_letter_9 rfl (lv_at hl 0 rfl) ?_
  obtain ⟨j10, hj10, hf⟩ := gb_b hf
  have hJ10 : ∀ (H : Heap) (locs : List Loc) (ls : Array Slot), GP D b M (mg cI h0 a_refused a_isWall a_kind a_lampCell a_range a_lit a_scenes a_who a_cell a_minuteOf a_standsAt i_lampMany i_people i_minute a_tape a_letter a_letterAt a_told i_taped i_at i_statements a_kept i_hasImage i_isKeeping i_cursor a_far a_shut a_queue i_queued a_litBy a_may a_row i_rowMany g0) H → va_S (gA b) s.heap H locs → lv_has ls 3 [(0, .ref h0), (1, .int v1), (2, .int j10)] → W p l e rm_X12_letter s m [.ref h0, .int v1].toArray below meth c H locs 0 0 (MQ below (gQ D b (some (.int R.1)) M (mg cI h0 R.2.1 a_isWall a_kind a_lampCell a_range a_lit a_scenes a_who a_cell a_minuteOf a_standsAt i_lampMany i_people i_minute R.2.2.1 a_letter a_letterAt a_told R.2.2.2 i_at i_statements a_kept i_hasImage i_isKeeping i_cursor a_far a_shut a_queue i_queued a_litBy a_may a_row i_rowMany g0)) [.ref h0, .int v1].toArray s 0 0 (gA b)) (F0 m 25 ls []) := by
    intro H locs ls hG hS hl
    refine lv_iload_n hx hb dX12_letter_25 rfl (lv_at hl 2 rfl) ?_
    refine lv_if_eq (tgt := 35) hx hb dX12_letter_26 (by decide) (fun c26 => ?_) (fun c26 => ?_)
    · have hf := gb_t c26 hf
      refine lv_aload_n hx hb dX12_letter_35 rfl (lv_at hl 0 rfl) ?_
      refine gp_get (v := .ref (h0 + 12)) (C := RX12) (T := TX12) (N := 33) (ci := 10) hx hb hts hin hown hK hG mg_o rfl 14 (by decide) (hts _ (List.mem_of_getElem? (i := 2) rfl)) (fun _ h9 => h9) rfl dX12_letter_36 ?_
      refine lv_aload_n hx hb dX12_letter_39 rfl (lv_at hl 0 rfl) ?_
      refine gp_get (v := .int i_taped) (C := RX12) (T := TX12) (N := 33) (ci := 10) hx hb hts hin hown hK hG mg_o rfl 18 (by decide) (hts _ (List.mem_of_getElem? (i := 1) rfl)) (fun _ h9 => h9) rfl dX12_letter_40 ?_
      refine lv_iload_n hx hb dX12_letter_43 rfl (lv_at hl 1 rfl) ?_
      obtain ⟨b44, hf⟩ := gb_ix hf
      refine gp_iast hx hb hK hG hS mg_tape b44 mu_tape dX12_letter_44 (fun H locs hG hS => ?_)
      refine lv_aload_n hx hb dX12_letter_45 rfl (lv_at hl 0 rfl) ?_
      refine lv_dup hx hb dX12_letter_46 rfl ?_
      refine gp_get (v := .int i_taped) (C := RX12) (T := TX12) (N := 33) (ci := 10) hx hb hts hin hown hK hG mg_o rfl 18 (by decide) (hts _ (List.mem_of_getElem? (i := 1) rfl)) (fun _ h9 => h9) rfl dX12_letter_47 ?_
      refine lv_iconst (v := 1) hx hb dX12_letter_50 (by decide) ?_
      refine lv_iadd hx hb dX12_letter_51 ?_
      refine gp_put (v := .int (i_taped + 1)) (tyk := .int) (C := RX12) (T := TX12) (N := 33) (ci := 10) hx hb hts hin tyX12 tyX12_ok nmX12 hown hK hG hS mg_o rfl 18 (by decide) (hts _ (List.mem_of_getElem? (i := 1) rfl)) (fun _ h9 => h9) rfl rfl rfl rfl (Nat.le_of_ble_eq_true rfl) mu_taped dX12_letter_52 (fun H locs hG hS => ?_)
      refine lv_aload_n hx hb dX12_letter_55 rfl (lv_at hl 0 rfl) ?_
      refine gp_get (v := .int (i_taped + 1)) (C := RX12) (T := TX12) (N := 33) (ci := 10) hx hb hts hin hown hK hG mg_o rfl 18 (by decide) (hts _ (List.mem_of_getElem? (i := 1) rfl)) (fun _ h9 => h9) rfl dX12_letter_56 ?_
      have hf := Option.some.inj hf
      subst hf
      exact gp_retI hx hb hr hlocks hG hS (Nat.le_refl _) (Nat.le_refl _) dX12_letter_59
    · have hf := gb_f c26 hf
      refine lv_aload_n hx hb dX12_letter_29 rfl (lv_at hl 0 rfl) ?_
      refine lv_iload_n hx hb dX12_letter_30 rfl (lv_at hl 2 rfl) ?_
      obtain ⟨o31, hc31, hf⟩ := gb_b hf
      refine gp_callI (va_runV (As := [.int j10]) (rest := []) ⟨hx, hb, hml, hown, hts⟩ (c_X12_no (l := l) (D := D) (b := b) (M := M) (cI := cI) (cL := cL) hc31) (cwV 1 hts gX12_letter_X12_no rfl rfl rfl (by decide +kernel) ⟨Nat.le_of_ble_eq_true rfl, Nat.le_of_ble_eq_true rfl⟩) (gp_preV hKn hG mg_o rfl) rfl rfl hl.1 rfl (lv_room (Nat.le_of_ble_eq_true rfl)) dX12_letter_31 ⟨Nat.le_of_ble_eq_true rfl, Nat.le_of_ble_eq_true rfl⟩) hS (fun H locs hG hS => ?_)
      have hf := Option.some.inj hf
      subst hf
      exact gp_retI hx hb hr hlocks hG hS (Nat.le_refl _) (Nat.le_refl _) dX12_letter_34
  refine lv_if_ne (tgt := 25) hx hb dX12_letter_10 (by decide) (fun c10 => ?_) (fun c10 => ?_)
  · have hj10 := gb_f c10 hj10
    have hj10 := Option.some.inj hj10
    subst hj10
    exact hJ10 H locs ls hG hS (lv_sub hl [1, 2, 0] rfl)
  · have hj10 := gb_t c10 hj10
    refine lv_aload_n hx hb dX12_letter_13 rfl (lv_at hl 1 rfl) ?_
    refine gp_get (v := .int i_taped) (C := RX12) (T := TX12) (N := 33) (ci := 10) hx hb hts hin hown hK hG mg_o rfl 18 (by decide) (hts _ (List.mem_of_getElem? (i := 1) rfl)) (fun _ h9 => h9) rfl dX12_letter_14 ?_
    refine lv_bipush (v := 96) hx hb dX12_letter_17 (by decide) ?_
    refine lv_icmp_ne (tgt := 25) hx hb dX12_letter_19 (by decide) (fun c19 => ?_) (fun c19 => ?_)
    · have hj10 := gb_f c19 hj10
      have hj10 := Option.some.inj hj10
      subst hj10
      exact hJ10 H locs ls hG hS (lv_sub hl [1, 2, 0] rfl)
    · have hj10 := gb_t c19 hj10
      refine lv_bipush (v := (-6 : Int32)) hx hb dX12_letter_22 (by decide) ?_
      refine lv_istore_n (lv' := [(2, .int (-6 : Int32)), (0, .ref h0), (1, .int v1)]) hx hb dX12_letter_24 rfl hl (by decide) rfl (fun ls hl => ?_)
      have hj10 := Option.some.inj hj10
      subst hj10
      exact hJ10 H locs ls hG hS (lv_sub hl [1, 2, 0] rfl)
-- X12_signAt
abbrev rm_X12_signAt : Room := { frames := 0, cells := 0, slots := 0, locals := 0 }
set_option maxHeartbeats 4000000 in
set_option maxRecDepth 100000 in
theorem c_X12_signAt {R : Int32} (hf : f_X12_signAt a_tape i_taped i_at = some R) : Met l yX12_signAt wsX12_signAt rm_X12_signAt (va_Pc [.ref h0] (gPre D b M (mg cI h0 a_refused a_isWall a_kind a_lampCell a_range a_lit a_scenes a_who a_cell a_minuteOf a_standsAt i_lampMany i_people i_minute a_tape a_letter a_letterAt a_told i_taped i_at i_statements a_kept i_hasImage i_isKeeping i_cursor a_far a_shut a_queue i_queued a_litBy a_may a_row i_rowMany g0) (gTy cI cL))) (gQ D b (some (.int R)) M (mg cI h0 a_refused a_isWall a_kind a_lampCell a_range a_lit a_scenes a_who a_cell a_minuteOf a_standsAt i_lampMany i_people i_minute a_tape a_letter a_letterAt a_told i_taped i_at i_statements a_kept i_hasImage i_isKeeping i_cursor a_far a_shut a_queue i_queued a_litBy a_may a_row i_rowMany g0)) 0 0 (gA b) := by
  refine gp_met (cc := cX12_signAt) (maxL := 1) (ret := (some .int)) (by decide) rfl (Nat.le_of_ble_eq_true rfl) ?_
  intro p e s m below meth c X ls hG hl
  have hS : va_S (gA b) s.heap s.heap [] := va_S.rf
  obtain ⟨H, hH0⟩ : ∃ H : Heap, H = s.heap := ⟨_, rfl⟩
  rw [← hH0] at hG ⊢
  have hS : va_S (gA b) s.heap H [] := by rw [hH0]; exact va_S.rf
  obtain ⟨locs, hlo⟩ : ∃ z : List Loc, z = [] := ⟨_, rfl⟩
  rw [← hlo] at hS ⊢
  unfold f_X12_signAt at hf
  obtain ⟨hx, hb, hr, hml, hown, hts, hlocks, hKn, hBs⟩ := id X
  have hK := hKn.1
  have hin : ∀ w ∈ wsX120, w ∈ wsX12_signAt := fun w h => List.mem_cons_of_mem _ (List.mem_append_right _ h)
  have hl : lv_has ls 1 [(0, .ref h0)] := hl
  refine lv_aload_n hx hb dX12_signAt_0 rfl (lv_at hl 0 rfl) ?_
  refine gp_get (v := .int i_at) (C := RX12) (T := TX12) (N := 33) (ci := 10) hx hb hts hin hown hK hG mg_o rfl 19 (by decide) (hts _ (List.mem_of_getElem? (i := 1) rfl)) (fun _ h9 => h9) rfl dX12_signAt_1 ?_
  refine lv_aload_n hx hb dX12_signAt_4 rfl (lv_at hl 0 rfl) ?_
  refine gp_get (v := .int i_taped) (C := RX12) (T := TX12) (N := 33) (ci := 10) hx hb hts hin hown hK hG mg_o rfl 18 (by decide) (hts _ (List.mem_of_getElem? (i := 2) rfl)) (fun _ h9 => h9) rfl dX12_signAt_5 ?_
  obtain ⟨j8, hj8, hf⟩ := gb_b hf
  have hJ8 : ∀ (H : Heap) (locs : List Loc) (ls : Array Slot), GP D b M (mg cI h0 a_refused a_isWall a_kind a_lampCell a_range a_lit a_scenes a_who a_cell a_minuteOf a_standsAt i_lampMany i_people i_minute a_tape a_letter a_letterAt a_told i_taped i_at i_statements a_kept i_hasImage i_isKeeping i_cursor a_far a_shut a_queue i_queued a_litBy a_may a_row i_rowMany g0) H → va_S (gA b) s.heap H locs → lv_has ls 1 [] → W p l e rm_X12_signAt s m [.ref h0].toArray below meth c H locs 0 0 (MQ below (gQ D b (some (.int R)) M (mg cI h0 a_refused a_isWall a_kind a_lampCell a_range a_lit a_scenes a_who a_cell a_minuteOf a_standsAt i_lampMany i_people i_minute a_tape a_letter a_letterAt a_told i_taped i_at i_statements a_kept i_hasImage i_isKeeping i_cursor a_far a_shut a_queue i_queued a_litBy a_may a_row i_rowMany g0)) [.ref h0].toArray s 0 0 (gA b)) (F0 m 24 ls [.int j8]) := by
    intro H locs ls hG hS hl
    have hf := Option.some.inj hf
    subst hf
    exact gp_retI hx hb hr hlocks hG hS (Nat.le_refl _) (Nat.le_refl _) dX12_signAt_24
  refine lv_icmp_ge (tgt := 23) hx hb dX12_signAt_8 (by decide) (fun c8 => ?_) (fun c8 => ?_)
  · have hj8 := gb_t c8 hj8
    refine lv_iconst (v := (-1 : Int32)) hx hb dX12_signAt_23 (by decide) ?_
    have hj8 := Option.some.inj hj8
    subst hj8
    exact hJ8 H locs ls hG hS (lv_sub hl [] rfl)
  · have hj8 := gb_f c8 hj8
    refine lv_aload_n hx hb dX12_signAt_11 rfl (lv_at hl 0 rfl) ?_
    refine gp_get (v := .ref (h0 + 12)) (C := RX12) (T := TX12) (N := 33) (ci := 10) hx hb hts hin hown hK hG mg_o rfl 14 (by decide) (hts _ (List.mem_of_getElem? (i := 3) rfl)) (fun _ h9 => h9) rfl dX12_signAt_12 ?_
    refine lv_aload_n hx hb dX12_signAt_15 rfl (lv_at hl 0 rfl) ?_
    refine gp_get (v := .int i_at) (C := RX12) (T := TX12) (N := 33) (ci := 10) hx hb hts hin hown hK hG mg_o rfl 19 (by decide) (hts _ (List.mem_of_getElem? (i := 1) rfl)) (fun _ h9 => h9) rfl dX12_signAt_16 ?_
    obtain ⟨b19, hj8⟩ := gb_ix hj8
    refine gp_iald hx hb hK hG mg_tape b19 dX12_signAt_19 ?_
    refine lv_goto (tgt := 24) hx hb dX12_signAt_20 (by decide) ?_
    have hj8 := Option.some.inj hj8
    subst hj8
    exact hJ8 H locs ls hG hS (lv_sub hl [] rfl)
-- X12_readsDigits
abbrev rm_X12_readsDigits : Room := { frames := 1, cells := 0, slots := 0, locals := 22 }
set_option maxHeartbeats 4000000 in
set_option maxRecDepth 100000 in
theorem w_X12_readsDigits_5 {α : Type} {R : α} {K25 : Int32 → Option α} {K56 : (Int32 × Int32) → Option α} {v1 : Int32} {v2 : Int32} (X : gC p s m args meth c cX12_readsDigits 5 (some .boolean) wsX12_readsDigits RX12 D b (gTy cI cL)) : ∀ (n : Nat) (v3 : Int32) (v4 : Int32) (i_at : Int32), L_X12_readsDigits_5 K25 K56 a_tape i_taped v1 v2 n v3 v4 i_at = some R → (∀ (x : Int32), K25 x = some R → ∀ (H : Heap) (locs : List Loc) (ls : Array Slot), GP D b M (mg cI h0 a_refused a_isWall a_kind a_lampCell a_range a_lit a_scenes a_who a_cell a_minuteOf a_standsAt i_lampMany i_people i_minute a_tape a_letter a_letterAt a_told i_taped x i_statements a_kept i_hasImage i_isKeeping i_cursor a_far a_shut a_queue i_queued a_litBy a_may a_row i_rowMany g0) H → va_S (gA b) s.heap H locs → lv_has ls 5 [] → W p l e rm_X12_readsDigits s m args below meth c H locs 0 0 Q (F0 m 25 ls [])) → (∀ (x : Int32 × Int32), K56 x = some R → ∀ (H : Heap) (locs : List Loc) (ls : Array Slot), GP D b M (mg cI h0 a_refused a_isWall a_kind a_lampCell a_range a_lit a_scenes a_who a_cell a_minuteOf a_standsAt i_lampMany i_people i_minute a_tape a_letter a_letterAt a_told i_taped x.2 i_statements a_kept i_hasImage i_isKeeping i_cursor a_far a_shut a_queue i_queued a_litBy a_may a_row i_rowMany g0) H → va_S (gA b) s.heap H locs → lv_has ls 5 [(0, .ref h0), (1, .int v1), (3, .int x.1)] → W p l e rm_X12_readsDigits s m args below meth c H locs 0 0 Q (F0 m 56 ls [])) → ∀ (H : Heap) (locs : List Loc) (ls : Array Slot), GP D b M (mg cI h0 a_refused a_isWall a_kind a_lampCell a_range a_lit a_scenes a_who a_cell a_minuteOf a_standsAt i_lampMany i_people i_minute a_tape a_letter a_letterAt a_told i_taped i_at i_statements a_kept i_hasImage i_isKeeping i_cursor a_far a_shut a_queue i_queued a_litBy a_may a_row i_rowMany g0) H → va_S (gA b) s.heap H locs → lv_has ls 5 [(0, .ref h0), (1, .int v1), (2, .int v2), (3, .int v3), (4, .int v4)] → W p l e rm_X12_readsDigits s m args below meth c H locs 0 0 Q (F0 m 5 ls []) := by
  obtain ⟨hx, hb, hr, hml, hown, hts, hlocks, hKn, hBs⟩ := id X
  have hK := hKn.1
  have hin : ∀ w ∈ wsX120, w ∈ wsX12_readsDigits := fun w h => List.mem_cons_of_mem _ (List.mem_append_right _ h)
  intro n
  induction n with
  | zero =>
    intro v3 v4 i_at hf
    cases hf
  | succ n ih =>
    intro v3 v4 i_at hf hk25 hk56 H locs ls hG hS hl
    rw [L_X12_readsDigits_5.eq_2] at hf
    refine lv_iload hx hb dX12_readsDigits_5 (lv_at hl 4 rfl) ?_
    refine lv_iload_n hx hb dX12_readsDigits_7 rfl (lv_at hl 2 rfl) ?_
    refine lv_icmp_ge (tgt := 56) hx hb dX12_readsDigits_8 (by decide) (fun c8 => ?_) (fun c8 => ?_)
    · have hf := gb_t c8 hf
      exact hk56 _ hf _ _ _ hG hS (lv_sub hl [0, 1, 3] rfl)
    · have hf := gb_f c8 hf
      refine lv_aload_n hx hb dX12_readsDigits_11 rfl (lv_at hl 0 rfl) ?_
      obtain ⟨o12, hc12, hf⟩ := gb_b hf
      refine gp_callI (va_runV (As := []) (rest := []) ⟨hx, hb, hml, hown, hts⟩ (c_X12_signAt (l := l) (D := D) (b := b) (M := M) (cI := cI) (cL := cL) hc12) (cwV 0 hts gX12_readsDigits_X12_signAt rfl rfl rfl (by decide +kernel) ⟨Nat.le_of_ble_eq_true rfl, Nat.le_of_ble_eq_true rfl⟩) (gp_preV hKn hG mg_o rfl) rfl rfl hl.1 rfl (lv_room (Nat.le_of_ble_eq_true rfl)) dX12_readsDigits_12 ⟨Nat.le_of_ble_eq_true rfl, Nat.le_of_ble_eq_true rfl⟩) hS (fun H locs hG hS => ?_)
      refine lv_bipush (v := 48) hx hb dX12_readsDigits_15 (by decide) ?_
      refine lv_bipush (v := 57) hx hb dX12_readsDigits_17 (by decide) ?_
      obtain ⟨o19, hc19, hf⟩ := gb_b hf
      refine gp_callI (va_runS (As := [.int o12, .int 48, .int 57]) (rest := []) ⟨hx, hb, hml, hown, hts⟩ (c_X12_isIn (l := l) (D := D) (b := b) (M := M) (cI := cI) (cL := cL) hc19) (va_cwS 3 hts gX12_readsDigits_X12_isIn rfl rfl rfl (by decide +kernel) ⟨Nat.le_of_ble_eq_true rfl, Nat.le_of_ble_eq_true rfl⟩) (gp_preS hKn hG) rfl rfl hl.1 rfl (lv_room (Nat.le_of_ble_eq_true rfl)) dX12_readsDigits_19 ⟨Nat.le_of_ble_eq_true rfl, Nat.le_of_ble_eq_true rfl⟩) hS (fun H locs hG hS => ?_)
      refine lv_if_ne (tgt := 27) hx hb dX12_readsDigits_22 (by decide) (fun c22 => ?_) (fun c22 => ?_)
      · have hf := gb_f c22 hf
        refine lv_bipush (v := 10) hx hb dX12_readsDigits_27 (by decide) ?_
        refine lv_iload_n hx hb dX12_readsDigits_29 rfl (lv_at hl 3 rfl) ?_
        refine lv_imul hx hb dX12_readsDigits_30 ?_
        refine lv_aload_n hx hb dX12_readsDigits_31 rfl (lv_at hl 0 rfl) ?_
        obtain ⟨o32, hc32, hf⟩ := gb_b hf
        refine gp_callI (va_runV (As := []) (rest := [.int (10 * v3)]) ⟨hx, hb, hml, hown, hts⟩ (c_X12_signAt (l := l) (D := D) (b := b) (M := M) (cI := cI) (cL := cL) hc32) (cwV 0 hts gX12_readsDigits_X12_signAt rfl rfl rfl (by decide +kernel) ⟨Nat.le_of_ble_eq_true rfl, Nat.le_of_ble_eq_true rfl⟩) (gp_preV hKn hG mg_o rfl) rfl rfl hl.1 rfl (lv_room (Nat.le_of_ble_eq_true rfl)) dX12_readsDigits_32 ⟨Nat.le_of_ble_eq_true rfl, Nat.le_of_ble_eq_true rfl⟩) hS (fun H locs hG hS => ?_)
        refine lv_iadd hx hb dX12_readsDigits_35 ?_
        refine lv_bipush (v := 48) hx hb dX12_readsDigits_36 (by decide) ?_
        refine lv_isub hx hb dX12_readsDigits_38 ?_
        refine lv_istore_n (lv' := [(3, .int (((10 * v3) + o32) - 48)), (0, .ref h0), (1, .int v1), (2, .int v2), (4, .int v4)]) hx hb dX12_readsDigits_39 rfl hl (by decide) rfl (fun ls hl => ?_)
        refine lv_aload_n hx hb dX12_readsDigits_40 rfl (lv_at hl 1 rfl) ?_
        refine lv_dup hx hb dX12_readsDigits_41 rfl ?_
        refine gp_get (v := .int i_at) (C := RX12) (T := TX12) (N := 33) (ci := 10) hx hb hts hin hown hK hG mg_o rfl 19 (by decide) (hts _ (List.mem_of_getElem? (i := 1) rfl)) (fun _ h9 => h9) rfl dX12_readsDigits_42 ?_
        refine lv_iconst (v := 1) hx hb dX12_readsDigits_45 (by decide) ?_
        refine lv_iadd hx hb dX12_readsDigits_46 ?_
        refine gp_put (v := .int (i_at + 1)) (tyk := .int) (C := RX12) (T := TX12) (N := 33) (ci := 10) hx hb hts hin tyX12 tyX12_ok nmX12 hown hK hG hS mg_o rfl 19 (by decide) (hts _ (List.mem_of_getElem? (i := 1) rfl)) (fun _ h9 => h9) rfl rfl rfl rfl (Nat.le_of_ble_eq_true rfl) mu_at dX12_readsDigits_47 (fun H locs hG hS => ?_)
        refine lv_iinc (v := v4 + 1) (lv' := [(4, .int (v4 + 1)), (3, .int (((10 * v3) + o32) - 48)), (0, .ref h0), (1, .int v1), (2, .int v2)]) hx hb dX12_readsDigits_50 hl (k := 4) rfl rfl (by decide) rfl (fun ls hl => ?_)
        refine lv_goto (tgt := 5) hx hb dX12_readsDigits_53 (by decide) ?_
        exact ih _ _ _ hf hk25 hk56 _ _ _ hG hS (lv_sub hl [2, 3, 4, 1, 0] rfl)
      · have hf := gb_t c22 hf
        exact hk25 _ hf _ _ _ hG hS (lv_sub hl [] rfl)
set_option maxHeartbeats 4000000 in
set_option maxRecDepth 100000 in
theorem c_X12_readsDigits {v1 : Int32} {v2 : Int32} {R : Int32 × (Nat → Int32) × Int32} (hf : f_X12_readsDigits a_tape a_told i_taped i_at v1 v2 = some R) : Met l yX12_readsDigits wsX12_readsDigits rm_X12_readsDigits (va_Pc [.ref h0, .int v1, .int v2] (gPre D b M (mg cI h0 a_refused a_isWall a_kind a_lampCell a_range a_lit a_scenes a_who a_cell a_minuteOf a_standsAt i_lampMany i_people i_minute a_tape a_letter a_letterAt a_told i_taped i_at i_statements a_kept i_hasImage i_isKeeping i_cursor a_far a_shut a_queue i_queued a_litBy a_may a_row i_rowMany g0) (gTy cI cL))) (gQ D b (some (.int R.1)) M (mg cI h0 a_refused a_isWall a_kind a_lampCell a_range a_lit a_scenes a_who a_cell a_minuteOf a_standsAt i_lampMany i_people i_minute a_tape a_letter a_letterAt R.2.1 i_taped R.2.2 i_statements a_kept i_hasImage i_isKeeping i_cursor a_far a_shut a_queue i_queued a_litBy a_may a_row i_rowMany g0)) 0 0 (gA b) := by
  refine gp_met (cc := cX12_readsDigits) (maxL := 5) (ret := (some .boolean)) (by decide) rfl (Nat.le_of_ble_eq_true rfl) ?_
  intro p e s m below meth c X ls hG hl
  have hS : va_S (gA b) s.heap s.heap [] := va_S.rf
  obtain ⟨H, hH0⟩ : ∃ H : Heap, H = s.heap := ⟨_, rfl⟩
  rw [← hH0] at hG ⊢
  have hS : va_S (gA b) s.heap H [] := by rw [hH0]; exact va_S.rf
  obtain ⟨locs, hlo⟩ : ∃ z : List Loc, z = [] := ⟨_, rfl⟩
  rw [← hlo] at hS ⊢
  unfold f_X12_readsDigits at hf
  obtain ⟨hx, hb, hr, hml, hown, hts, hlocks, hKn, hBs⟩ := id X
  have hK := hKn.1
  have hin : ∀ w ∈ wsX120, w ∈ wsX12_readsDigits := fun w h => List.mem_cons_of_mem _ (List.mem_append_right _ h)
  have hl : lv_has ls 5 [(0, .ref h0), (1, .int v1), (2, .int v2)] := hl
  refine lv_iconst (v := 0) hx hb dX12_readsDigits_0 (by decide) ?_
  refine lv_istore_n (lv' := [(3, .int 0), (0, .ref h0), (1, .int v1), (2, .int v2)]) hx hb dX12_readsDigits_1 rfl hl (by decide) rfl (fun ls hl => ?_)
  refine lv_iconst (v := 0) hx hb dX12_readsDigits_2 (by decide) ?_
  refine lv_istore (lv' := [(4, .int 0), (3, .int 0), (0, .ref h0), (1, .int v1), (2, .int v2)]) hx hb dX12_readsDigits_3 hl (by decide) rfl (fun ls hl => ?_)
  refine w_X12_readsDigits_5 X _ _ _ _ hf (fun x5_25 hf H locs ls hG hS hl => ?_) (fun x5_56 hf H locs ls hG hS hl => ?_) _ _ _ hG hS (lv_sub hl [2, 3, 4, 1, 0] rfl)
  · refine lv_iconst (v := 0) hx hb dX12_readsDigits_25 (by decide) ?_
    have hf := Option.some.inj hf
    subst hf
    exact gp_retZ hx hb hr (Or.inl rfl) hlocks hG hS (Nat.le_refl _) (Nat.le_refl _) dX12_readsDigits_26
  · refine lv_aload_n hx hb dX12_readsDigits_56 rfl (lv_at hl 0 rfl) ?_
    refine gp_get (v := .ref (h0 + 15)) (C := RX12) (T := TX12) (N := 33) (ci := 10) hx hb hts hin hown hK hG mg_o rfl 17 (by decide) (hts _ (List.mem_of_getElem? (i := 2) rfl)) (fun _ h9 => h9) rfl dX12_readsDigits_57 ?_
    refine lv_iload_n hx hb dX12_readsDigits_60 rfl (lv_at hl 1 rfl) ?_
    refine lv_iload_n hx hb dX12_readsDigits_61 rfl (lv_at hl 2 rfl) ?_
    obtain ⟨b62, hf⟩ := gb_ix hf
    refine gp_iast hx hb hK hG hS mg_told b62 mu_told dX12_readsDigits_62 (fun H locs hG hS => ?_)
    refine lv_iconst (v := 1) hx hb dX12_readsDigits_63 (by decide) ?_
    have hf := Option.some.inj hf
    subst hf
    exact gp_retZ hx hb hr (Or.inr rfl) hlocks hG hS (Nat.le_refl _) (Nat.le_refl _) dX12_readsDigits_64
-- X12_kindOf
abbrev rm_X12_kindOf : Room := { frames := 0, cells := 0, slots := 0, locals := 0 }
set_option maxHeartbeats 4000000 in
set_option maxRecDepth 100000 in
theorem c_X12_kindOf {v0 : Int32} {R : Int32} (hf : f_X12_kindOf v0 = some R) : Met l yX12_kindOf wsX12_kindOf rm_X12_kindOf (va_Pc [.int v0] (gPre D b M (gh) (gTy cI cL))) (gQ D b (some (.int R)) M (gh)) 0 0 (gA b) := by
  refine gp_met (cc := cX12_kindOf) (maxL := 1) (ret := (some .int)) (by decide) rfl (Nat.le_of_ble_eq_true rfl) ?_
  intro p e s m below meth c X ls hG hl
  have hS : va_S (gA b) s.heap s.heap [] := va_S.rf
  obtain ⟨H, hH0⟩ : ∃ H : Heap, H = s.heap := ⟨_, rfl⟩
  rw [← hH0] at hG ⊢
  have hS : va_S (gA b) s.heap H [] := by rw [hH0]; exact va_S.rf
  obtain ⟨locs, hlo⟩ : ∃ z : List Loc, z = [] := ⟨_, rfl⟩
  rw [← hlo] at hS ⊢
  unfold f_X12_kindOf at hf
  obtain ⟨hx, hb, hr, hml, hown, hts, hlocks, hKn, hBs⟩ := id X
  have hK := hKn.1
  skip
  have hl : lv_has ls 1 [(0, .int v0)] := hl
  refine lv_iload_n hx hb dX12_kindOf_0 rfl (lv_at hl 0 rfl) ?_
  by_cases c1_99 : v0 = 99
  · have hf := gb_t c1_99 hf
    refine lv_tableIn (tgt := 74) (off := 73) hx hb dX12_kindOf_1 (by rw [c1_99]; decide) (by rw [c1_99]; decide) (by rw [c1_99]; rfl) (by decide) ?_
    refine lv_iconst (v := 3) hx hb dX12_kindOf_74 (by decide) ?_
    have hf := Option.some.inj hf
    subst hf
    exact gp_retI hx hb hr hlocks hG hS (Nat.le_refl _) (Nat.le_refl _) dX12_kindOf_75
  · have hf := gb_f c1_99 hf
    by_cases c1_100 : v0 = 100
    · have hf := gb_t c1_100 hf
      refine lv_tableIn (tgt := 70) (off := 69) hx hb dX12_kindOf_1 (by rw [c1_100]; decide) (by rw [c1_100]; decide) (by rw [c1_100]; rfl) (by decide) ?_
      refine lv_iconst (v := 1) hx hb dX12_kindOf_70 (by decide) ?_
      have hf := Option.some.inj hf
      subst hf
      exact gp_retI hx hb hr hlocks hG hS (Nat.le_refl _) (Nat.le_refl _) dX12_kindOf_71
    · have hf := gb_f c1_100 hf
      by_cases c1_102 : v0 = 102
      · have hf := gb_t c1_102 hf
        refine lv_tableIn (tgt := 80) (off := 79) hx hb dX12_kindOf_1 (by rw [c1_102]; decide) (by rw [c1_102]; decide) (by rw [c1_102]; rfl) (by decide) ?_
        refine lv_bipush (v := 6) hx hb dX12_kindOf_80 (by decide) ?_
        have hf := Option.some.inj hf
        subst hf
        exact gp_retI hx hb hr hlocks hG hS (Nat.le_refl _) (Nat.le_refl _) dX12_kindOf_82
      · have hf := gb_f c1_102 hf
        by_cases c1_107 : v0 = 107
        · have hf := gb_t c1_107 hf
          refine lv_tableIn (tgt := 76) (off := 75) hx hb dX12_kindOf_1 (by rw [c1_107]; decide) (by rw [c1_107]; decide) (by rw [c1_107]; rfl) (by decide) ?_
          refine lv_iconst (v := 4) hx hb dX12_kindOf_76 (by decide) ?_
          have hf := Option.some.inj hf
          subst hf
          exact gp_retI hx hb hr hlocks hG hS (Nat.le_refl _) (Nat.le_refl _) dX12_kindOf_77
        · have hf := gb_f c1_107 hf
          by_cases c1_108 : v0 = 108
          · have hf := gb_t c1_108 hf
            refine lv_tableIn (tgt := 68) (off := 67) hx hb dX12_kindOf_1 (by rw [c1_108]; decide) (by rw [c1_108]; decide) (by rw [c1_108]; rfl) (by decide) ?_
            refine lv_iconst (v := 0) hx hb dX12_kindOf_68 (by decide) ?_
            have hf := Option.some.inj hf
            subst hf
            exact gp_retI hx hb hr hlocks hG hS (Nat.le_refl _) (Nat.le_refl _) dX12_kindOf_69
          · have hf := gb_f c1_108 hf
            by_cases c1_109 : v0 = 109
            · have hf := gb_t c1_109 hf
              refine lv_tableIn (tgt := 72) (off := 71) hx hb dX12_kindOf_1 (by rw [c1_109]; decide) (by rw [c1_109]; decide) (by rw [c1_109]; rfl) (by decide) ?_
              refine lv_iconst (v := 2) hx hb dX12_kindOf_72 (by decide) ?_
              have hf := Option.some.inj hf
              subst hf
              exact gp_retI hx hb hr hlocks hG hS (Nat.le_refl _) (Nat.le_refl _) dX12_kindOf_73
            · have hf := gb_f c1_109 hf
              by_cases c1_111 : v0 = 111
              · have hf := gb_t c1_111 hf
                refine lv_tableIn (tgt := 78) (off := 77) hx hb dX12_kindOf_1 (by rw [c1_111]; decide) (by rw [c1_111]; decide) (by rw [c1_111]; rfl) (by decide) ?_
                refine lv_iconst (v := 5) hx hb dX12_kindOf_78 (by decide) ?_
                have hf := Option.some.inj hf
                subst hf
                exact gp_retI hx hb hr hlocks hG hS (Nat.le_refl _) (Nat.le_refl _) dX12_kindOf_79
              · have hf := gb_f c1_111 hf
                have hD1 : W p l e rm_X12_kindOf s m [.int v0].toArray below meth c H locs 0 0 (MQ below (gQ D b (some (.int R)) M (gh)) [.int v0].toArray s 0 0 (gA b)) (F0 m 83 ls []) := by
                  refine lv_iconst (v := (-1 : Int32)) hx hb dX12_kindOf_83 (by decide) ?_
                  have hf := Option.some.inj hf
                  subst hf
                  exact gp_retI hx hb hr hlocks hG hS (Nat.le_refl _) (Nat.le_refl _) dX12_kindOf_84
                by_cases e1_101 : v0 = 101
                · exact lv_tableIn (tgt := 83) (off := 82) hx hb dX12_kindOf_1 (by rw [e1_101]; decide) (by rw [e1_101]; decide) (by rw [e1_101]; rfl) (by decide) hD1
                by_cases e1_103 : v0 = 103
                · exact lv_tableIn (tgt := 83) (off := 82) hx hb dX12_kindOf_1 (by rw [e1_103]; decide) (by rw [e1_103]; decide) (by rw [e1_103]; rfl) (by decide) hD1
                by_cases e1_104 : v0 = 104
                · exact lv_tableIn (tgt := 83) (off := 82) hx hb dX12_kindOf_1 (by rw [e1_104]; decide) (by rw [e1_104]; decide) (by rw [e1_104]; rfl) (by decide) hD1
                by_cases e1_105 : v0 = 105
                · exact lv_tableIn (tgt := 83) (off := 82) hx hb dX12_kindOf_1 (by rw [e1_105]; decide) (by rw [e1_105]; decide) (by rw [e1_105]; rfl) (by decide) hD1
                by_cases e1_106 : v0 = 106
                · exact lv_tableIn (tgt := 83) (off := 82) hx hb dX12_kindOf_1 (by rw [e1_106]; decide) (by rw [e1_106]; decide) (by rw [e1_106]; rfl) (by decide) hD1
                by_cases e1_110 : v0 = 110
                · exact lv_tableIn (tgt := 83) (off := 82) hx hb dX12_kindOf_1 (by rw [e1_110]; decide) (by rw [e1_110]; decide) (by rw [e1_110]; rfl) (by decide) hD1
                have ho1 : (v0).toInt < 99 ∨ 111 < (v0).toInt := by
                  have q : ∀ k : Int32, ¬ v0 = k → ¬ (v0).toInt = k.toInt := fun k hk h => hk (Int32.toInt_inj.mp h)
                  have q0 := q 99 c1_99; rw [show (99 : Int32).toInt = 99 from rfl] at q0
                  have q1 := q 100 c1_100; rw [show (100 : Int32).toInt = 100 from rfl] at q1
                  have q2 := q 101 e1_101; rw [show (101 : Int32).toInt = 101 from rfl] at q2
                  have q3 := q 102 c1_102; rw [show (102 : Int32).toInt = 102 from rfl] at q3
                  have q4 := q 103 e1_103; rw [show (103 : Int32).toInt = 103 from rfl] at q4
                  have q5 := q 104 e1_104; rw [show (104 : Int32).toInt = 104 from rfl] at q5
                  have q6 := q 105 e1_105; rw [show (105 : Int32).toInt = 105 from rfl] at q6
                  have q7 := q 106 e1_106; rw [show (106 : Int32).toInt = 106 from rfl] at q7
                  have q8 := q 107 c1_107; rw [show (107 : Int32).toInt = 107 from rfl] at q8
                  have q9 := q 108 c1_108; rw [show (108 : Int32).toInt = 108 from rfl] at q9
                  have q10 := q 109 c1_109; rw [show (109 : Int32).toInt = 109 from rfl] at q10
                  have q11 := q 110 e1_110; rw [show (110 : Int32).toInt = 110 from rfl] at q11
                  have q12 := q 111 c1_111; rw [show (111 : Int32).toInt = 111 from rfl] at q12
                  omega
                exact lv_tableOut (tgt := 83) hx hb dX12_kindOf_1 ho1 (by decide) hD1
-- X12_readsLamp
abbrev rm_X12_readsLamp : Room := { frames := 2, cells := 0, slots := 0, locals := 46 }
set_option maxHeartbeats 4000000 in
set_option maxRecDepth 100000 in
theorem c_X12_readsLamp {v1 : Int32} {R : Int32 × (Nat → Int32) × Int32} (hf : f_X12_readsLamp a_tape a_told i_taped i_at v1 = some R) : Met l yX12_readsLamp wsX12_readsLamp rm_X12_readsLamp (va_Pc [.ref h0, .int v1] (gPre D b M (mg cI h0 a_refused a_isWall a_kind a_lampCell a_range a_lit a_scenes a_who a_cell a_minuteOf a_standsAt i_lampMany i_people i_minute a_tape a_letter a_letterAt a_told i_taped i_at i_statements a_kept i_hasImage i_isKeeping i_cursor a_far a_shut a_queue i_queued a_litBy a_may a_row i_rowMany g0) (gTy cI cL))) (gQ D b (some (.int R.1)) M (mg cI h0 a_refused a_isWall a_kind a_lampCell a_range a_lit a_scenes a_who a_cell a_minuteOf a_standsAt i_lampMany i_people i_minute a_tape a_letter a_letterAt R.2.1 i_taped R.2.2 i_statements a_kept i_hasImage i_isKeeping i_cursor a_far a_shut a_queue i_queued a_litBy a_may a_row i_rowMany g0)) 0 0 (gA b) := by
  refine gp_met (cc := cX12_readsLamp) (maxL := 2) (ret := (some .boolean)) (by decide) rfl (Nat.le_of_ble_eq_true rfl) ?_
  intro p e s m below meth c X ls hG hl
  have hS : va_S (gA b) s.heap s.heap [] := va_S.rf
  obtain ⟨H, hH0⟩ : ∃ H : Heap, H = s.heap := ⟨_, rfl⟩
  rw [← hH0] at hG ⊢
  have hS : va_S (gA b) s.heap H [] := by rw [hH0]; exact va_S.rf
  obtain ⟨locs, hlo⟩ : ∃ z : List Loc, z = [] := ⟨_, rfl⟩
  rw [← hlo] at hS ⊢
  unfold f_X12_readsLamp at hf
  obtain ⟨hx, hb, hr, hml, hown, hts, hlocks, hKn, hBs⟩ := id X
  have hK := hKn.1
  have hin : ∀ w ∈ wsX120, w ∈ wsX12_readsLamp := fun w h => List.mem_cons_of_mem _ (List.mem_append_right _ h)
  have hl : lv_has ls 2 [(0, .ref h0), (1, .int v1)] := hl
  refine lv_aload_n hx hb dX12_readsLamp_0 rfl (lv_at hl 0 rfl) ?_
  refine gp_get (v := .ref (h0 + 15)) (C := RX12) (T := TX12) (N := 33) (ci := 10) hx hb hts hin hown hK hG mg_o rfl 17 (by decide) (hts _ (List.mem_of_getElem? (i := 1) rfl)) (fun _ h9 => h9) rfl dX12_readsLamp_1 ?_
  refine lv_iload_n hx hb dX12_readsLamp_4 rfl (lv_at hl 1 rfl) ?_
  refine lv_aload_n hx hb dX12_readsLamp_5 rfl (lv_at hl 0 rfl) ?_
  obtain ⟨o6, hc6, hf⟩ := gb_b hf
  refine gp_callI (va_runV (As := []) (rest := [.int v1, .ref (h0 + 15)]) ⟨hx, hb, hml, hown, hts⟩ (c_X12_signAt (l := l) (D := D) (b := b) (M := M) (cI := cI) (cL := cL) hc6) (cwV 0 hts gX12_readsLamp_X12_signAt rfl rfl rfl (by decide +kernel) ⟨Nat.le_of_ble_eq_true rfl, Nat.le_of_ble_eq_true rfl⟩) (gp_preV hKn hG mg_o rfl) rfl rfl hl.1 rfl (lv_room (Nat.le_of_ble_eq_true rfl)) dX12_readsLamp_6 ⟨Nat.le_of_ble_eq_true rfl, Nat.le_of_ble_eq_true rfl⟩) hS (fun H locs hG hS => ?_)
  obtain ⟨o9, hc9, hf⟩ := gb_b hf
  refine gp_callI (va_runS (As := [.int o6]) (rest := [.int v1, .ref (h0 + 15)]) ⟨hx, hb, hml, hown, hts⟩ (c_X12_kindOf (l := l) (D := D) (b := b) (M := M) (cI := cI) (cL := cL) hc9) (va_cwS 1 hts gX12_readsLamp_X12_kindOf rfl rfl rfl (by decide +kernel) ⟨Nat.le_of_ble_eq_true rfl, Nat.le_of_ble_eq_true rfl⟩) (gp_preS hKn hG) rfl rfl hl.1 rfl (lv_room (Nat.le_of_ble_eq_true rfl)) dX12_readsLamp_9 ⟨Nat.le_of_ble_eq_true rfl, Nat.le_of_ble_eq_true rfl⟩) hS (fun H locs hG hS => ?_)
  obtain ⟨b12, hf⟩ := gb_ix hf
  refine gp_iast hx hb hK hG hS mg_told b12 mu_told dX12_readsLamp_12 (fun H locs hG hS => ?_)
  refine lv_aload_n hx hb dX12_readsLamp_13 rfl (lv_at hl 0 rfl) ?_
  refine gp_get (v := .ref (h0 + 15)) (C := RX12) (T := TX12) (N := 33) (ci := 10) hx hb hts hin hown hK hG mg_o rfl 17 (by decide) (hts _ (List.mem_of_getElem? (i := 1) rfl)) (fun _ h9 => h9) rfl dX12_readsLamp_14 ?_
  refine lv_iload_n hx hb dX12_readsLamp_17 rfl (lv_at hl 1 rfl) ?_
  obtain ⟨b18, hf⟩ := gb_ix hf
  refine gp_iald hx hb hK hG mg_told b18 dX12_readsLamp_18 ?_
  refine lv_if_ge (tgt := 24) hx hb dX12_readsLamp_19 (by decide) (fun c19 => ?_) (fun c19 => ?_)
  · have hf := gb_t c19 hf
    refine lv_aload_n hx hb dX12_readsLamp_24 rfl (lv_at hl 0 rfl) ?_
    refine lv_dup hx hb dX12_readsLamp_25 rfl ?_
    refine gp_get (v := .int i_at) (C := RX12) (T := TX12) (N := 33) (ci := 10) hx hb hts hin hown hK hG mg_o rfl 19 (by decide) (hts _ (List.mem_of_getElem? (i := 2) rfl)) (fun _ h9 => h9) rfl dX12_readsLamp_26 ?_
    refine lv_iconst (v := 1) hx hb dX12_readsLamp_29 (by decide) ?_
    refine lv_iadd hx hb dX12_readsLamp_30 ?_
    refine gp_put (v := .int (i_at + 1)) (tyk := .int) (C := RX12) (T := TX12) (N := 33) (ci := 10) hx hb hts hin tyX12 tyX12_ok nmX12 hown hK hG hS mg_o rfl 19 (by decide) (hts _ (List.mem_of_getElem? (i := 2) rfl)) (fun _ h9 => h9) rfl rfl rfl rfl (Nat.le_of_ble_eq_true rfl) mu_at dX12_readsLamp_31 (fun H locs hG hS => ?_)
    refine lv_aload_n hx hb dX12_readsLamp_34 rfl (lv_at hl 0 rfl) ?_
    refine lv_iload_n hx hb dX12_readsLamp_35 rfl (lv_at hl 1 rfl) ?_
    refine lv_iconst (v := 1) hx hb dX12_readsLamp_36 (by decide) ?_
    refine lv_iadd hx hb dX12_readsLamp_37 ?_
    refine lv_iconst (v := 2) hx hb dX12_readsLamp_38 (by decide) ?_
    obtain ⟨o39, hc39, hf⟩ := gb_b hf
    refine gp_callI (va_runV (As := [.int (v1 + 1), .int 2]) (rest := []) ⟨hx, hb, hml, hown, hts⟩ (c_X12_readsDigits (l := l) (D := D) (b := b) (M := M) (cI := cI) (cL := cL) hc39) (cwV 2 hts gX12_readsLamp_X12_readsDigits rfl rfl rfl (by decide +kernel) ⟨Nat.le_of_ble_eq_true rfl, Nat.le_of_ble_eq_true rfl⟩) (gp_preV hKn hG mg_o rfl) rfl rfl hl.1 rfl (lv_room (Nat.le_of_ble_eq_true rfl)) dX12_readsLamp_39 ⟨Nat.le_of_ble_eq_true rfl, Nat.le_of_ble_eq_true rfl⟩) hS (fun H locs hG hS => ?_)
    obtain ⟨j42, hj42, hf⟩ := gb_b hf
    have hJ42 : ∀ (H : Heap) (locs : List Loc) (ls : Array Slot), GP D b M (mg cI h0 a_refused a_isWall a_kind a_lampCell a_range a_lit a_scenes a_who a_cell a_minuteOf a_standsAt i_lampMany i_people i_minute a_tape a_letter a_letterAt j42.2.1 i_taped j42.2.2 i_statements a_kept i_hasImage i_isKeeping i_cursor a_far a_shut a_queue i_queued a_litBy a_may a_row i_rowMany g0) H → va_S (gA b) s.heap H locs → lv_has ls 2 [] → W p l e rm_X12_readsLamp s m [.ref h0, .int v1].toArray below meth c H locs 0 0 (MQ below (gQ D b (some (.int R.1)) M (mg cI h0 a_refused a_isWall a_kind a_lampCell a_range a_lit a_scenes a_who a_cell a_minuteOf a_standsAt i_lampMany i_people i_minute a_tape a_letter a_letterAt R.2.1 i_taped R.2.2 i_statements a_kept i_hasImage i_isKeeping i_cursor a_far a_shut a_queue i_queued a_litBy a_may a_row i_rowMany g0)) [.ref h0, .int v1].toArray s 0 0 (gA b)) (F0 m 61 ls [.int j42.1]) := by
      intro H locs ls hG hS hl
      obtain ⟨z61, hf⟩ := gb_zb hf
      have hf := Option.some.inj hf
      subst hf
      exact gp_retZ hx hb hr z61 hlocks hG hS (Nat.le_refl _) (Nat.le_refl _) dX12_readsLamp_61
    refine lv_if_eq (tgt := 60) hx hb dX12_readsLamp_42 (by decide) (fun c42 => ?_) (fun c42 => ?_)
    · have hj42 := gb_t c42 hj42
      refine lv_iconst (v := 0) hx hb dX12_readsLamp_60 (by decide) ?_
      have hj42 := Option.some.inj hj42
      subst hj42
      exact hJ42 H locs ls hG hS (lv_sub hl [] rfl)
    · have hj42 := gb_f c42 hj42
      refine lv_aload_n hx hb dX12_readsLamp_45 rfl (lv_at hl 0 rfl) ?_
      refine lv_iload_n hx hb dX12_readsLamp_46 rfl (lv_at hl 1 rfl) ?_
      refine lv_iconst (v := 2) hx hb dX12_readsLamp_47 (by decide) ?_
      refine lv_iadd hx hb dX12_readsLamp_48 ?_
      refine lv_iconst (v := 1) hx hb dX12_readsLamp_49 (by decide) ?_
      obtain ⟨o50, hc50, hj42⟩ := gb_b hj42
      refine gp_callI (va_runV (As := [.int (v1 + 2), .int 1]) (rest := []) ⟨hx, hb, hml, hown, hts⟩ (c_X12_readsDigits (l := l) (D := D) (b := b) (M := M) (cI := cI) (cL := cL) hc50) (cwV 2 hts gX12_readsLamp_X12_readsDigits rfl rfl rfl (by decide +kernel) ⟨Nat.le_of_ble_eq_true rfl, Nat.le_of_ble_eq_true rfl⟩) (gp_preV hKn hG mg_o rfl) rfl rfl hl.1 rfl (lv_room (Nat.le_of_ble_eq_true rfl)) dX12_readsLamp_50 ⟨Nat.le_of_ble_eq_true rfl, Nat.le_of_ble_eq_true rfl⟩) hS (fun H locs hG hS => ?_)
      refine lv_if_eq (tgt := 60) hx hb dX12_readsLamp_53 (by decide) (fun c53 => ?_) (fun c53 => ?_)
      · have hj42 := gb_t c53 hj42
        refine lv_iconst (v := 0) hx hb dX12_readsLamp_60 (by decide) ?_
        have hj42 := Option.some.inj hj42
        subst hj42
        exact hJ42 H locs ls hG hS (lv_sub hl [] rfl)
      · have hj42 := gb_f c53 hj42
        refine lv_iconst (v := 1) hx hb dX12_readsLamp_56 (by decide) ?_
        refine lv_goto (tgt := 61) hx hb dX12_readsLamp_57 (by decide) ?_
        have hj42 := Option.some.inj hj42
        subst hj42
        exact hJ42 H locs ls hG hS (lv_sub hl [] rfl)
  · have hf := gb_f c19 hf
    refine lv_iconst (v := 0) hx hb dX12_readsLamp_22 (by decide) ?_
    have hf := Option.some.inj hf
    subst hf
    exact gp_retZ hx hb hr (Or.inl rfl) hlocks hG hS (Nat.le_refl _) (Nat.le_refl _) dX12_readsLamp_23
-- X12_readsAll
abbrev rm_X12_readsAll : Room := { frames := 3, cells := 0, slots := 0, locals := 67 }
set_option maxHeartbeats 4000000 in
set_option maxRecDepth 100000 in
theorem c_X12_readsAll {v1 : Int32} {v2 : Int32} {R : Int32 × (Nat → Int32) × Int32} (hf : f_X12_readsAll a_tape a_told i_taped i_at v1 v2 = some R) : Met l yX12_readsAll wsX12_readsAll rm_X12_readsAll (va_Pc [.ref h0, .int v1, .int v2] (gPre D b M (mg cI h0 a_refused a_isWall a_kind a_lampCell a_range a_lit a_scenes a_who a_cell a_minuteOf a_standsAt i_lampMany i_people i_minute a_tape a_letter a_letterAt a_told i_taped i_at i_statements a_kept i_hasImage i_isKeeping i_cursor a_far a_shut a_queue i_queued a_litBy a_may a_row i_rowMany g0) (gTy cI cL))) (gQ D b (some (.int R.1)) M (mg cI h0 a_refused a_isWall a_kind a_lampCell a_range a_lit a_scenes a_who a_cell a_minuteOf a_standsAt i_lampMany i_people i_minute a_tape a_letter a_letterAt R.2.1 i_taped R.2.2 i_statements a_kept i_hasImage i_isKeeping i_cursor a_far a_shut a_queue i_queued a_litBy a_may a_row i_rowMany g0)) 0 0 (gA b) := by
  refine gp_met (cc := cX12_readsAll) (maxL := 3) (ret := (some .boolean)) (by decide) rfl (Nat.le_of_ble_eq_true rfl) ?_
  intro p e s m below meth c X ls hG hl
  have hS : va_S (gA b) s.heap s.heap [] := va_S.rf
  obtain ⟨H, hH0⟩ : ∃ H : Heap, H = s.heap := ⟨_, rfl⟩
  rw [← hH0] at hG ⊢
  have hS : va_S (gA b) s.heap H [] := by rw [hH0]; exact va_S.rf
  obtain ⟨locs, hlo⟩ : ∃ z : List Loc, z = [] := ⟨_, rfl⟩
  rw [← hlo] at hS ⊢
  unfold f_X12_readsAll at hf
  obtain ⟨hx, hb, hr, hml, hown, hts, hlocks, hKn, hBs⟩ := id X
  have hK := hKn.1
  have hin : ∀ w ∈ wsX120, w ∈ wsX12_readsAll := fun w h => List.mem_cons_of_mem _ (List.mem_append_right _ h)
  have hl : lv_has ls 3 [(0, .ref h0), (1, .int v1), (2, .int v2)] := hl
  refine lv_iload_n hx hb dX12_readsAll_0 rfl (lv_at hl 1 rfl) ?_
  by_cases c1_103 : v1 = 103
  · have hf := gb_t c1_103 hf
    refine lv_lookup (tgt := 57) (off := 56) hx hb dX12_readsAll_1 (by decide) (by rw [c1_103]; decide) (by decide) ?_
    refine lv_aload_n hx hb dX12_readsAll_57 rfl (lv_at hl 0 rfl) ?_
    refine lv_iload_n hx hb dX12_readsAll_58 rfl (lv_at hl 2 rfl) ?_
    refine lv_iconst (v := 1) hx hb dX12_readsAll_59 (by decide) ?_
    obtain ⟨o60, hc60, hf⟩ := gb_b hf
    refine gp_callI (va_runV (As := [.int v2, .int 1]) (rest := []) ⟨hx, hb, hml, hown, hts⟩ (c_X12_readsDigits (l := l) (D := D) (b := b) (M := M) (cI := cI) (cL := cL) hc60) (cwV 2 hts gX12_readsAll_X12_readsDigits rfl rfl rfl (by decide +kernel) ⟨Nat.le_of_ble_eq_true rfl, Nat.le_of_ble_eq_true rfl⟩) (gp_preV hKn hG mg_o rfl) rfl rfl hl.1 rfl (lv_room (Nat.le_of_ble_eq_true rfl)) dX12_readsAll_60 ⟨Nat.le_of_ble_eq_true rfl, Nat.le_of_ble_eq_true rfl⟩) hS (fun H locs hG hS => ?_)
    obtain ⟨j63, hj63, hf⟩ := gb_b hf
    have hJ63 : ∀ (H : Heap) (locs : List Loc) (ls : Array Slot), GP D b M (mg cI h0 a_refused a_isWall a_kind a_lampCell a_range a_lit a_scenes a_who a_cell a_minuteOf a_standsAt i_lampMany i_people i_minute a_tape a_letter a_letterAt j63.2.1 i_taped j63.2.2 i_statements a_kept i_hasImage i_isKeeping i_cursor a_far a_shut a_queue i_queued a_litBy a_may a_row i_rowMany g0) H → va_S (gA b) s.heap H locs → lv_has ls 3 [] → W p l e rm_X12_readsAll s m [.ref h0, .int v1, .int v2].toArray below meth c H locs 0 0 (MQ below (gQ D b (some (.int R.1)) M (mg cI h0 a_refused a_isWall a_kind a_lampCell a_range a_lit a_scenes a_who a_cell a_minuteOf a_standsAt i_lampMany i_people i_minute a_tape a_letter a_letterAt R.2.1 i_taped R.2.2 i_statements a_kept i_hasImage i_isKeeping i_cursor a_far a_shut a_queue i_queued a_litBy a_may a_row i_rowMany g0)) [.ref h0, .int v1, .int v2].toArray s 0 0 (gA b)) (F0 m 82 ls [.int j63.1]) := by
      intro H locs ls hG hS hl
      obtain ⟨z82, hf⟩ := gb_zb hf
      have hf := Option.some.inj hf
      subst hf
      exact gp_retZ hx hb hr z82 hlocks hG hS (Nat.le_refl _) (Nat.le_refl _) dX12_readsAll_82
    refine lv_if_eq (tgt := 81) hx hb dX12_readsAll_63 (by decide) (fun c63 => ?_) (fun c63 => ?_)
    · have hj63 := gb_t c63 hj63
      refine lv_iconst (v := 0) hx hb dX12_readsAll_81 (by decide) ?_
      have hj63 := Option.some.inj hj63
      subst hj63
      exact hJ63 H locs ls hG hS (lv_sub hl [] rfl)
    · have hj63 := gb_f c63 hj63
      refine lv_aload_n hx hb dX12_readsAll_66 rfl (lv_at hl 0 rfl) ?_
      refine lv_iload_n hx hb dX12_readsAll_67 rfl (lv_at hl 2 rfl) ?_
      refine lv_iconst (v := 1) hx hb dX12_readsAll_68 (by decide) ?_
      refine lv_iadd hx hb dX12_readsAll_69 ?_
      refine lv_iconst (v := 2) hx hb dX12_readsAll_70 (by decide) ?_
      obtain ⟨o71, hc71, hj63⟩ := gb_b hj63
      refine gp_callI (va_runV (As := [.int (v2 + 1), .int 2]) (rest := []) ⟨hx, hb, hml, hown, hts⟩ (c_X12_readsDigits (l := l) (D := D) (b := b) (M := M) (cI := cI) (cL := cL) hc71) (cwV 2 hts gX12_readsAll_X12_readsDigits rfl rfl rfl (by decide +kernel) ⟨Nat.le_of_ble_eq_true rfl, Nat.le_of_ble_eq_true rfl⟩) (gp_preV hKn hG mg_o rfl) rfl rfl hl.1 rfl (lv_room (Nat.le_of_ble_eq_true rfl)) dX12_readsAll_71 ⟨Nat.le_of_ble_eq_true rfl, Nat.le_of_ble_eq_true rfl⟩) hS (fun H locs hG hS => ?_)
      refine lv_if_eq (tgt := 81) hx hb dX12_readsAll_74 (by decide) (fun c74 => ?_) (fun c74 => ?_)
      · have hj63 := gb_t c74 hj63
        refine lv_iconst (v := 0) hx hb dX12_readsAll_81 (by decide) ?_
        have hj63 := Option.some.inj hj63
        subst hj63
        exact hJ63 H locs ls hG hS (lv_sub hl [] rfl)
      · have hj63 := gb_f c74 hj63
        refine lv_iconst (v := 1) hx hb dX12_readsAll_77 (by decide) ?_
        refine lv_goto (tgt := 82) hx hb dX12_readsAll_78 (by decide) ?_
        have hj63 := Option.some.inj hj63
        subst hj63
        exact hJ63 H locs ls hG hS (lv_sub hl [] rfl)
  · have hf := gb_f c1_103 hf
    by_cases c1_108 : v1 = 108
    · have hf := gb_t c1_108 hf
      refine lv_lookup (tgt := 44) (off := 43) hx hb dX12_readsAll_1 (by decide) (by rw [c1_108]; decide) (by decide) ?_
      refine lv_aload_n hx hb dX12_readsAll_44 rfl (lv_at hl 0 rfl) ?_
      refine lv_iload_n hx hb dX12_readsAll_45 rfl (lv_at hl 2 rfl) ?_
      obtain ⟨o46, hc46, hf⟩ := gb_b hf
      refine gp_callI (va_runV (As := [.int v2]) (rest := []) ⟨hx, hb, hml, hown, hts⟩ (c_X12_readsLamp (l := l) (D := D) (b := b) (M := M) (cI := cI) (cL := cL) hc46) (cwV 1 hts gX12_readsAll_X12_readsLamp rfl rfl rfl (by decide +kernel) ⟨Nat.le_of_ble_eq_true rfl, Nat.le_of_ble_eq_true rfl⟩) (gp_preV hKn hG mg_o rfl) rfl rfl hl.1 rfl (lv_room (Nat.le_of_ble_eq_true rfl)) dX12_readsAll_46 ⟨Nat.le_of_ble_eq_true rfl, Nat.le_of_ble_eq_true rfl⟩) hS (fun H locs hG hS => ?_)
      obtain ⟨z49, hf⟩ := gb_zb hf
      have hf := Option.some.inj hf
      subst hf
      exact gp_retZ hx hb hr z49 hlocks hG hS (Nat.le_refl _) (Nat.le_refl _) dX12_readsAll_49
    · have hf := gb_f c1_108 hf
      by_cases c1_112 : v1 = 112
      · have hf := gb_t c1_112 hf
        refine lv_lookup (tgt := 50) (off := 49) hx hb dX12_readsAll_1 (by decide) (by rw [c1_112]; decide) (by decide) ?_
        refine lv_aload_n hx hb dX12_readsAll_50 rfl (lv_at hl 0 rfl) ?_
        refine lv_iload_n hx hb dX12_readsAll_51 rfl (lv_at hl 2 rfl) ?_
        refine lv_iconst (v := 2) hx hb dX12_readsAll_52 (by decide) ?_
        obtain ⟨o53, hc53, hf⟩ := gb_b hf
        refine gp_callI (va_runV (As := [.int v2, .int 2]) (rest := []) ⟨hx, hb, hml, hown, hts⟩ (c_X12_readsDigits (l := l) (D := D) (b := b) (M := M) (cI := cI) (cL := cL) hc53) (cwV 2 hts gX12_readsAll_X12_readsDigits rfl rfl rfl (by decide +kernel) ⟨Nat.le_of_ble_eq_true rfl, Nat.le_of_ble_eq_true rfl⟩) (gp_preV hKn hG mg_o rfl) rfl rfl hl.1 rfl (lv_room (Nat.le_of_ble_eq_true rfl)) dX12_readsAll_53 ⟨Nat.le_of_ble_eq_true rfl, Nat.le_of_ble_eq_true rfl⟩) hS (fun H locs hG hS => ?_)
        obtain ⟨z56, hf⟩ := gb_zb hf
        have hf := Option.some.inj hf
        subst hf
        exact gp_retZ hx hb hr z56 hlocks hG hS (Nat.le_refl _) (Nat.le_refl _) dX12_readsAll_56
      · have hf := gb_f c1_112 hf
        by_cases c1_119 : v1 = 119
        · have hf := gb_t c1_119 hf
          refine lv_lookup (tgt := 50) (off := 49) hx hb dX12_readsAll_1 (by decide) (by rw [c1_119]; decide) (by decide) ?_
          refine lv_aload_n hx hb dX12_readsAll_50 rfl (lv_at hl 0 rfl) ?_
          refine lv_iload_n hx hb dX12_readsAll_51 rfl (lv_at hl 2 rfl) ?_
          refine lv_iconst (v := 2) hx hb dX12_readsAll_52 (by decide) ?_
          obtain ⟨o53, hc53, hf⟩ := gb_b hf
          refine gp_callI (va_runV (As := [.int v2, .int 2]) (rest := []) ⟨hx, hb, hml, hown, hts⟩ (c_X12_readsDigits (l := l) (D := D) (b := b) (M := M) (cI := cI) (cL := cL) hc53) (cwV 2 hts gX12_readsAll_X12_readsDigits rfl rfl rfl (by decide +kernel) ⟨Nat.le_of_ble_eq_true rfl, Nat.le_of_ble_eq_true rfl⟩) (gp_preV hKn hG mg_o rfl) rfl rfl hl.1 rfl (lv_room (Nat.le_of_ble_eq_true rfl)) dX12_readsAll_53 ⟨Nat.le_of_ble_eq_true rfl, Nat.le_of_ble_eq_true rfl⟩) hS (fun H locs hG hS => ?_)
          obtain ⟨z56, hf⟩ := gb_zb hf
          have hf := Option.some.inj hf
          subst hf
          exact gp_retZ hx hb hr z56 hlocks hG hS (Nat.le_refl _) (Nat.le_refl _) dX12_readsAll_56
        · have hf := gb_f c1_119 hf
          refine lv_lookup (tgt := 83) (off := 82) hx hb dX12_readsAll_1 (by decide) (by show Op.lookupswitch.offset [(103, 56), (108, 43), (112, 49), (119, 49)] _ _ = _; rw [lv_osw (k := 103) (a := 103) c1_103 rfl]; rw [lv_osw (k := 108) (a := 108) c1_108 rfl]; rw [lv_osw (k := 112) (a := 112) c1_112 rfl]; rw [lv_osw (k := 119) (a := 119) c1_119 rfl]; rfl) (by decide) ?_
          refine lv_aload_n hx hb dX12_readsAll_83 rfl (lv_at hl 0 rfl) ?_
          refine lv_iload_n hx hb dX12_readsAll_84 rfl (lv_at hl 2 rfl) ?_
          refine lv_iconst (v := 1) hx hb dX12_readsAll_85 (by decide) ?_
          obtain ⟨o86, hc86, hf⟩ := gb_b hf
          refine gp_callI (va_runV (As := [.int v2, .int 1]) (rest := []) ⟨hx, hb, hml, hown, hts⟩ (c_X12_readsDigits (l := l) (D := D) (b := b) (M := M) (cI := cI) (cL := cL) hc86) (cwV 2 hts gX12_readsAll_X12_readsDigits rfl rfl rfl (by decide +kernel) ⟨Nat.le_of_ble_eq_true rfl, Nat.le_of_ble_eq_true rfl⟩) (gp_preV hKn hG mg_o rfl) rfl rfl hl.1 rfl (lv_room (Nat.le_of_ble_eq_true rfl)) dX12_readsAll_86 ⟨Nat.le_of_ble_eq_true rfl, Nat.le_of_ble_eq_true rfl⟩) hS (fun H locs hG hS => ?_)
          obtain ⟨z89, hf⟩ := gb_zb hf
          have hf := Option.some.inj hf
          subst hf
          exact gp_retZ hx hb hr z89 hlocks hG hS (Nat.le_refl _) (Nat.le_refl _) dX12_readsAll_89
-- X12_statement
abbrev rm_X12_statement : Room := { frames := 4, cells := 0, slots := 0, locals := 89 }
set_option maxHeartbeats 4000000 in
set_option maxRecDepth 100000 in
theorem c_X12_statement {R : Int32 × (Nat → Int32) × (Nat → Int32) × (Nat → Int32) × Int32} (hf : f_X12_statement a_tape a_letter a_letterAt a_told i_taped i_at i_statements = some R) : Met l yX12_statement wsX12_statement rm_X12_statement (va_Pc [.ref h0] (gPre D b M (mg cI h0 a_refused a_isWall a_kind a_lampCell a_range a_lit a_scenes a_who a_cell a_minuteOf a_standsAt i_lampMany i_people i_minute a_tape a_letter a_letterAt a_told i_taped i_at i_statements a_kept i_hasImage i_isKeeping i_cursor a_far a_shut a_queue i_queued a_litBy a_may a_row i_rowMany g0) (gTy cI cL))) (gQ D b (some (.int R.1)) M (mg cI h0 a_refused a_isWall a_kind a_lampCell a_range a_lit a_scenes a_who a_cell a_minuteOf a_standsAt i_lampMany i_people i_minute a_tape R.2.1 R.2.2.1 R.2.2.2.1 i_taped R.2.2.2.2 i_statements a_kept i_hasImage i_isKeeping i_cursor a_far a_shut a_queue i_queued a_litBy a_may a_row i_rowMany g0)) 0 0 (gA b) := by
  refine gp_met (cc := cX12_statement) (maxL := 2) (ret := (some .boolean)) (by decide) rfl (Nat.le_of_ble_eq_true rfl) ?_
  intro p e s m below meth c X ls hG hl
  have hS : va_S (gA b) s.heap s.heap [] := va_S.rf
  obtain ⟨H, hH0⟩ : ∃ H : Heap, H = s.heap := ⟨_, rfl⟩
  rw [← hH0] at hG ⊢
  have hS : va_S (gA b) s.heap H [] := by rw [hH0]; exact va_S.rf
  obtain ⟨locs, hlo⟩ : ∃ z : List Loc, z = [] := ⟨_, rfl⟩
  rw [← hlo] at hS ⊢
  unfold f_X12_statement at hf
  obtain ⟨hx, hb, hr, hml, hown, hts, hlocks, hKn, hBs⟩ := id X
  have hK := hKn.1
  have hin : ∀ w ∈ wsX120, w ∈ wsX12_statement := fun w h => List.mem_cons_of_mem _ (List.mem_append_right _ h)
  have hl : lv_has ls 2 [(0, .ref h0)] := hl
  refine lv_aload_n hx hb dX12_statement_0 rfl (lv_at hl 0 rfl) ?_
  obtain ⟨o1, hc1, hf⟩ := gb_b hf
  refine gp_callI (va_runV (As := []) (rest := []) ⟨hx, hb, hml, hown, hts⟩ (c_X12_signAt (l := l) (D := D) (b := b) (M := M) (cI := cI) (cL := cL) hc1) (cwV 0 hts gX12_statement_X12_signAt rfl rfl rfl (by decide +kernel) ⟨Nat.le_of_ble_eq_true rfl, Nat.le_of_ble_eq_true rfl⟩) (gp_preV hKn hG mg_o rfl) rfl rfl hl.1 rfl (lv_room (Nat.le_of_ble_eq_true rfl)) dX12_statement_1 ⟨Nat.le_of_ble_eq_true rfl, Nat.le_of_ble_eq_true rfl⟩) hS (fun H locs hG hS => ?_)
  refine lv_istore_n (lv' := [(1, .int o1), (0, .ref h0)]) hx hb dX12_statement_4 rfl hl (by decide) rfl (fun ls hl => ?_)
  refine lv_iload_n hx hb dX12_statement_5 rfl (lv_at hl 0 rfl) ?_
  refine lv_bipush (v := 108) hx hb dX12_statement_6 (by decide) ?_
  refine lv_icmp_eq (tgt := 43) hx hb dX12_statement_8 (by decide) (fun c8 => ?_) (fun c8 => ?_)
  · have hf := gb_t c8 hf
    refine lv_aload_n hx hb dX12_statement_43 rfl (lv_at hl 1 rfl) ?_
    refine gp_get (v := .ref (h0 + 13)) (C := RX12) (T := TX12) (N := 33) (ci := 10) hx hb hts hin hown hK hG mg_o rfl 15 (by decide) (hts _ (List.mem_of_getElem? (i := 1) rfl)) (fun _ h9 => h9) rfl dX12_statement_44 ?_
    refine lv_aload_n hx hb dX12_statement_47 rfl (lv_at hl 1 rfl) ?_
    refine gp_get (v := .int i_statements) (C := RX12) (T := TX12) (N := 33) (ci := 10) hx hb hts hin hown hK hG mg_o rfl 20 (by decide) (hts _ (List.mem_of_getElem? (i := 2) rfl)) (fun _ h9 => h9) rfl dX12_statement_48 ?_
    refine lv_iload_n hx hb dX12_statement_51 rfl (lv_at hl 0 rfl) ?_
    obtain ⟨b52, hf⟩ := gb_ix hf
    refine gp_iast hx hb hK hG hS mg_letter b52 mu_letter dX12_statement_52 (fun H locs hG hS => ?_)
    refine lv_aload_n hx hb dX12_statement_53 rfl (lv_at hl 1 rfl) ?_
    refine gp_get (v := .ref (h0 + 14)) (C := RX12) (T := TX12) (N := 33) (ci := 10) hx hb hts hin hown hK hG mg_o rfl 16 (by decide) (hts _ (List.mem_of_getElem? (i := 3) rfl)) (fun _ h9 => h9) rfl dX12_statement_54 ?_
    refine lv_aload_n hx hb dX12_statement_57 rfl (lv_at hl 1 rfl) ?_
    refine gp_get (v := .int i_statements) (C := RX12) (T := TX12) (N := 33) (ci := 10) hx hb hts hin hown hK hG mg_o rfl 20 (by decide) (hts _ (List.mem_of_getElem? (i := 2) rfl)) (fun _ h9 => h9) rfl dX12_statement_58 ?_
    refine lv_aload_n hx hb dX12_statement_61 rfl (lv_at hl 1 rfl) ?_
    refine gp_get (v := .int i_at) (C := RX12) (T := TX12) (N := 33) (ci := 10) hx hb hts hin hown hK hG mg_o rfl 19 (by decide) (hts _ (List.mem_of_getElem? (i := 4) rfl)) (fun _ h9 => h9) rfl dX12_statement_62 ?_
    obtain ⟨b65, hf⟩ := gb_ix hf
    refine gp_iast hx hb hK hG hS mg_letterAt b65 mu_letterAt dX12_statement_65 (fun H locs hG hS => ?_)
    refine lv_aload_n hx hb dX12_statement_66 rfl (lv_at hl 1 rfl) ?_
    refine lv_dup hx hb dX12_statement_67 rfl ?_
    refine gp_get (v := .int i_at) (C := RX12) (T := TX12) (N := 33) (ci := 10) hx hb hts hin hown hK hG mg_o rfl 19 (by decide) (hts _ (List.mem_of_getElem? (i := 4) rfl)) (fun _ h9 => h9) rfl dX12_statement_68 ?_
    refine lv_iconst (v := 1) hx hb dX12_statement_71 (by decide) ?_
    refine lv_iadd hx hb dX12_statement_72 ?_
    refine gp_put (v := .int (i_at + 1)) (tyk := .int) (C := RX12) (T := TX12) (N := 33) (ci := 10) hx hb hts hin tyX12 tyX12_ok nmX12 hown hK hG hS mg_o rfl 19 (by decide) (hts _ (List.mem_of_getElem? (i := 4) rfl)) (fun _ h9 => h9) rfl rfl rfl rfl (Nat.le_of_ble_eq_true rfl) mu_at dX12_statement_73 (fun H locs hG hS => ?_)
    refine lv_aload_n hx hb dX12_statement_76 rfl (lv_at hl 1 rfl) ?_
    refine lv_iload_n hx hb dX12_statement_77 rfl (lv_at hl 0 rfl) ?_
    refine lv_iconst (v := 3) hx hb dX12_statement_78 (by decide) ?_
    refine lv_aload_n hx hb dX12_statement_79 rfl (lv_at hl 1 rfl) ?_
    refine gp_get (v := .int i_statements) (C := RX12) (T := TX12) (N := 33) (ci := 10) hx hb hts hin hown hK hG mg_o rfl 20 (by decide) (hts _ (List.mem_of_getElem? (i := 2) rfl)) (fun _ h9 => h9) rfl dX12_statement_80 ?_
    refine lv_imul hx hb dX12_statement_83 ?_
    obtain ⟨o84, hc84, hf⟩ := gb_b hf
    refine gp_callI (va_runV (As := [.int o1, .int (3 * i_statements)]) (rest := []) ⟨hx, hb, hml, hown, hts⟩ (c_X12_readsAll (l := l) (D := D) (b := b) (M := M) (cI := cI) (cL := cL) hc84) (cwV 2 hts gX12_statement_X12_readsAll rfl rfl rfl (by decide +kernel) ⟨Nat.le_of_ble_eq_true rfl, Nat.le_of_ble_eq_true rfl⟩) (gp_preV hKn hG mg_o rfl) rfl rfl hl.1 rfl (lv_room (Nat.le_of_ble_eq_true rfl)) dX12_statement_84 ⟨Nat.le_of_ble_eq_true rfl, Nat.le_of_ble_eq_true rfl⟩) hS (fun H locs hG hS => ?_)
    refine lv_if_eq (tgt := 99) hx hb dX12_statement_87 (by decide) (fun c87 => ?_) (fun c87 => ?_)
    · have hf := gb_t c87 hf
      refine lv_iconst (v := 0) hx hb dX12_statement_99 (by decide) ?_
      have hf := Option.some.inj hf
      subst hf
      exact gp_retZ hx hb hr (Or.inl rfl) hlocks hG hS (Nat.le_refl _) (Nat.le_refl _) dX12_statement_100
    · have hf := gb_f c87 hf
      refine lv_aload_n hx hb dX12_statement_90 rfl (lv_at hl 1 rfl) ?_
      obtain ⟨o91, hc91, hf⟩ := gb_b hf
      refine gp_callI (va_runV (As := []) (rest := []) ⟨hx, hb, hml, hown, hts⟩ (c_X12_signAt (l := l) (D := D) (b := b) (M := M) (cI := cI) (cL := cL) hc91) (cwV 0 hts gX12_statement_X12_signAt rfl rfl rfl (by decide +kernel) ⟨Nat.le_of_ble_eq_true rfl, Nat.le_of_ble_eq_true rfl⟩) (gp_preV hKn hG mg_o rfl) rfl rfl hl.1 rfl (lv_room (Nat.le_of_ble_eq_true rfl)) dX12_statement_91 ⟨Nat.le_of_ble_eq_true rfl, Nat.le_of_ble_eq_true rfl⟩) hS (fun H locs hG hS => ?_)
      refine lv_bipush (v := 59) hx hb dX12_statement_94 (by decide) ?_
      refine lv_icmp_eq (tgt := 101) hx hb dX12_statement_96 (by decide) (fun c96 => ?_) (fun c96 => ?_)
      · have hf := gb_t c96 hf
        refine lv_aload_n hx hb dX12_statement_101 rfl (lv_at hl 1 rfl) ?_
        refine lv_dup hx hb dX12_statement_102 rfl ?_
        refine gp_get (v := .int o84.2.2) (C := RX12) (T := TX12) (N := 33) (ci := 10) hx hb hts hin hown hK hG mg_o rfl 19 (by decide) (hts _ (List.mem_of_getElem? (i := 4) rfl)) (fun _ h9 => h9) rfl dX12_statement_103 ?_
        refine lv_iconst (v := 1) hx hb dX12_statement_106 (by decide) ?_
        refine lv_iadd hx hb dX12_statement_107 ?_
        refine gp_put (v := .int (o84.2.2 + 1)) (tyk := .int) (C := RX12) (T := TX12) (N := 33) (ci := 10) hx hb hts hin tyX12 tyX12_ok nmX12 hown hK hG hS mg_o rfl 19 (by decide) (hts _ (List.mem_of_getElem? (i := 4) rfl)) (fun _ h9 => h9) rfl rfl rfl rfl (Nat.le_of_ble_eq_true rfl) mu_at dX12_statement_108 (fun H locs hG hS => ?_)
        refine lv_iconst (v := 1) hx hb dX12_statement_111 (by decide) ?_
        have hf := Option.some.inj hf
        subst hf
        exact gp_retZ hx hb hr (Or.inr rfl) hlocks hG hS (Nat.le_refl _) (Nat.le_refl _) dX12_statement_112
      · have hf := gb_f c96 hf
        refine lv_iconst (v := 0) hx hb dX12_statement_99 (by decide) ?_
        have hf := Option.some.inj hf
        subst hf
        exact gp_retZ hx hb hr (Or.inl rfl) hlocks hG hS (Nat.le_refl _) (Nat.le_refl _) dX12_statement_100
  · have hf := gb_f c8 hf
    refine lv_iload_n hx hb dX12_statement_11 rfl (lv_at hl 0 rfl) ?_
    refine lv_bipush (v := 119) hx hb dX12_statement_12 (by decide) ?_
    refine lv_icmp_eq (tgt := 43) hx hb dX12_statement_14 (by decide) (fun c14 => ?_) (fun c14 => ?_)
    · have hf := gb_t c14 hf
      refine lv_aload_n hx hb dX12_statement_43 rfl (lv_at hl 1 rfl) ?_
      refine gp_get (v := .ref (h0 + 13)) (C := RX12) (T := TX12) (N := 33) (ci := 10) hx hb hts hin hown hK hG mg_o rfl 15 (by decide) (hts _ (List.mem_of_getElem? (i := 1) rfl)) (fun _ h9 => h9) rfl dX12_statement_44 ?_
      refine lv_aload_n hx hb dX12_statement_47 rfl (lv_at hl 1 rfl) ?_
      refine gp_get (v := .int i_statements) (C := RX12) (T := TX12) (N := 33) (ci := 10) hx hb hts hin hown hK hG mg_o rfl 20 (by decide) (hts _ (List.mem_of_getElem? (i := 2) rfl)) (fun _ h9 => h9) rfl dX12_statement_48 ?_
      refine lv_iload_n hx hb dX12_statement_51 rfl (lv_at hl 0 rfl) ?_
      obtain ⟨b52, hf⟩ := gb_ix hf
      refine gp_iast hx hb hK hG hS mg_letter b52 mu_letter dX12_statement_52 (fun H locs hG hS => ?_)
      refine lv_aload_n hx hb dX12_statement_53 rfl (lv_at hl 1 rfl) ?_
      refine gp_get (v := .ref (h0 + 14)) (C := RX12) (T := TX12) (N := 33) (ci := 10) hx hb hts hin hown hK hG mg_o rfl 16 (by decide) (hts _ (List.mem_of_getElem? (i := 3) rfl)) (fun _ h9 => h9) rfl dX12_statement_54 ?_
      refine lv_aload_n hx hb dX12_statement_57 rfl (lv_at hl 1 rfl) ?_
      refine gp_get (v := .int i_statements) (C := RX12) (T := TX12) (N := 33) (ci := 10) hx hb hts hin hown hK hG mg_o rfl 20 (by decide) (hts _ (List.mem_of_getElem? (i := 2) rfl)) (fun _ h9 => h9) rfl dX12_statement_58 ?_
      refine lv_aload_n hx hb dX12_statement_61 rfl (lv_at hl 1 rfl) ?_
      refine gp_get (v := .int i_at) (C := RX12) (T := TX12) (N := 33) (ci := 10) hx hb hts hin hown hK hG mg_o rfl 19 (by decide) (hts _ (List.mem_of_getElem? (i := 4) rfl)) (fun _ h9 => h9) rfl dX12_statement_62 ?_
      obtain ⟨b65, hf⟩ := gb_ix hf
      refine gp_iast hx hb hK hG hS mg_letterAt b65 mu_letterAt dX12_statement_65 (fun H locs hG hS => ?_)
      refine lv_aload_n hx hb dX12_statement_66 rfl (lv_at hl 1 rfl) ?_
      refine lv_dup hx hb dX12_statement_67 rfl ?_
      refine gp_get (v := .int i_at) (C := RX12) (T := TX12) (N := 33) (ci := 10) hx hb hts hin hown hK hG mg_o rfl 19 (by decide) (hts _ (List.mem_of_getElem? (i := 4) rfl)) (fun _ h9 => h9) rfl dX12_statement_68 ?_
      refine lv_iconst (v := 1) hx hb dX12_statement_71 (by decide) ?_
      refine lv_iadd hx hb dX12_statement_72 ?_
      refine gp_put (v := .int (i_at + 1)) (tyk := .int) (C := RX12) (T := TX12) (N := 33) (ci := 10) hx hb hts hin tyX12 tyX12_ok nmX12 hown hK hG hS mg_o rfl 19 (by decide) (hts _ (List.mem_of_getElem? (i := 4) rfl)) (fun _ h9 => h9) rfl rfl rfl rfl (Nat.le_of_ble_eq_true rfl) mu_at dX12_statement_73 (fun H locs hG hS => ?_)
      refine lv_aload_n hx hb dX12_statement_76 rfl (lv_at hl 1 rfl) ?_
      refine lv_iload_n hx hb dX12_statement_77 rfl (lv_at hl 0 rfl) ?_
      refine lv_iconst (v := 3) hx hb dX12_statement_78 (by decide) ?_
      refine lv_aload_n hx hb dX12_statement_79 rfl (lv_at hl 1 rfl) ?_
      refine gp_get (v := .int i_statements) (C := RX12) (T := TX12) (N := 33) (ci := 10) hx hb hts hin hown hK hG mg_o rfl 20 (by decide) (hts _ (List.mem_of_getElem? (i := 2) rfl)) (fun _ h9 => h9) rfl dX12_statement_80 ?_
      refine lv_imul hx hb dX12_statement_83 ?_
      obtain ⟨o84, hc84, hf⟩ := gb_b hf
      refine gp_callI (va_runV (As := [.int o1, .int (3 * i_statements)]) (rest := []) ⟨hx, hb, hml, hown, hts⟩ (c_X12_readsAll (l := l) (D := D) (b := b) (M := M) (cI := cI) (cL := cL) hc84) (cwV 2 hts gX12_statement_X12_readsAll rfl rfl rfl (by decide +kernel) ⟨Nat.le_of_ble_eq_true rfl, Nat.le_of_ble_eq_true rfl⟩) (gp_preV hKn hG mg_o rfl) rfl rfl hl.1 rfl (lv_room (Nat.le_of_ble_eq_true rfl)) dX12_statement_84 ⟨Nat.le_of_ble_eq_true rfl, Nat.le_of_ble_eq_true rfl⟩) hS (fun H locs hG hS => ?_)
      refine lv_if_eq (tgt := 99) hx hb dX12_statement_87 (by decide) (fun c87 => ?_) (fun c87 => ?_)
      · have hf := gb_t c87 hf
        refine lv_iconst (v := 0) hx hb dX12_statement_99 (by decide) ?_
        have hf := Option.some.inj hf
        subst hf
        exact gp_retZ hx hb hr (Or.inl rfl) hlocks hG hS (Nat.le_refl _) (Nat.le_refl _) dX12_statement_100
      · have hf := gb_f c87 hf
        refine lv_aload_n hx hb dX12_statement_90 rfl (lv_at hl 1 rfl) ?_
        obtain ⟨o91, hc91, hf⟩ := gb_b hf
        refine gp_callI (va_runV (As := []) (rest := []) ⟨hx, hb, hml, hown, hts⟩ (c_X12_signAt (l := l) (D := D) (b := b) (M := M) (cI := cI) (cL := cL) hc91) (cwV 0 hts gX12_statement_X12_signAt rfl rfl rfl (by decide +kernel) ⟨Nat.le_of_ble_eq_true rfl, Nat.le_of_ble_eq_true rfl⟩) (gp_preV hKn hG mg_o rfl) rfl rfl hl.1 rfl (lv_room (Nat.le_of_ble_eq_true rfl)) dX12_statement_91 ⟨Nat.le_of_ble_eq_true rfl, Nat.le_of_ble_eq_true rfl⟩) hS (fun H locs hG hS => ?_)
        refine lv_bipush (v := 59) hx hb dX12_statement_94 (by decide) ?_
        refine lv_icmp_eq (tgt := 101) hx hb dX12_statement_96 (by decide) (fun c96 => ?_) (fun c96 => ?_)
        · have hf := gb_t c96 hf
          refine lv_aload_n hx hb dX12_statement_101 rfl (lv_at hl 1 rfl) ?_
          refine lv_dup hx hb dX12_statement_102 rfl ?_
          refine gp_get (v := .int o84.2.2) (C := RX12) (T := TX12) (N := 33) (ci := 10) hx hb hts hin hown hK hG mg_o rfl 19 (by decide) (hts _ (List.mem_of_getElem? (i := 4) rfl)) (fun _ h9 => h9) rfl dX12_statement_103 ?_
          refine lv_iconst (v := 1) hx hb dX12_statement_106 (by decide) ?_
          refine lv_iadd hx hb dX12_statement_107 ?_
          refine gp_put (v := .int (o84.2.2 + 1)) (tyk := .int) (C := RX12) (T := TX12) (N := 33) (ci := 10) hx hb hts hin tyX12 tyX12_ok nmX12 hown hK hG hS mg_o rfl 19 (by decide) (hts _ (List.mem_of_getElem? (i := 4) rfl)) (fun _ h9 => h9) rfl rfl rfl rfl (Nat.le_of_ble_eq_true rfl) mu_at dX12_statement_108 (fun H locs hG hS => ?_)
          refine lv_iconst (v := 1) hx hb dX12_statement_111 (by decide) ?_
          have hf := Option.some.inj hf
          subst hf
          exact gp_retZ hx hb hr (Or.inr rfl) hlocks hG hS (Nat.le_refl _) (Nat.le_refl _) dX12_statement_112
        · have hf := gb_f c96 hf
          refine lv_iconst (v := 0) hx hb dX12_statement_99 (by decide) ?_
          have hf := Option.some.inj hf
          subst hf
          exact gp_retZ hx hb hr (Or.inl rfl) hlocks hG hS (Nat.le_refl _) (Nat.le_refl _) dX12_statement_100
    · have hf := gb_f c14 hf
      refine lv_iload_n hx hb dX12_statement_17 rfl (lv_at hl 0 rfl) ?_
      refine lv_bipush (v := 112) hx hb dX12_statement_18 (by decide) ?_
      refine lv_icmp_eq (tgt := 43) hx hb dX12_statement_20 (by decide) (fun c20 => ?_) (fun c20 => ?_)
      · have hf := gb_t c20 hf
        refine lv_aload_n hx hb dX12_statement_43 rfl (lv_at hl 1 rfl) ?_
        refine gp_get (v := .ref (h0 + 13)) (C := RX12) (T := TX12) (N := 33) (ci := 10) hx hb hts hin hown hK hG mg_o rfl 15 (by decide) (hts _ (List.mem_of_getElem? (i := 1) rfl)) (fun _ h9 => h9) rfl dX12_statement_44 ?_
        refine lv_aload_n hx hb dX12_statement_47 rfl (lv_at hl 1 rfl) ?_
        refine gp_get (v := .int i_statements) (C := RX12) (T := TX12) (N := 33) (ci := 10) hx hb hts hin hown hK hG mg_o rfl 20 (by decide) (hts _ (List.mem_of_getElem? (i := 2) rfl)) (fun _ h9 => h9) rfl dX12_statement_48 ?_
        refine lv_iload_n hx hb dX12_statement_51 rfl (lv_at hl 0 rfl) ?_
        obtain ⟨b52, hf⟩ := gb_ix hf
        refine gp_iast hx hb hK hG hS mg_letter b52 mu_letter dX12_statement_52 (fun H locs hG hS => ?_)
        refine lv_aload_n hx hb dX12_statement_53 rfl (lv_at hl 1 rfl) ?_
        refine gp_get (v := .ref (h0 + 14)) (C := RX12) (T := TX12) (N := 33) (ci := 10) hx hb hts hin hown hK hG mg_o rfl 16 (by decide) (hts _ (List.mem_of_getElem? (i := 3) rfl)) (fun _ h9 => h9) rfl dX12_statement_54 ?_
        refine lv_aload_n hx hb dX12_statement_57 rfl (lv_at hl 1 rfl) ?_
        refine gp_get (v := .int i_statements) (C := RX12) (T := TX12) (N := 33) (ci := 10) hx hb hts hin hown hK hG mg_o rfl 20 (by decide) (hts _ (List.mem_of_getElem? (i := 2) rfl)) (fun _ h9 => h9) rfl dX12_statement_58 ?_
        refine lv_aload_n hx hb dX12_statement_61 rfl (lv_at hl 1 rfl) ?_
        refine gp_get (v := .int i_at) (C := RX12) (T := TX12) (N := 33) (ci := 10) hx hb hts hin hown hK hG mg_o rfl 19 (by decide) (hts _ (List.mem_of_getElem? (i := 4) rfl)) (fun _ h9 => h9) rfl dX12_statement_62 ?_
        obtain ⟨b65, hf⟩ := gb_ix hf
        refine gp_iast hx hb hK hG hS mg_letterAt b65 mu_letterAt dX12_statement_65 (fun H locs hG hS => ?_)
        refine lv_aload_n hx hb dX12_statement_66 rfl (lv_at hl 1 rfl) ?_
        refine lv_dup hx hb dX12_statement_67 rfl ?_
        refine gp_get (v := .int i_at) (C := RX12) (T := TX12) (N := 33) (ci := 10) hx hb hts hin hown hK hG mg_o rfl 19 (by decide) (hts _ (List.mem_of_getElem? (i := 4) rfl)) (fun _ h9 => h9) rfl dX12_statement_68 ?_
        refine lv_iconst (v := 1) hx hb dX12_statement_71 (by decide) ?_
        refine lv_iadd hx hb dX12_statement_72 ?_
        refine gp_put (v := .int (i_at + 1)) (tyk := .int) (C := RX12) (T := TX12) (N := 33) (ci := 10) hx hb hts hin tyX12 tyX12_ok nmX12 hown hK hG hS mg_o rfl 19 (by decide) (hts _ (List.mem_of_getElem? (i := 4) rfl)) (fun _ h9 => h9) rfl rfl rfl rfl (Nat.le_of_ble_eq_true rfl) mu_at dX12_statement_73 (fun H locs hG hS => ?_)
        refine lv_aload_n hx hb dX12_statement_76 rfl (lv_at hl 1 rfl) ?_
        refine lv_iload_n hx hb dX12_statement_77 rfl (lv_at hl 0 rfl) ?_
        refine lv_iconst (v := 3) hx hb dX12_statement_78 (by decide) ?_
        refine lv_aload_n hx hb dX12_statement_79 rfl (lv_at hl 1 rfl) ?_
        refine gp_get (v := .int i_statements) (C := RX12) (T := TX12) (N := 33) (ci := 10) hx hb hts hin hown hK hG mg_o rfl 20 (by decide) (hts _ (List.mem_of_getElem? (i := 2) rfl)) (fun _ h9 => h9) rfl dX12_statement_80 ?_
        refine lv_imul hx hb dX12_statement_83 ?_
        obtain ⟨o84, hc84, hf⟩ := gb_b hf
        refine gp_callI (va_runV (As := [.int o1, .int (3 * i_statements)]) (rest := []) ⟨hx, hb, hml, hown, hts⟩ (c_X12_readsAll (l := l) (D := D) (b := b) (M := M) (cI := cI) (cL := cL) hc84) (cwV 2 hts gX12_statement_X12_readsAll rfl rfl rfl (by decide +kernel) ⟨Nat.le_of_ble_eq_true rfl, Nat.le_of_ble_eq_true rfl⟩) (gp_preV hKn hG mg_o rfl) rfl rfl hl.1 rfl (lv_room (Nat.le_of_ble_eq_true rfl)) dX12_statement_84 ⟨Nat.le_of_ble_eq_true rfl, Nat.le_of_ble_eq_true rfl⟩) hS (fun H locs hG hS => ?_)
        refine lv_if_eq (tgt := 99) hx hb dX12_statement_87 (by decide) (fun c87 => ?_) (fun c87 => ?_)
        · have hf := gb_t c87 hf
          refine lv_iconst (v := 0) hx hb dX12_statement_99 (by decide) ?_
          have hf := Option.some.inj hf
          subst hf
          exact gp_retZ hx hb hr (Or.inl rfl) hlocks hG hS (Nat.le_refl _) (Nat.le_refl _) dX12_statement_100
        · have hf := gb_f c87 hf
          refine lv_aload_n hx hb dX12_statement_90 rfl (lv_at hl 1 rfl) ?_
          obtain ⟨o91, hc91, hf⟩ := gb_b hf
          refine gp_callI (va_runV (As := []) (rest := []) ⟨hx, hb, hml, hown, hts⟩ (c_X12_signAt (l := l) (D := D) (b := b) (M := M) (cI := cI) (cL := cL) hc91) (cwV 0 hts gX12_statement_X12_signAt rfl rfl rfl (by decide +kernel) ⟨Nat.le_of_ble_eq_true rfl, Nat.le_of_ble_eq_true rfl⟩) (gp_preV hKn hG mg_o rfl) rfl rfl hl.1 rfl (lv_room (Nat.le_of_ble_eq_true rfl)) dX12_statement_91 ⟨Nat.le_of_ble_eq_true rfl, Nat.le_of_ble_eq_true rfl⟩) hS (fun H locs hG hS => ?_)
          refine lv_bipush (v := 59) hx hb dX12_statement_94 (by decide) ?_
          refine lv_icmp_eq (tgt := 101) hx hb dX12_statement_96 (by decide) (fun c96 => ?_) (fun c96 => ?_)
          · have hf := gb_t c96 hf
            refine lv_aload_n hx hb dX12_statement_101 rfl (lv_at hl 1 rfl) ?_
            refine lv_dup hx hb dX12_statement_102 rfl ?_
            refine gp_get (v := .int o84.2.2) (C := RX12) (T := TX12) (N := 33) (ci := 10) hx hb hts hin hown hK hG mg_o rfl 19 (by decide) (hts _ (List.mem_of_getElem? (i := 4) rfl)) (fun _ h9 => h9) rfl dX12_statement_103 ?_
            refine lv_iconst (v := 1) hx hb dX12_statement_106 (by decide) ?_
            refine lv_iadd hx hb dX12_statement_107 ?_
            refine gp_put (v := .int (o84.2.2 + 1)) (tyk := .int) (C := RX12) (T := TX12) (N := 33) (ci := 10) hx hb hts hin tyX12 tyX12_ok nmX12 hown hK hG hS mg_o rfl 19 (by decide) (hts _ (List.mem_of_getElem? (i := 4) rfl)) (fun _ h9 => h9) rfl rfl rfl rfl (Nat.le_of_ble_eq_true rfl) mu_at dX12_statement_108 (fun H locs hG hS => ?_)
            refine lv_iconst (v := 1) hx hb dX12_statement_111 (by decide) ?_
            have hf := Option.some.inj hf
            subst hf
            exact gp_retZ hx hb hr (Or.inr rfl) hlocks hG hS (Nat.le_refl _) (Nat.le_refl _) dX12_statement_112
          · have hf := gb_f c96 hf
            refine lv_iconst (v := 0) hx hb dX12_statement_99 (by decide) ?_
            have hf := Option.some.inj hf
            subst hf
            exact gp_retZ hx hb hr (Or.inl rfl) hlocks hG hS (Nat.le_refl _) (Nat.le_refl _) dX12_statement_100
      · have hf := gb_f c20 hf
        refine lv_iload_n hx hb dX12_statement_23 rfl (lv_at hl 0 rfl) ?_
        refine lv_bipush (v := 103) hx hb dX12_statement_24 (by decide) ?_
        refine lv_icmp_eq (tgt := 43) hx hb dX12_statement_26 (by decide) (fun c26 => ?_) (fun c26 => ?_)
        · have hf := gb_t c26 hf
          refine lv_aload_n hx hb dX12_statement_43 rfl (lv_at hl 1 rfl) ?_
          refine gp_get (v := .ref (h0 + 13)) (C := RX12) (T := TX12) (N := 33) (ci := 10) hx hb hts hin hown hK hG mg_o rfl 15 (by decide) (hts _ (List.mem_of_getElem? (i := 1) rfl)) (fun _ h9 => h9) rfl dX12_statement_44 ?_
          refine lv_aload_n hx hb dX12_statement_47 rfl (lv_at hl 1 rfl) ?_
          refine gp_get (v := .int i_statements) (C := RX12) (T := TX12) (N := 33) (ci := 10) hx hb hts hin hown hK hG mg_o rfl 20 (by decide) (hts _ (List.mem_of_getElem? (i := 2) rfl)) (fun _ h9 => h9) rfl dX12_statement_48 ?_
          refine lv_iload_n hx hb dX12_statement_51 rfl (lv_at hl 0 rfl) ?_
          obtain ⟨b52, hf⟩ := gb_ix hf
          refine gp_iast hx hb hK hG hS mg_letter b52 mu_letter dX12_statement_52 (fun H locs hG hS => ?_)
          refine lv_aload_n hx hb dX12_statement_53 rfl (lv_at hl 1 rfl) ?_
          refine gp_get (v := .ref (h0 + 14)) (C := RX12) (T := TX12) (N := 33) (ci := 10) hx hb hts hin hown hK hG mg_o rfl 16 (by decide) (hts _ (List.mem_of_getElem? (i := 3) rfl)) (fun _ h9 => h9) rfl dX12_statement_54 ?_
          refine lv_aload_n hx hb dX12_statement_57 rfl (lv_at hl 1 rfl) ?_
          refine gp_get (v := .int i_statements) (C := RX12) (T := TX12) (N := 33) (ci := 10) hx hb hts hin hown hK hG mg_o rfl 20 (by decide) (hts _ (List.mem_of_getElem? (i := 2) rfl)) (fun _ h9 => h9) rfl dX12_statement_58 ?_
          refine lv_aload_n hx hb dX12_statement_61 rfl (lv_at hl 1 rfl) ?_
          refine gp_get (v := .int i_at) (C := RX12) (T := TX12) (N := 33) (ci := 10) hx hb hts hin hown hK hG mg_o rfl 19 (by decide) (hts _ (List.mem_of_getElem? (i := 4) rfl)) (fun _ h9 => h9) rfl dX12_statement_62 ?_
          obtain ⟨b65, hf⟩ := gb_ix hf
          refine gp_iast hx hb hK hG hS mg_letterAt b65 mu_letterAt dX12_statement_65 (fun H locs hG hS => ?_)
          refine lv_aload_n hx hb dX12_statement_66 rfl (lv_at hl 1 rfl) ?_
          refine lv_dup hx hb dX12_statement_67 rfl ?_
          refine gp_get (v := .int i_at) (C := RX12) (T := TX12) (N := 33) (ci := 10) hx hb hts hin hown hK hG mg_o rfl 19 (by decide) (hts _ (List.mem_of_getElem? (i := 4) rfl)) (fun _ h9 => h9) rfl dX12_statement_68 ?_
          refine lv_iconst (v := 1) hx hb dX12_statement_71 (by decide) ?_
          refine lv_iadd hx hb dX12_statement_72 ?_
          refine gp_put (v := .int (i_at + 1)) (tyk := .int) (C := RX12) (T := TX12) (N := 33) (ci := 10) hx hb hts hin tyX12 tyX12_ok nmX12 hown hK hG hS mg_o rfl 19 (by decide) (hts _ (List.mem_of_getElem? (i := 4) rfl)) (fun _ h9 => h9) rfl rfl rfl rfl (Nat.le_of_ble_eq_true rfl) mu_at dX12_statement_73 (fun H locs hG hS => ?_)
          refine lv_aload_n hx hb dX12_statement_76 rfl (lv_at hl 1 rfl) ?_
          refine lv_iload_n hx hb dX12_statement_77 rfl (lv_at hl 0 rfl) ?_
          refine lv_iconst (v := 3) hx hb dX12_statement_78 (by decide) ?_
          refine lv_aload_n hx hb dX12_statement_79 rfl (lv_at hl 1 rfl) ?_
          refine gp_get (v := .int i_statements) (C := RX12) (T := TX12) (N := 33) (ci := 10) hx hb hts hin hown hK hG mg_o rfl 20 (by decide) (hts _ (List.mem_of_getElem? (i := 2) rfl)) (fun _ h9 => h9) rfl dX12_statement_80 ?_
          refine lv_imul hx hb dX12_statement_83 ?_
          obtain ⟨o84, hc84, hf⟩ := gb_b hf
          refine gp_callI (va_runV (As := [.int o1, .int (3 * i_statements)]) (rest := []) ⟨hx, hb, hml, hown, hts⟩ (c_X12_readsAll (l := l) (D := D) (b := b) (M := M) (cI := cI) (cL := cL) hc84) (cwV 2 hts gX12_statement_X12_readsAll rfl rfl rfl (by decide +kernel) ⟨Nat.le_of_ble_eq_true rfl, Nat.le_of_ble_eq_true rfl⟩) (gp_preV hKn hG mg_o rfl) rfl rfl hl.1 rfl (lv_room (Nat.le_of_ble_eq_true rfl)) dX12_statement_84 ⟨Nat.le_of_ble_eq_true rfl, Nat.le_of_ble_eq_true rfl⟩) hS (fun H locs hG hS => ?_)
          refine lv_if_eq (tgt := 99) hx hb dX12_statement_87 (by decide) (fun c87 => ?_) (fun c87 => ?_)
          · have hf := gb_t c87 hf
            refine lv_iconst (v := 0) hx hb dX12_statement_99 (by decide) ?_
            have hf := Option.some.inj hf
            subst hf
            exact gp_retZ hx hb hr (Or.inl rfl) hlocks hG hS (Nat.le_refl _) (Nat.le_refl _) dX12_statement_100
          · have hf := gb_f c87 hf
            refine lv_aload_n hx hb dX12_statement_90 rfl (lv_at hl 1 rfl) ?_
            obtain ⟨o91, hc91, hf⟩ := gb_b hf
            refine gp_callI (va_runV (As := []) (rest := []) ⟨hx, hb, hml, hown, hts⟩ (c_X12_signAt (l := l) (D := D) (b := b) (M := M) (cI := cI) (cL := cL) hc91) (cwV 0 hts gX12_statement_X12_signAt rfl rfl rfl (by decide +kernel) ⟨Nat.le_of_ble_eq_true rfl, Nat.le_of_ble_eq_true rfl⟩) (gp_preV hKn hG mg_o rfl) rfl rfl hl.1 rfl (lv_room (Nat.le_of_ble_eq_true rfl)) dX12_statement_91 ⟨Nat.le_of_ble_eq_true rfl, Nat.le_of_ble_eq_true rfl⟩) hS (fun H locs hG hS => ?_)
            refine lv_bipush (v := 59) hx hb dX12_statement_94 (by decide) ?_
            refine lv_icmp_eq (tgt := 101) hx hb dX12_statement_96 (by decide) (fun c96 => ?_) (fun c96 => ?_)
            · have hf := gb_t c96 hf
              refine lv_aload_n hx hb dX12_statement_101 rfl (lv_at hl 1 rfl) ?_
              refine lv_dup hx hb dX12_statement_102 rfl ?_
              refine gp_get (v := .int o84.2.2) (C := RX12) (T := TX12) (N := 33) (ci := 10) hx hb hts hin hown hK hG mg_o rfl 19 (by decide) (hts _ (List.mem_of_getElem? (i := 4) rfl)) (fun _ h9 => h9) rfl dX12_statement_103 ?_
              refine lv_iconst (v := 1) hx hb dX12_statement_106 (by decide) ?_
              refine lv_iadd hx hb dX12_statement_107 ?_
              refine gp_put (v := .int (o84.2.2 + 1)) (tyk := .int) (C := RX12) (T := TX12) (N := 33) (ci := 10) hx hb hts hin tyX12 tyX12_ok nmX12 hown hK hG hS mg_o rfl 19 (by decide) (hts _ (List.mem_of_getElem? (i := 4) rfl)) (fun _ h9 => h9) rfl rfl rfl rfl (Nat.le_of_ble_eq_true rfl) mu_at dX12_statement_108 (fun H locs hG hS => ?_)
              refine lv_iconst (v := 1) hx hb dX12_statement_111 (by decide) ?_
              have hf := Option.some.inj hf
              subst hf
              exact gp_retZ hx hb hr (Or.inr rfl) hlocks hG hS (Nat.le_refl _) (Nat.le_refl _) dX12_statement_112
            · have hf := gb_f c96 hf
              refine lv_iconst (v := 0) hx hb dX12_statement_99 (by decide) ?_
              have hf := Option.some.inj hf
              subst hf
              exact gp_retZ hx hb hr (Or.inl rfl) hlocks hG hS (Nat.le_refl _) (Nat.le_refl _) dX12_statement_100
        · have hf := gb_f c26 hf
          refine lv_iload_n hx hb dX12_statement_29 rfl (lv_at hl 0 rfl) ?_
          refine lv_bipush (v := 115) hx hb dX12_statement_30 (by decide) ?_
          refine lv_icmp_eq (tgt := 43) hx hb dX12_statement_32 (by decide) (fun c32 => ?_) (fun c32 => ?_)
          · have hf := gb_t c32 hf
            refine lv_aload_n hx hb dX12_statement_43 rfl (lv_at hl 1 rfl) ?_
            refine gp_get (v := .ref (h0 + 13)) (C := RX12) (T := TX12) (N := 33) (ci := 10) hx hb hts hin hown hK hG mg_o rfl 15 (by decide) (hts _ (List.mem_of_getElem? (i := 1) rfl)) (fun _ h9 => h9) rfl dX12_statement_44 ?_
            refine lv_aload_n hx hb dX12_statement_47 rfl (lv_at hl 1 rfl) ?_
            refine gp_get (v := .int i_statements) (C := RX12) (T := TX12) (N := 33) (ci := 10) hx hb hts hin hown hK hG mg_o rfl 20 (by decide) (hts _ (List.mem_of_getElem? (i := 2) rfl)) (fun _ h9 => h9) rfl dX12_statement_48 ?_
            refine lv_iload_n hx hb dX12_statement_51 rfl (lv_at hl 0 rfl) ?_
            obtain ⟨b52, hf⟩ := gb_ix hf
            refine gp_iast hx hb hK hG hS mg_letter b52 mu_letter dX12_statement_52 (fun H locs hG hS => ?_)
            refine lv_aload_n hx hb dX12_statement_53 rfl (lv_at hl 1 rfl) ?_
            refine gp_get (v := .ref (h0 + 14)) (C := RX12) (T := TX12) (N := 33) (ci := 10) hx hb hts hin hown hK hG mg_o rfl 16 (by decide) (hts _ (List.mem_of_getElem? (i := 3) rfl)) (fun _ h9 => h9) rfl dX12_statement_54 ?_
            refine lv_aload_n hx hb dX12_statement_57 rfl (lv_at hl 1 rfl) ?_
            refine gp_get (v := .int i_statements) (C := RX12) (T := TX12) (N := 33) (ci := 10) hx hb hts hin hown hK hG mg_o rfl 20 (by decide) (hts _ (List.mem_of_getElem? (i := 2) rfl)) (fun _ h9 => h9) rfl dX12_statement_58 ?_
            refine lv_aload_n hx hb dX12_statement_61 rfl (lv_at hl 1 rfl) ?_
            refine gp_get (v := .int i_at) (C := RX12) (T := TX12) (N := 33) (ci := 10) hx hb hts hin hown hK hG mg_o rfl 19 (by decide) (hts _ (List.mem_of_getElem? (i := 4) rfl)) (fun _ h9 => h9) rfl dX12_statement_62 ?_
            obtain ⟨b65, hf⟩ := gb_ix hf
            refine gp_iast hx hb hK hG hS mg_letterAt b65 mu_letterAt dX12_statement_65 (fun H locs hG hS => ?_)
            refine lv_aload_n hx hb dX12_statement_66 rfl (lv_at hl 1 rfl) ?_
            refine lv_dup hx hb dX12_statement_67 rfl ?_
            refine gp_get (v := .int i_at) (C := RX12) (T := TX12) (N := 33) (ci := 10) hx hb hts hin hown hK hG mg_o rfl 19 (by decide) (hts _ (List.mem_of_getElem? (i := 4) rfl)) (fun _ h9 => h9) rfl dX12_statement_68 ?_
            refine lv_iconst (v := 1) hx hb dX12_statement_71 (by decide) ?_
            refine lv_iadd hx hb dX12_statement_72 ?_
            refine gp_put (v := .int (i_at + 1)) (tyk := .int) (C := RX12) (T := TX12) (N := 33) (ci := 10) hx hb hts hin tyX12 tyX12_ok nmX12 hown hK hG hS mg_o rfl 19 (by decide) (hts _ (List.mem_of_getElem? (i := 4) rfl)) (fun _ h9 => h9) rfl rfl rfl rfl (Nat.le_of_ble_eq_true rfl) mu_at dX12_statement_73 (fun H locs hG hS => ?_)
            refine lv_aload_n hx hb dX12_statement_76 rfl (lv_at hl 1 rfl) ?_
            refine lv_iload_n hx hb dX12_statement_77 rfl (lv_at hl 0 rfl) ?_
            refine lv_iconst (v := 3) hx hb dX12_statement_78 (by decide) ?_
            refine lv_aload_n hx hb dX12_statement_79 rfl (lv_at hl 1 rfl) ?_
            refine gp_get (v := .int i_statements) (C := RX12) (T := TX12) (N := 33) (ci := 10) hx hb hts hin hown hK hG mg_o rfl 20 (by decide) (hts _ (List.mem_of_getElem? (i := 2) rfl)) (fun _ h9 => h9) rfl dX12_statement_80 ?_
            refine lv_imul hx hb dX12_statement_83 ?_
            obtain ⟨o84, hc84, hf⟩ := gb_b hf
            refine gp_callI (va_runV (As := [.int o1, .int (3 * i_statements)]) (rest := []) ⟨hx, hb, hml, hown, hts⟩ (c_X12_readsAll (l := l) (D := D) (b := b) (M := M) (cI := cI) (cL := cL) hc84) (cwV 2 hts gX12_statement_X12_readsAll rfl rfl rfl (by decide +kernel) ⟨Nat.le_of_ble_eq_true rfl, Nat.le_of_ble_eq_true rfl⟩) (gp_preV hKn hG mg_o rfl) rfl rfl hl.1 rfl (lv_room (Nat.le_of_ble_eq_true rfl)) dX12_statement_84 ⟨Nat.le_of_ble_eq_true rfl, Nat.le_of_ble_eq_true rfl⟩) hS (fun H locs hG hS => ?_)
            refine lv_if_eq (tgt := 99) hx hb dX12_statement_87 (by decide) (fun c87 => ?_) (fun c87 => ?_)
            · have hf := gb_t c87 hf
              refine lv_iconst (v := 0) hx hb dX12_statement_99 (by decide) ?_
              have hf := Option.some.inj hf
              subst hf
              exact gp_retZ hx hb hr (Or.inl rfl) hlocks hG hS (Nat.le_refl _) (Nat.le_refl _) dX12_statement_100
            · have hf := gb_f c87 hf
              refine lv_aload_n hx hb dX12_statement_90 rfl (lv_at hl 1 rfl) ?_
              obtain ⟨o91, hc91, hf⟩ := gb_b hf
              refine gp_callI (va_runV (As := []) (rest := []) ⟨hx, hb, hml, hown, hts⟩ (c_X12_signAt (l := l) (D := D) (b := b) (M := M) (cI := cI) (cL := cL) hc91) (cwV 0 hts gX12_statement_X12_signAt rfl rfl rfl (by decide +kernel) ⟨Nat.le_of_ble_eq_true rfl, Nat.le_of_ble_eq_true rfl⟩) (gp_preV hKn hG mg_o rfl) rfl rfl hl.1 rfl (lv_room (Nat.le_of_ble_eq_true rfl)) dX12_statement_91 ⟨Nat.le_of_ble_eq_true rfl, Nat.le_of_ble_eq_true rfl⟩) hS (fun H locs hG hS => ?_)
              refine lv_bipush (v := 59) hx hb dX12_statement_94 (by decide) ?_
              refine lv_icmp_eq (tgt := 101) hx hb dX12_statement_96 (by decide) (fun c96 => ?_) (fun c96 => ?_)
              · have hf := gb_t c96 hf
                refine lv_aload_n hx hb dX12_statement_101 rfl (lv_at hl 1 rfl) ?_
                refine lv_dup hx hb dX12_statement_102 rfl ?_
                refine gp_get (v := .int o84.2.2) (C := RX12) (T := TX12) (N := 33) (ci := 10) hx hb hts hin hown hK hG mg_o rfl 19 (by decide) (hts _ (List.mem_of_getElem? (i := 4) rfl)) (fun _ h9 => h9) rfl dX12_statement_103 ?_
                refine lv_iconst (v := 1) hx hb dX12_statement_106 (by decide) ?_
                refine lv_iadd hx hb dX12_statement_107 ?_
                refine gp_put (v := .int (o84.2.2 + 1)) (tyk := .int) (C := RX12) (T := TX12) (N := 33) (ci := 10) hx hb hts hin tyX12 tyX12_ok nmX12 hown hK hG hS mg_o rfl 19 (by decide) (hts _ (List.mem_of_getElem? (i := 4) rfl)) (fun _ h9 => h9) rfl rfl rfl rfl (Nat.le_of_ble_eq_true rfl) mu_at dX12_statement_108 (fun H locs hG hS => ?_)
                refine lv_iconst (v := 1) hx hb dX12_statement_111 (by decide) ?_
                have hf := Option.some.inj hf
                subst hf
                exact gp_retZ hx hb hr (Or.inr rfl) hlocks hG hS (Nat.le_refl _) (Nat.le_refl _) dX12_statement_112
              · have hf := gb_f c96 hf
                refine lv_iconst (v := 0) hx hb dX12_statement_99 (by decide) ?_
                have hf := Option.some.inj hf
                subst hf
                exact gp_retZ hx hb hr (Or.inl rfl) hlocks hG hS (Nat.le_refl _) (Nat.le_refl _) dX12_statement_100
          · have hf := gb_f c32 hf
            refine lv_iload_n hx hb dX12_statement_35 rfl (lv_at hl 0 rfl) ?_
            refine lv_bipush (v := 98) hx hb dX12_statement_36 (by decide) ?_
            refine lv_icmp_eq (tgt := 43) hx hb dX12_statement_38 (by decide) (fun c38 => ?_) (fun c38 => ?_)
            · have hf := gb_t c38 hf
              refine lv_aload_n hx hb dX12_statement_43 rfl (lv_at hl 1 rfl) ?_
              refine gp_get (v := .ref (h0 + 13)) (C := RX12) (T := TX12) (N := 33) (ci := 10) hx hb hts hin hown hK hG mg_o rfl 15 (by decide) (hts _ (List.mem_of_getElem? (i := 1) rfl)) (fun _ h9 => h9) rfl dX12_statement_44 ?_
              refine lv_aload_n hx hb dX12_statement_47 rfl (lv_at hl 1 rfl) ?_
              refine gp_get (v := .int i_statements) (C := RX12) (T := TX12) (N := 33) (ci := 10) hx hb hts hin hown hK hG mg_o rfl 20 (by decide) (hts _ (List.mem_of_getElem? (i := 2) rfl)) (fun _ h9 => h9) rfl dX12_statement_48 ?_
              refine lv_iload_n hx hb dX12_statement_51 rfl (lv_at hl 0 rfl) ?_
              obtain ⟨b52, hf⟩ := gb_ix hf
              refine gp_iast hx hb hK hG hS mg_letter b52 mu_letter dX12_statement_52 (fun H locs hG hS => ?_)
              refine lv_aload_n hx hb dX12_statement_53 rfl (lv_at hl 1 rfl) ?_
              refine gp_get (v := .ref (h0 + 14)) (C := RX12) (T := TX12) (N := 33) (ci := 10) hx hb hts hin hown hK hG mg_o rfl 16 (by decide) (hts _ (List.mem_of_getElem? (i := 3) rfl)) (fun _ h9 => h9) rfl dX12_statement_54 ?_
              refine lv_aload_n hx hb dX12_statement_57 rfl (lv_at hl 1 rfl) ?_
              refine gp_get (v := .int i_statements) (C := RX12) (T := TX12) (N := 33) (ci := 10) hx hb hts hin hown hK hG mg_o rfl 20 (by decide) (hts _ (List.mem_of_getElem? (i := 2) rfl)) (fun _ h9 => h9) rfl dX12_statement_58 ?_
              refine lv_aload_n hx hb dX12_statement_61 rfl (lv_at hl 1 rfl) ?_
              refine gp_get (v := .int i_at) (C := RX12) (T := TX12) (N := 33) (ci := 10) hx hb hts hin hown hK hG mg_o rfl 19 (by decide) (hts _ (List.mem_of_getElem? (i := 4) rfl)) (fun _ h9 => h9) rfl dX12_statement_62 ?_
              obtain ⟨b65, hf⟩ := gb_ix hf
              refine gp_iast hx hb hK hG hS mg_letterAt b65 mu_letterAt dX12_statement_65 (fun H locs hG hS => ?_)
              refine lv_aload_n hx hb dX12_statement_66 rfl (lv_at hl 1 rfl) ?_
              refine lv_dup hx hb dX12_statement_67 rfl ?_
              refine gp_get (v := .int i_at) (C := RX12) (T := TX12) (N := 33) (ci := 10) hx hb hts hin hown hK hG mg_o rfl 19 (by decide) (hts _ (List.mem_of_getElem? (i := 4) rfl)) (fun _ h9 => h9) rfl dX12_statement_68 ?_
              refine lv_iconst (v := 1) hx hb dX12_statement_71 (by decide) ?_
              refine lv_iadd hx hb dX12_statement_72 ?_
              refine gp_put (v := .int (i_at + 1)) (tyk := .int) (C := RX12) (T := TX12) (N := 33) (ci := 10) hx hb hts hin tyX12 tyX12_ok nmX12 hown hK hG hS mg_o rfl 19 (by decide) (hts _ (List.mem_of_getElem? (i := 4) rfl)) (fun _ h9 => h9) rfl rfl rfl rfl (Nat.le_of_ble_eq_true rfl) mu_at dX12_statement_73 (fun H locs hG hS => ?_)
              refine lv_aload_n hx hb dX12_statement_76 rfl (lv_at hl 1 rfl) ?_
              refine lv_iload_n hx hb dX12_statement_77 rfl (lv_at hl 0 rfl) ?_
              refine lv_iconst (v := 3) hx hb dX12_statement_78 (by decide) ?_
              refine lv_aload_n hx hb dX12_statement_79 rfl (lv_at hl 1 rfl) ?_
              refine gp_get (v := .int i_statements) (C := RX12) (T := TX12) (N := 33) (ci := 10) hx hb hts hin hown hK hG mg_o rfl 20 (by decide) (hts _ (List.mem_of_getElem? (i := 2) rfl)) (fun _ h9 => h9) rfl dX12_statement_80 ?_
              refine lv_imul hx hb dX12_statement_83 ?_
              obtain ⟨o84, hc84, hf⟩ := gb_b hf
              refine gp_callI (va_runV (As := [.int o1, .int (3 * i_statements)]) (rest := []) ⟨hx, hb, hml, hown, hts⟩ (c_X12_readsAll (l := l) (D := D) (b := b) (M := M) (cI := cI) (cL := cL) hc84) (cwV 2 hts gX12_statement_X12_readsAll rfl rfl rfl (by decide +kernel) ⟨Nat.le_of_ble_eq_true rfl, Nat.le_of_ble_eq_true rfl⟩) (gp_preV hKn hG mg_o rfl) rfl rfl hl.1 rfl (lv_room (Nat.le_of_ble_eq_true rfl)) dX12_statement_84 ⟨Nat.le_of_ble_eq_true rfl, Nat.le_of_ble_eq_true rfl⟩) hS (fun H locs hG hS => ?_)
              refine lv_if_eq (tgt := 99) hx hb dX12_statement_87 (by decide) (fun c87 => ?_) (fun c87 => ?_)
              · have hf := gb_t c87 hf
                refine lv_iconst (v := 0) hx hb dX12_statement_99 (by decide) ?_
                have hf := Option.some.inj hf
                subst hf
                exact gp_retZ hx hb hr (Or.inl rfl) hlocks hG hS (Nat.le_refl _) (Nat.le_refl _) dX12_statement_100
              · have hf := gb_f c87 hf
                refine lv_aload_n hx hb dX12_statement_90 rfl (lv_at hl 1 rfl) ?_
                obtain ⟨o91, hc91, hf⟩ := gb_b hf
                refine gp_callI (va_runV (As := []) (rest := []) ⟨hx, hb, hml, hown, hts⟩ (c_X12_signAt (l := l) (D := D) (b := b) (M := M) (cI := cI) (cL := cL) hc91) (cwV 0 hts gX12_statement_X12_signAt rfl rfl rfl (by decide +kernel) ⟨Nat.le_of_ble_eq_true rfl, Nat.le_of_ble_eq_true rfl⟩) (gp_preV hKn hG mg_o rfl) rfl rfl hl.1 rfl (lv_room (Nat.le_of_ble_eq_true rfl)) dX12_statement_91 ⟨Nat.le_of_ble_eq_true rfl, Nat.le_of_ble_eq_true rfl⟩) hS (fun H locs hG hS => ?_)
                refine lv_bipush (v := 59) hx hb dX12_statement_94 (by decide) ?_
                refine lv_icmp_eq (tgt := 101) hx hb dX12_statement_96 (by decide) (fun c96 => ?_) (fun c96 => ?_)
                · have hf := gb_t c96 hf
                  refine lv_aload_n hx hb dX12_statement_101 rfl (lv_at hl 1 rfl) ?_
                  refine lv_dup hx hb dX12_statement_102 rfl ?_
                  refine gp_get (v := .int o84.2.2) (C := RX12) (T := TX12) (N := 33) (ci := 10) hx hb hts hin hown hK hG mg_o rfl 19 (by decide) (hts _ (List.mem_of_getElem? (i := 4) rfl)) (fun _ h9 => h9) rfl dX12_statement_103 ?_
                  refine lv_iconst (v := 1) hx hb dX12_statement_106 (by decide) ?_
                  refine lv_iadd hx hb dX12_statement_107 ?_
                  refine gp_put (v := .int (o84.2.2 + 1)) (tyk := .int) (C := RX12) (T := TX12) (N := 33) (ci := 10) hx hb hts hin tyX12 tyX12_ok nmX12 hown hK hG hS mg_o rfl 19 (by decide) (hts _ (List.mem_of_getElem? (i := 4) rfl)) (fun _ h9 => h9) rfl rfl rfl rfl (Nat.le_of_ble_eq_true rfl) mu_at dX12_statement_108 (fun H locs hG hS => ?_)
                  refine lv_iconst (v := 1) hx hb dX12_statement_111 (by decide) ?_
                  have hf := Option.some.inj hf
                  subst hf
                  exact gp_retZ hx hb hr (Or.inr rfl) hlocks hG hS (Nat.le_refl _) (Nat.le_refl _) dX12_statement_112
                · have hf := gb_f c96 hf
                  refine lv_iconst (v := 0) hx hb dX12_statement_99 (by decide) ?_
                  have hf := Option.some.inj hf
                  subst hf
                  exact gp_retZ hx hb hr (Or.inl rfl) hlocks hG hS (Nat.le_refl _) (Nat.le_refl _) dX12_statement_100
            · have hf := gb_f c38 hf
              refine lv_iconst (v := 0) hx hb dX12_statement_41 (by decide) ?_
              have hf := Option.some.inj hf
              subst hf
              exact gp_retZ hx hb hr (Or.inl rfl) hlocks hG hS (Nat.le_refl _) (Nat.le_refl _) dX12_statement_42
-- X12_comesLamp
abbrev rm_X12_comesLamp : Room := { frames := 1, cells := 0, slots := 0, locals := 20 }
set_option maxHeartbeats 4000000 in
set_option maxRecDepth 100000 in
theorem c_X12_comesLamp {v1 : Int32} {R : Int32 × (Nat → Int32) × (Nat → Int32) × (Nat → Int32) × (Nat → Int32) × (Nat → Int32) × Int32} (hf : f_X12_comesLamp a_kind a_lampCell a_range a_lit a_scenes i_lampMany a_told v1 = some R) : Met l yX12_comesLamp wsX12_comesLamp rm_X12_comesLamp (va_Pc [.ref h0, .int v1] (gPre D b M (mg cI h0 a_refused a_isWall a_kind a_lampCell a_range a_lit a_scenes a_who a_cell a_minuteOf a_standsAt i_lampMany i_people i_minute a_tape a_letter a_letterAt a_told i_taped i_at i_statements a_kept i_hasImage i_isKeeping i_cursor a_far a_shut a_queue i_queued a_litBy a_may a_row i_rowMany g0) (gTy cI cL))) (gQ D b (some (.int R.1)) M (mg cI h0 a_refused a_isWall R.2.1 R.2.2.1 R.2.2.2.1 R.2.2.2.2.1 R.2.2.2.2.2.1 a_who a_cell a_minuteOf a_standsAt R.2.2.2.2.2.2 i_people i_minute a_tape a_letter a_letterAt a_told i_taped i_at i_statements a_kept i_hasImage i_isKeeping i_cursor a_far a_shut a_queue i_queued a_litBy a_may a_row i_rowMany g0)) 0 0 (gA b) := by
  refine gp_met (cc := cX12_comesLamp) (maxL := 2) (ret := (some .boolean)) (by decide) rfl (Nat.le_of_ble_eq_true rfl) ?_
  intro p e s m below meth c X ls hG hl
  have hS : va_S (gA b) s.heap s.heap [] := va_S.rf
  obtain ⟨H, hH0⟩ : ∃ H : Heap, H = s.heap := ⟨_, rfl⟩
  rw [← hH0] at hG ⊢
  have hS : va_S (gA b) s.heap H [] := by rw [hH0]; exact va_S.rf
  obtain ⟨locs, hlo⟩ : ∃ z : List Loc, z = [] := ⟨_, rfl⟩
  rw [← hlo] at hS ⊢
  unfold f_X12_comesLamp at hf
  obtain ⟨hx, hb, hr, hml, hown, hts, hlocks, hKn, hBs⟩ := id X
  have hK := hKn.1
  have hin : ∀ w ∈ wsX120, w ∈ wsX12_comesLamp := fun w h => List.mem_cons_of_mem _ (List.mem_append_right _ h)
  have hl : lv_has ls 2 [(0, .ref h0), (1, .int v1)] := hl
  refine lv_aload_n hx hb dX12_comesLamp_0 rfl (lv_at hl 0 rfl) ?_
  refine gp_get (v := .ref (h0 + 15)) (C := RX12) (T := TX12) (N := 33) (ci := 10) hx hb hts hin hown hK hG mg_o rfl 17 (by decide) (hts _ (List.mem_of_getElem? (i := 1) rfl)) (fun _ h9 => h9) rfl dX12_comesLamp_1 ?_
  refine lv_iload_n hx hb dX12_comesLamp_4 rfl (lv_at hl 1 rfl) ?_
  refine lv_iconst (v := 1) hx hb dX12_comesLamp_5 (by decide) ?_
  refine lv_iadd hx hb dX12_comesLamp_6 ?_
  obtain ⟨b7, hf⟩ := gb_ix hf
  refine gp_iald hx hb hK hG mg_told b7 dX12_comesLamp_7 ?_
  obtain ⟨o8, hc8, hf⟩ := gb_b hf
  refine gp_callI (va_runS (As := [.int (a_told (v1 + 1).toNatClampNeg)]) (rest := []) ⟨hx, hb, hml, hown, hts⟩ (c_X12_isCell (l := l) (D := D) (b := b) (M := M) (cI := cI) (cL := cL) hc8) (va_cwS 1 hts gX12_comesLamp_X12_isCell rfl rfl rfl (by decide +kernel) ⟨Nat.le_of_ble_eq_true rfl, Nat.le_of_ble_eq_true rfl⟩) (gp_preS hKn hG) rfl rfl hl.1 rfl (lv_room (Nat.le_of_ble_eq_true rfl)) dX12_comesLamp_8 ⟨Nat.le_of_ble_eq_true rfl, Nat.le_of_ble_eq_true rfl⟩) hS (fun H locs hG hS => ?_)
  refine lv_if_eq (tgt := 35) hx hb dX12_comesLamp_11 (by decide) (fun c11 => ?_) (fun c11 => ?_)
  · have hf := gb_t c11 hf
    refine lv_iconst (v := 0) hx hb dX12_comesLamp_35 (by decide) ?_
    have hf := Option.some.inj hf
    subst hf
    exact gp_retZ hx hb hr (Or.inl rfl) hlocks hG hS (Nat.le_refl _) (Nat.le_refl _) dX12_comesLamp_36
  · have hf := gb_f c11 hf
    refine lv_aload_n hx hb dX12_comesLamp_14 rfl (lv_at hl 0 rfl) ?_
    refine gp_get (v := .ref (h0 + 15)) (C := RX12) (T := TX12) (N := 33) (ci := 10) hx hb hts hin hown hK hG mg_o rfl 17 (by decide) (hts _ (List.mem_of_getElem? (i := 1) rfl)) (fun _ h9 => h9) rfl dX12_comesLamp_15 ?_
    refine lv_iload_n hx hb dX12_comesLamp_18 rfl (lv_at hl 1 rfl) ?_
    refine lv_iconst (v := 2) hx hb dX12_comesLamp_19 (by decide) ?_
    refine lv_iadd hx hb dX12_comesLamp_20 ?_
    obtain ⟨b21, hf⟩ := gb_ix hf
    refine gp_iald hx hb hK hG mg_told b21 dX12_comesLamp_21 ?_
    refine lv_iconst (v := 5) hx hb dX12_comesLamp_22 (by decide) ?_
    refine lv_icmp_gt (tgt := 35) hx hb dX12_comesLamp_23 (by decide) (fun c23 => ?_) (fun c23 => ?_)
    · have hf := gb_t c23 hf
      refine lv_iconst (v := 0) hx hb dX12_comesLamp_35 (by decide) ?_
      have hf := Option.some.inj hf
      subst hf
      exact gp_retZ hx hb hr (Or.inl rfl) hlocks hG hS (Nat.le_refl _) (Nat.le_refl _) dX12_comesLamp_36
    · have hf := gb_f c23 hf
      refine lv_aload_n hx hb dX12_comesLamp_26 rfl (lv_at hl 0 rfl) ?_
      refine gp_get (v := .int i_lampMany) (C := RX12) (T := TX12) (N := 33) (ci := 10) hx hb hts hin hown hK hG mg_o rfl 11 (by decide) (hts _ (List.mem_of_getElem? (i := 2) rfl)) (fun _ h9 => h9) rfl dX12_comesLamp_27 ?_
      refine lv_bipush (v := 6) hx hb dX12_comesLamp_30 (by decide) ?_
      refine lv_icmp_ne (tgt := 37) hx hb dX12_comesLamp_32 (by decide) (fun c32 => ?_) (fun c32 => ?_)
      · have hf := gb_f c32 hf
        refine lv_aload_n hx hb dX12_comesLamp_37 rfl (lv_at hl 0 rfl) ?_
        refine gp_get (v := .ref (h0 + 3)) (C := RX12) (T := TX12) (N := 33) (ci := 10) hx hb hts hin hown hK hG mg_o rfl 2 (by decide) (hts _ (List.mem_of_getElem? (i := 3) rfl)) (fun _ h9 => h9) rfl dX12_comesLamp_38 ?_
        refine lv_aload_n hx hb dX12_comesLamp_41 rfl (lv_at hl 0 rfl) ?_
        refine gp_get (v := .int i_lampMany) (C := RX12) (T := TX12) (N := 33) (ci := 10) hx hb hts hin hown hK hG mg_o rfl 11 (by decide) (hts _ (List.mem_of_getElem? (i := 2) rfl)) (fun _ h9 => h9) rfl dX12_comesLamp_42 ?_
        refine lv_aload_n hx hb dX12_comesLamp_45 rfl (lv_at hl 0 rfl) ?_
        refine gp_get (v := .ref (h0 + 15)) (C := RX12) (T := TX12) (N := 33) (ci := 10) hx hb hts hin hown hK hG mg_o rfl 17 (by decide) (hts _ (List.mem_of_getElem? (i := 1) rfl)) (fun _ h9 => h9) rfl dX12_comesLamp_46 ?_
        refine lv_iload_n hx hb dX12_comesLamp_49 rfl (lv_at hl 1 rfl) ?_
        obtain ⟨b50, hf⟩ := gb_ix hf
        refine gp_iald hx hb hK hG mg_told b50 dX12_comesLamp_50 ?_
        obtain ⟨b51, hf⟩ := gb_ix hf
        refine gp_iast hx hb hK hG hS mg_kind b51 mu_kind dX12_comesLamp_51 (fun H locs hG hS => ?_)
        refine lv_aload_n hx hb dX12_comesLamp_52 rfl (lv_at hl 0 rfl) ?_
        refine gp_get (v := .ref (h0 + 4)) (C := RX12) (T := TX12) (N := 33) (ci := 10) hx hb hts hin hown hK hG mg_o rfl 3 (by decide) (hts _ (List.mem_of_getElem? (i := 4) rfl)) (fun _ h9 => h9) rfl dX12_comesLamp_53 ?_
        refine lv_aload_n hx hb dX12_comesLamp_56 rfl (lv_at hl 0 rfl) ?_
        refine gp_get (v := .int i_lampMany) (C := RX12) (T := TX12) (N := 33) (ci := 10) hx hb hts hin hown hK hG mg_o rfl 11 (by decide) (hts _ (List.mem_of_getElem? (i := 2) rfl)) (fun _ h9 => h9) rfl dX12_comesLamp_57 ?_
        refine lv_aload_n hx hb dX12_comesLamp_60 rfl (lv_at hl 0 rfl) ?_
        refine gp_get (v := .ref (h0 + 15)) (C := RX12) (T := TX12) (N := 33) (ci := 10) hx hb hts hin hown hK hG mg_o rfl 17 (by decide) (hts _ (List.mem_of_getElem? (i := 1) rfl)) (fun _ h9 => h9) rfl dX12_comesLamp_61 ?_
        refine lv_iload_n hx hb dX12_comesLamp_64 rfl (lv_at hl 1 rfl) ?_
        refine lv_iconst (v := 1) hx hb dX12_comesLamp_65 (by decide) ?_
        refine lv_iadd hx hb dX12_comesLamp_66 ?_
        obtain ⟨b67, hf⟩ := gb_ix hf
        refine gp_iald hx hb hK hG mg_told b67 dX12_comesLamp_67 ?_
        obtain ⟨b68, hf⟩ := gb_ix hf
        refine gp_iast hx hb hK hG hS mg_lampCell b68 mu_lampCell dX12_comesLamp_68 (fun H locs hG hS => ?_)
        refine lv_aload_n hx hb dX12_comesLamp_69 rfl (lv_at hl 0 rfl) ?_
        refine gp_get (v := .ref (h0 + 5)) (C := RX12) (T := TX12) (N := 33) (ci := 10) hx hb hts hin hown hK hG mg_o rfl 4 (by decide) (hts _ (List.mem_of_getElem? (i := 5) rfl)) (fun _ h9 => h9) rfl dX12_comesLamp_70 ?_
        refine lv_aload_n hx hb dX12_comesLamp_73 rfl (lv_at hl 0 rfl) ?_
        refine gp_get (v := .int i_lampMany) (C := RX12) (T := TX12) (N := 33) (ci := 10) hx hb hts hin hown hK hG mg_o rfl 11 (by decide) (hts _ (List.mem_of_getElem? (i := 2) rfl)) (fun _ h9 => h9) rfl dX12_comesLamp_74 ?_
        refine lv_aload_n hx hb dX12_comesLamp_77 rfl (lv_at hl 0 rfl) ?_
        refine gp_get (v := .ref (h0 + 15)) (C := RX12) (T := TX12) (N := 33) (ci := 10) hx hb hts hin hown hK hG mg_o rfl 17 (by decide) (hts _ (List.mem_of_getElem? (i := 1) rfl)) (fun _ h9 => h9) rfl dX12_comesLamp_78 ?_
        refine lv_iload_n hx hb dX12_comesLamp_81 rfl (lv_at hl 1 rfl) ?_
        refine lv_iconst (v := 2) hx hb dX12_comesLamp_82 (by decide) ?_
        refine lv_iadd hx hb dX12_comesLamp_83 ?_
        obtain ⟨b84, hf⟩ := gb_ix hf
        refine gp_iald hx hb hK hG mg_told b84 dX12_comesLamp_84 ?_
        obtain ⟨b85, hf⟩ := gb_ix hf
        refine gp_iast hx hb hK hG hS mg_range b85 mu_range dX12_comesLamp_85 (fun H locs hG hS => ?_)
        refine lv_aload_n hx hb dX12_comesLamp_86 rfl (lv_at hl 0 rfl) ?_
        refine gp_get (v := .ref (h0 + 6)) (C := RX12) (T := TX12) (N := 33) (ci := 10) hx hb hts hin hown hK hG mg_o rfl 5 (by decide) (hts _ (List.mem_of_getElem? (i := 6) rfl)) (fun _ h9 => h9) rfl dX12_comesLamp_87 ?_
        refine lv_aload_n hx hb dX12_comesLamp_90 rfl (lv_at hl 0 rfl) ?_
        refine gp_get (v := .int i_lampMany) (C := RX12) (T := TX12) (N := 33) (ci := 10) hx hb hts hin hown hK hG mg_o rfl 11 (by decide) (hts _ (List.mem_of_getElem? (i := 2) rfl)) (fun _ h9 => h9) rfl dX12_comesLamp_91 ?_
        refine lv_iconst (v := 1) hx hb dX12_comesLamp_94 (by decide) ?_
        obtain ⟨b95, hf⟩ := gb_ix hf
        refine gp_iast hx hb hK hG hS mg_lit b95 mu_lit dX12_comesLamp_95 (fun H locs hG hS => ?_)
        refine lv_aload_n hx hb dX12_comesLamp_96 rfl (lv_at hl 0 rfl) ?_
        refine gp_get (v := .ref (h0 + 7)) (C := RX12) (T := TX12) (N := 33) (ci := 10) hx hb hts hin hown hK hG mg_o rfl 6 (by decide) (hts _ (List.mem_of_getElem? (i := 7) rfl)) (fun _ h9 => h9) rfl dX12_comesLamp_97 ?_
        refine lv_aload_n hx hb dX12_comesLamp_100 rfl (lv_at hl 0 rfl) ?_
        refine gp_get (v := .int i_lampMany) (C := RX12) (T := TX12) (N := 33) (ci := 10) hx hb hts hin hown hK hG mg_o rfl 11 (by decide) (hts _ (List.mem_of_getElem? (i := 2) rfl)) (fun _ h9 => h9) rfl dX12_comesLamp_101 ?_
        refine lv_iconst (v := 0) hx hb dX12_comesLamp_104 (by decide) ?_
        obtain ⟨b105, hf⟩ := gb_ix hf
        refine gp_iast hx hb hK hG hS mg_scenes b105 mu_scenes dX12_comesLamp_105 (fun H locs hG hS => ?_)
        refine lv_aload_n hx hb dX12_comesLamp_106 rfl (lv_at hl 0 rfl) ?_
        refine lv_dup hx hb dX12_comesLamp_107 rfl ?_
        refine gp_get (v := .int i_lampMany) (C := RX12) (T := TX12) (N := 33) (ci := 10) hx hb hts hin hown hK hG mg_o rfl 11 (by decide) (hts _ (List.mem_of_getElem? (i := 2) rfl)) (fun _ h9 => h9) rfl dX12_comesLamp_108 ?_
        refine lv_iconst (v := 1) hx hb dX12_comesLamp_111 (by decide) ?_
        refine lv_iadd hx hb dX12_comesLamp_112 ?_
        refine gp_put (v := .int (i_lampMany + 1)) (tyk := .int) (C := RX12) (T := TX12) (N := 33) (ci := 10) hx hb hts hin tyX12 tyX12_ok nmX12 hown hK hG hS mg_o rfl 11 (by decide) (hts _ (List.mem_of_getElem? (i := 2) rfl)) (fun _ h9 => h9) rfl rfl rfl rfl (Nat.le_of_ble_eq_true rfl) mu_lampMany dX12_comesLamp_113 (fun H locs hG hS => ?_)
        refine lv_iconst (v := 1) hx hb dX12_comesLamp_116 (by decide) ?_
        have hf := Option.some.inj hf
        subst hf
        exact gp_retZ hx hb hr (Or.inr rfl) hlocks hG hS (Nat.le_refl _) (Nat.le_refl _) dX12_comesLamp_117
      · have hf := gb_t c32 hf
        refine lv_iconst (v := 0) hx hb dX12_comesLamp_35 (by decide) ?_
        have hf := Option.some.inj hf
        subst hf
        exact gp_retZ hx hb hr (Or.inl rfl) hlocks hG hS (Nat.le_refl _) (Nat.le_refl _) dX12_comesLamp_36
-- X12_isSomebodyAt
abbrev rm_X12_isSomebodyAt : Room := { frames := 0, cells := 0, slots := 0, locals := 0 }
set_option maxHeartbeats 4000000 in
set_option maxRecDepth 100000 in
theorem w_X12_isSomebodyAt_2 {α : Type} {R : α} {K20 : Unit → Option α} {K28 : Unit → Option α} {v1 : Int32} (X : gC p s m args meth c cX12_isSomebodyAt 3 (some .boolean) wsX12_isSomebodyAt RX12 D b (gTy cI cL)) : ∀ (n : Nat) (v2 : Int32), L_X12_isSomebodyAt_2 K20 K28 a_standsAt i_people v1 n v2 = some R → (∀ (x : Unit), K20 x = some R → ∀ (H : Heap) (locs : List Loc) (ls : Array Slot), GP D b M (mg cI h0 a_refused a_isWall a_kind a_lampCell a_range a_lit a_scenes a_who a_cell a_minuteOf a_standsAt i_lampMany i_people i_minute a_tape a_letter a_letterAt a_told i_taped i_at i_statements a_kept i_hasImage i_isKeeping i_cursor a_far a_shut a_queue i_queued a_litBy a_may a_row i_rowMany g0) H → va_S (gA b) s.heap H locs → lv_has ls 3 [] → W p l e rm_X12_isSomebodyAt s m args below meth c H locs 0 0 Q (F0 m 20 ls [])) → (∀ (x : Unit), K28 x = some R → ∀ (H : Heap) (locs : List Loc) (ls : Array Slot), GP D b M (mg cI h0 a_refused a_isWall a_kind a_lampCell a_range a_lit a_scenes a_who a_cell a_minuteOf a_standsAt i_lampMany i_people i_minute a_tape a_letter a_letterAt a_told i_taped i_at i_statements a_kept i_hasImage i_isKeeping i_cursor a_far a_shut a_queue i_queued a_litBy a_may a_row i_rowMany g0) H → va_S (gA b) s.heap H locs → lv_has ls 3 [] → W p l e rm_X12_isSomebodyAt s m args below meth c H locs 0 0 Q (F0 m 28 ls [])) → ∀ (H : Heap) (locs : List Loc) (ls : Array Slot), GP D b M (mg cI h0 a_refused a_isWall a_kind a_lampCell a_range a_lit a_scenes a_who a_cell a_minuteOf a_standsAt i_lampMany i_people i_minute a_tape a_letter a_letterAt a_told i_taped i_at i_statements a_kept i_hasImage i_isKeeping i_cursor a_far a_shut a_queue i_queued a_litBy a_may a_row i_rowMany g0) H → va_S (gA b) s.heap H locs → lv_has ls 3 [(0, .ref h0), (1, .int v1), (2, .int v2)] → W p l e rm_X12_isSomebodyAt s m args below meth c H locs 0 0 Q (F0 m 2 ls []) := by
  obtain ⟨hx, hb, hr, hml, hown, hts, hlocks, hKn, hBs⟩ := id X
  have hK := hKn.1
  have hin : ∀ w ∈ wsX120, w ∈ wsX12_isSomebodyAt := fun w h => List.mem_cons_of_mem _ (List.mem_append_right _ h)
  intro n
  induction n with
  | zero =>
    intro v2 hf
    cases hf
  | succ n ih =>
    intro v2 hf hk20 hk28 H locs ls hG hS hl
    rw [L_X12_isSomebodyAt_2.eq_2] at hf
    refine lv_iload_n hx hb dX12_isSomebodyAt_2 rfl (lv_at hl 2 rfl) ?_
    refine lv_aload_n hx hb dX12_isSomebodyAt_3 rfl (lv_at hl 0 rfl) ?_
    refine gp_get (v := .int i_people) (C := RX12) (T := TX12) (N := 33) (ci := 10) hx hb hts hin hown hK hG mg_o rfl 12 (by decide) (hts _ (List.mem_of_getElem? (i := 1) rfl)) (fun _ h9 => h9) rfl dX12_isSomebodyAt_4 ?_
    refine lv_icmp_ge (tgt := 28) hx hb dX12_isSomebodyAt_7 (by decide) (fun c7 => ?_) (fun c7 => ?_)
    · have hf := gb_t c7 hf
      exact hk28 _ hf _ _ _ hG hS (lv_sub hl [] rfl)
    · have hf := gb_f c7 hf
      refine lv_aload_n hx hb dX12_isSomebodyAt_10 rfl (lv_at hl 0 rfl) ?_
      refine gp_get (v := .ref (h0 + 11)) (C := RX12) (T := TX12) (N := 33) (ci := 10) hx hb hts hin hown hK hG mg_o rfl 10 (by decide) (hts _ (List.mem_of_getElem? (i := 2) rfl)) (fun _ h9 => h9) rfl dX12_isSomebodyAt_11 ?_
      refine lv_iload_n hx hb dX12_isSomebodyAt_14 rfl (lv_at hl 2 rfl) ?_
      obtain ⟨b15, hf⟩ := gb_ix hf
      refine gp_iald hx hb hK hG mg_standsAt b15 dX12_isSomebodyAt_15 ?_
      refine lv_iload_n hx hb dX12_isSomebodyAt_16 rfl (lv_at hl 1 rfl) ?_
      refine lv_icmp_ne (tgt := 22) hx hb dX12_isSomebodyAt_17 (by decide) (fun c17 => ?_) (fun c17 => ?_)
      · have hf := gb_f c17 hf
        refine lv_iinc (v := v2 + 1) (lv' := [(2, .int (v2 + 1)), (0, .ref h0), (1, .int v1)]) hx hb dX12_isSomebodyAt_22 hl (k := 2) rfl rfl (by decide) rfl (fun ls hl => ?_)
        refine lv_goto (tgt := 2) hx hb dX12_isSomebodyAt_25 (by decide) ?_
        exact ih _ hf hk20 hk28 _ _ _ hG hS (lv_sub hl [1, 2, 0] rfl)
      · have hf := gb_t c17 hf
        exact hk20 _ hf _ _ _ hG hS (lv_sub hl [] rfl)
set_option maxHeartbeats 4000000 in
set_option maxRecDepth 100000 in
theorem c_X12_isSomebodyAt {v1 : Int32} {R : Int32} (hf : f_X12_isSomebodyAt a_standsAt i_people v1 = some R) : Met l yX12_isSomebodyAt wsX12_isSomebodyAt rm_X12_isSomebodyAt (va_Pc [.ref h0, .int v1] (gPre D b M (mg cI h0 a_refused a_isWall a_kind a_lampCell a_range a_lit a_scenes a_who a_cell a_minuteOf a_standsAt i_lampMany i_people i_minute a_tape a_letter a_letterAt a_told i_taped i_at i_statements a_kept i_hasImage i_isKeeping i_cursor a_far a_shut a_queue i_queued a_litBy a_may a_row i_rowMany g0) (gTy cI cL))) (gQ D b (some (.int R)) M (mg cI h0 a_refused a_isWall a_kind a_lampCell a_range a_lit a_scenes a_who a_cell a_minuteOf a_standsAt i_lampMany i_people i_minute a_tape a_letter a_letterAt a_told i_taped i_at i_statements a_kept i_hasImage i_isKeeping i_cursor a_far a_shut a_queue i_queued a_litBy a_may a_row i_rowMany g0)) 0 0 (gA b) := by
  refine gp_met (cc := cX12_isSomebodyAt) (maxL := 3) (ret := (some .boolean)) (by decide) rfl (Nat.le_of_ble_eq_true rfl) ?_
  intro p e s m below meth c X ls hG hl
  have hS : va_S (gA b) s.heap s.heap [] := va_S.rf
  obtain ⟨H, hH0⟩ : ∃ H : Heap, H = s.heap := ⟨_, rfl⟩
  rw [← hH0] at hG ⊢
  have hS : va_S (gA b) s.heap H [] := by rw [hH0]; exact va_S.rf
  obtain ⟨locs, hlo⟩ : ∃ z : List Loc, z = [] := ⟨_, rfl⟩
  rw [← hlo] at hS ⊢
  unfold f_X12_isSomebodyAt at hf
  obtain ⟨hx, hb, hr, hml, hown, hts, hlocks, hKn, hBs⟩ := id X
  have hK := hKn.1
  have hin : ∀ w ∈ wsX120, w ∈ wsX12_isSomebodyAt := fun w h => List.mem_cons_of_mem _ (List.mem_append_right _ h)
  have hl : lv_has ls 3 [(0, .ref h0), (1, .int v1)] := hl
  refine lv_iconst (v := 0) hx hb dX12_isSomebodyAt_0 (by decide) ?_
  refine lv_istore_n (lv' := [(2, .int 0), (0, .ref h0), (1, .int v1)]) hx hb dX12_isSomebodyAt_1 rfl hl (by decide) rfl (fun ls hl => ?_)
  refine w_X12_isSomebodyAt_2 X _ _ hf (fun x2_20 hf H locs ls hG hS hl => ?_) (fun x2_28 hf H locs ls hG hS hl => ?_) _ _ _ hG hS (lv_sub hl [1, 2, 0] rfl)
  · refine lv_iconst (v := 1) hx hb dX12_isSomebodyAt_20 (by decide) ?_
    have hf := Option.some.inj hf
    subst hf
    exact gp_retZ hx hb hr (Or.inr rfl) hlocks hG hS (Nat.le_refl _) (Nat.le_refl _) dX12_isSomebodyAt_21
  · refine lv_iconst (v := 0) hx hb dX12_isSomebodyAt_28 (by decide) ?_
    have hf := Option.some.inj hf
    subst hf
    exact gp_retZ hx hb hr (Or.inl rfl) hlocks hG hS (Nat.le_refl _) (Nat.le_refl _) dX12_isSomebodyAt_29
-- X12_wallMany
abbrev rm_X12_wallMany : Room := { frames := 0, cells := 0, slots := 0, locals := 0 }
set_option maxHeartbeats 4000000 in
set_option maxRecDepth 100000 in
theorem w_X12_wallMany_4 {α : Type} {R : α} {K25 : Int32 → Option α} (X : gC p s m args meth c cX12_wallMany 3 (some .int) wsX12_wallMany RX12 D b (gTy cI cL)) : ∀ (n : Nat) (v1 : Int32) (v2 : Int32), L_X12_wallMany_4 K25 a_isWall n v1 v2 = some R → (∀ (x : Int32), K25 x = some R → ∀ (H : Heap) (locs : List Loc) (ls : Array Slot), GP D b M (mg cI h0 a_refused a_isWall a_kind a_lampCell a_range a_lit a_scenes a_who a_cell a_minuteOf a_standsAt i_lampMany i_people i_minute a_tape a_letter a_letterAt a_told i_taped i_at i_statements a_kept i_hasImage i_isKeeping i_cursor a_far a_shut a_queue i_queued a_litBy a_may a_row i_rowMany g0) H → va_S (gA b) s.heap H locs → lv_has ls 3 [(1, .int x)] → W p l e rm_X12_wallMany s m args below meth c H locs 0 0 Q (F0 m 25 ls [])) → ∀ (H : Heap) (locs : List Loc) (ls : Array Slot), GP D b M (mg cI h0 a_refused a_isWall a_kind a_lampCell a_range a_lit a_scenes a_who a_cell a_minuteOf a_standsAt i_lampMany i_people i_minute a_tape a_letter a_letterAt a_told i_taped i_at i_statements a_kept i_hasImage i_isKeeping i_cursor a_far a_shut a_queue i_queued a_litBy a_may a_row i_rowMany g0) H → va_S (gA b) s.heap H locs → lv_has ls 3 [(0, .ref h0), (1, .int v1), (2, .int v2)] → W p l e rm_X12_wallMany s m args below meth c H locs 0 0 Q (F0 m 4 ls []) := by
  obtain ⟨hx, hb, hr, hml, hown, hts, hlocks, hKn, hBs⟩ := id X
  have hK := hKn.1
  have hin : ∀ w ∈ wsX120, w ∈ wsX12_wallMany := fun w h => List.mem_cons_of_mem _ (List.mem_append_right _ h)
  intro n
  induction n with
  | zero =>
    intro v1 v2 hf
    cases hf
  | succ n ih =>
    intro v1 v2 hf hk25 H locs ls hG hS hl
    rw [L_X12_wallMany_4.eq_2] at hf
    refine lv_iload_n hx hb dX12_wallMany_4 rfl (lv_at hl 2 rfl) ?_
    refine lv_bipush (v := 36) hx hb dX12_wallMany_5 (by decide) ?_
    refine lv_icmp_ge (tgt := 25) hx hb dX12_wallMany_7 (by decide) (fun c7 => ?_) (fun c7 => ?_)
    · have hf := gb_t c7 hf
      exact hk25 _ hf _ _ _ hG hS (lv_sub hl [1] rfl)
    · have hf := gb_f c7 hf
      refine lv_iload_n hx hb dX12_wallMany_10 rfl (lv_at hl 1 rfl) ?_
      refine lv_aload_n hx hb dX12_wallMany_11 rfl (lv_at hl 0 rfl) ?_
      refine gp_get (v := .ref (h0 + 2)) (C := RX12) (T := TX12) (N := 33) (ci := 10) hx hb hts hin hown hK hG mg_o rfl 1 (by decide) (hts _ (List.mem_of_getElem? (i := 1) rfl)) (fun _ h9 => h9) rfl dX12_wallMany_12 ?_
      refine lv_iload_n hx hb dX12_wallMany_15 rfl (lv_at hl 2 rfl) ?_
      obtain ⟨b16, hf⟩ := gb_ix hf
      refine gp_iald hx hb hK hG mg_isWall b16 dX12_wallMany_16 ?_
      refine lv_iadd hx hb dX12_wallMany_17 ?_
      refine lv_istore_n (lv' := [(1, .int (v1 + (a_isWall v2.toNatClampNeg))), (0, .ref h0), (2, .int v2)]) hx hb dX12_wallMany_18 rfl hl (by decide) rfl (fun ls hl => ?_)
      refine lv_iinc (v := v2 + 1) (lv' := [(2, .int (v2 + 1)), (1, .int (v1 + (a_isWall v2.toNatClampNeg))), (0, .ref h0)]) hx hb dX12_wallMany_19 hl (k := 2) rfl rfl (by decide) rfl (fun ls hl => ?_)
      refine lv_goto (tgt := 4) hx hb dX12_wallMany_22 (by decide) ?_
      exact ih _ _ hf hk25 _ _ _ hG hS (lv_sub hl [2, 1, 0] rfl)
set_option maxHeartbeats 4000000 in
set_option maxRecDepth 100000 in
theorem c_X12_wallMany {R : Int32} (hf : f_X12_wallMany a_isWall = some R) : Met l yX12_wallMany wsX12_wallMany rm_X12_wallMany (va_Pc [.ref h0] (gPre D b M (mg cI h0 a_refused a_isWall a_kind a_lampCell a_range a_lit a_scenes a_who a_cell a_minuteOf a_standsAt i_lampMany i_people i_minute a_tape a_letter a_letterAt a_told i_taped i_at i_statements a_kept i_hasImage i_isKeeping i_cursor a_far a_shut a_queue i_queued a_litBy a_may a_row i_rowMany g0) (gTy cI cL))) (gQ D b (some (.int R)) M (mg cI h0 a_refused a_isWall a_kind a_lampCell a_range a_lit a_scenes a_who a_cell a_minuteOf a_standsAt i_lampMany i_people i_minute a_tape a_letter a_letterAt a_told i_taped i_at i_statements a_kept i_hasImage i_isKeeping i_cursor a_far a_shut a_queue i_queued a_litBy a_may a_row i_rowMany g0)) 0 0 (gA b) := by
  refine gp_met (cc := cX12_wallMany) (maxL := 3) (ret := (some .int)) (by decide) rfl (Nat.le_of_ble_eq_true rfl) ?_
  intro p e s m below meth c X ls hG hl
  have hS : va_S (gA b) s.heap s.heap [] := va_S.rf
  obtain ⟨H, hH0⟩ : ∃ H : Heap, H = s.heap := ⟨_, rfl⟩
  rw [← hH0] at hG ⊢
  have hS : va_S (gA b) s.heap H [] := by rw [hH0]; exact va_S.rf
  obtain ⟨locs, hlo⟩ : ∃ z : List Loc, z = [] := ⟨_, rfl⟩
  rw [← hlo] at hS ⊢
  unfold f_X12_wallMany at hf
  obtain ⟨hx, hb, hr, hml, hown, hts, hlocks, hKn, hBs⟩ := id X
  have hK := hKn.1
  have hin : ∀ w ∈ wsX120, w ∈ wsX12_wallMany := fun w h => List.mem_cons_of_mem _ (List.mem_append_right _ h)
  have hl : lv_has ls 3 [(0, .ref h0)] := hl
  refine lv_iconst (v := 0) hx hb dX12_wallMany_0 (by decide) ?_
  refine lv_istore_n (lv' := [(1, .int 0), (0, .ref h0)]) hx hb dX12_wallMany_1 rfl hl (by decide) rfl (fun ls hl => ?_)
  refine lv_iconst (v := 0) hx hb dX12_wallMany_2 (by decide) ?_
  refine lv_istore_n (lv' := [(2, .int 0), (1, .int 0), (0, .ref h0)]) hx hb dX12_wallMany_3 rfl hl (by decide) rfl (fun ls hl => ?_)
  refine w_X12_wallMany_4 X _ _ _ hf (fun x4_25 hf H locs ls hG hS hl => ?_) _ _ _ hG hS (lv_sub hl [2, 1, 0] rfl)
  · refine lv_iload_n hx hb dX12_wallMany_25 rfl (lv_at hl 0 rfl) ?_
    have hf := Option.some.inj hf
    subst hf
    exact gp_retI hx hb hr hlocks hG hS (Nat.le_refl _) (Nat.le_refl _) dX12_wallMany_26
-- X12_notWall
abbrev rm_X12_notWall : Room := { frames := 1, cells := 0, slots := 0, locals := 22 }
set_option maxHeartbeats 4000000 in
set_option maxRecDepth 100000 in
theorem c_X12_notWall {v1 : Int32} {R : Int32} (hf : f_X12_notWall a_isWall a_standsAt i_people v1 = some R) : Met l yX12_notWall wsX12_notWall rm_X12_notWall (va_Pc [.ref h0, .int v1] (gPre D b M (mg cI h0 a_refused a_isWall a_kind a_lampCell a_range a_lit a_scenes a_who a_cell a_minuteOf a_standsAt i_lampMany i_people i_minute a_tape a_letter a_letterAt a_told i_taped i_at i_statements a_kept i_hasImage i_isKeeping i_cursor a_far a_shut a_queue i_queued a_litBy a_may a_row i_rowMany g0) (gTy cI cL))) (gQ D b (some (.int R)) M (mg cI h0 a_refused a_isWall a_kind a_lampCell a_range a_lit a_scenes a_who a_cell a_minuteOf a_standsAt i_lampMany i_people i_minute a_tape a_letter a_letterAt a_told i_taped i_at i_statements a_kept i_hasImage i_isKeeping i_cursor a_far a_shut a_queue i_queued a_litBy a_may a_row i_rowMany g0)) 0 0 (gA b) := by
  refine gp_met (cc := cX12_notWall) (maxL := 2) (ret := (some .int)) (by decide) rfl (Nat.le_of_ble_eq_true rfl) ?_
  intro p e s m below meth c X ls hG hl
  have hS : va_S (gA b) s.heap s.heap [] := va_S.rf
  obtain ⟨H, hH0⟩ : ∃ H : Heap, H = s.heap := ⟨_, rfl⟩
  rw [← hH0] at hG ⊢
  have hS : va_S (gA b) s.heap H [] := by rw [hH0]; exact va_S.rf
  obtain ⟨locs, hlo⟩ : ∃ z : List Loc, z = [] := ⟨_, rfl⟩
  rw [← hlo] at hS ⊢
  unfold f_X12_notWall at hf
  obtain ⟨hx, hb, hr, hml, hown, hts, hlocks, hKn, hBs⟩ := id X
  have hK := hKn.1
  have hin : ∀ w ∈ wsX120, w ∈ wsX12_notWall := fun w h => List.mem_cons_of_mem _ (List.mem_append_right _ h)
  have hl : lv_has ls 2 [(0, .ref h0), (1, .int v1)] := hl
  refine lv_iload_n hx hb dX12_notWall_0 rfl (lv_at hl 1 rfl) ?_
  obtain ⟨o1, hc1, hf⟩ := gb_b hf
  refine gp_callI (va_runS (As := [.int v1]) (rest := []) ⟨hx, hb, hml, hown, hts⟩ (c_X12_isCell (l := l) (D := D) (b := b) (M := M) (cI := cI) (cL := cL) hc1) (va_cwS 1 hts gX12_notWall_X12_isCell rfl rfl rfl (by decide +kernel) ⟨Nat.le_of_ble_eq_true rfl, Nat.le_of_ble_eq_true rfl⟩) (gp_preS hKn hG) rfl rfl hl.1 rfl (lv_room (Nat.le_of_ble_eq_true rfl)) dX12_notWall_1 ⟨Nat.le_of_ble_eq_true rfl, Nat.le_of_ble_eq_true rfl⟩) hS (fun H locs hG hS => ?_)
  obtain ⟨j4, hj4, hf⟩ := gb_b hf
  have hJ4 : ∀ (H : Heap) (locs : List Loc) (ls : Array Slot), GP D b M (mg cI h0 a_refused a_isWall a_kind a_lampCell a_range a_lit a_scenes a_who a_cell a_minuteOf a_standsAt i_lampMany i_people i_minute a_tape a_letter a_letterAt a_told i_taped i_at i_statements a_kept i_hasImage i_isKeeping i_cursor a_far a_shut a_queue i_queued a_litBy a_may a_row i_rowMany g0) H → va_S (gA b) s.heap H locs → lv_has ls 2 [] → W p l e rm_X12_notWall s m [.ref h0, .int v1].toArray below meth c H locs 0 0 (MQ below (gQ D b (some (.int R)) M (mg cI h0 a_refused a_isWall a_kind a_lampCell a_range a_lit a_scenes a_who a_cell a_minuteOf a_standsAt i_lampMany i_people i_minute a_tape a_letter a_letterAt a_told i_taped i_at i_statements a_kept i_hasImage i_isKeeping i_cursor a_far a_shut a_queue i_queued a_litBy a_may a_row i_rowMany g0)) [.ref h0, .int v1].toArray s 0 0 (gA b)) (F0 m 48 ls [.int j4]) := by
    intro H locs ls hG hS hl
    have hf := Option.some.inj hf
    subst hf
    exact gp_retI hx hb hr hlocks hG hS (Nat.le_refl _) (Nat.le_refl _) dX12_notWall_48
  refine lv_if_ne (tgt := 11) hx hb dX12_notWall_4 (by decide) (fun c4 => ?_) (fun c4 => ?_)
  · have hj4 := gb_f c4 hj4
    refine lv_aload_n hx hb dX12_notWall_11 rfl (lv_at hl 0 rfl) ?_
    refine lv_iload_n hx hb dX12_notWall_12 rfl (lv_at hl 1 rfl) ?_
    obtain ⟨o13, hc13, hj4⟩ := gb_b hj4
    refine gp_callI (va_runV (As := [.int v1]) (rest := []) ⟨hx, hb, hml, hown, hts⟩ (c_X12_isSomebodyAt (l := l) (D := D) (b := b) (M := M) (cI := cI) (cL := cL) hc13) (cwV 1 hts gX12_notWall_X12_isSomebodyAt rfl rfl rfl (by decide +kernel) ⟨Nat.le_of_ble_eq_true rfl, Nat.le_of_ble_eq_true rfl⟩) (gp_preV hKn hG mg_o rfl) rfl rfl hl.1 rfl (lv_room (Nat.le_of_ble_eq_true rfl)) dX12_notWall_13 ⟨Nat.le_of_ble_eq_true rfl, Nat.le_of_ble_eq_true rfl⟩) hS (fun H locs hG hS => ?_)
    refine lv_if_eq (tgt := 24) hx hb dX12_notWall_16 (by decide) (fun c16 => ?_) (fun c16 => ?_)
    · have hj4 := gb_t c16 hj4
      refine lv_aload_n hx hb dX12_notWall_24 rfl (lv_at hl 0 rfl) ?_
      refine gp_get (v := .ref (h0 + 2)) (C := RX12) (T := TX12) (N := 33) (ci := 10) hx hb hts hin hown hK hG mg_o rfl 1 (by decide) (hts _ (List.mem_of_getElem? (i := 1) rfl)) (fun _ h9 => h9) rfl dX12_notWall_25 ?_
      refine lv_iload_n hx hb dX12_notWall_28 rfl (lv_at hl 1 rfl) ?_
      obtain ⟨b29, hj4⟩ := gb_ix hj4
      refine gp_iald hx hb hK hG mg_isWall b29 dX12_notWall_29 ?_
      refine lv_if_ne (tgt := 47) hx hb dX12_notWall_30 (by decide) (fun c30 => ?_) (fun c30 => ?_)
      · have hj4 := gb_f c30 hj4
        refine lv_iconst (v := 0) hx hb dX12_notWall_47 (by decide) ?_
        have hj4 := Option.some.inj hj4
        subst hj4
        exact hJ4 H locs ls hG hS (lv_sub hl [] rfl)
      · have hj4 := gb_t c30 hj4
        refine lv_aload_n hx hb dX12_notWall_33 rfl (lv_at hl 0 rfl) ?_
        obtain ⟨o34, hc34, hj4⟩ := gb_b hj4
        refine gp_callI (va_runV (As := []) (rest := []) ⟨hx, hb, hml, hown, hts⟩ (c_X12_wallMany (l := l) (D := D) (b := b) (M := M) (cI := cI) (cL := cL) hc34) (cwV 0 hts gX12_notWall_X12_wallMany rfl rfl rfl (by decide +kernel) ⟨Nat.le_of_ble_eq_true rfl, Nat.le_of_ble_eq_true rfl⟩) (gp_preV hKn hG mg_o rfl) rfl rfl hl.1 rfl (lv_room (Nat.le_of_ble_eq_true rfl)) dX12_notWall_34 ⟨Nat.le_of_ble_eq_true rfl, Nat.le_of_ble_eq_true rfl⟩) hS (fun H locs hG hS => ?_)
        refine lv_bipush (v := 18) hx hb dX12_notWall_37 (by decide) ?_
        refine lv_icmp_ne (tgt := 47) hx hb dX12_notWall_39 (by decide) (fun c39 => ?_) (fun c39 => ?_)
        · have hj4 := gb_f c39 hj4
          refine lv_iconst (v := 0) hx hb dX12_notWall_47 (by decide) ?_
          have hj4 := Option.some.inj hj4
          subst hj4
          exact hJ4 H locs ls hG hS (lv_sub hl [] rfl)
        · have hj4 := gb_t c39 hj4
          refine lv_bipush (v := (-6 : Int32)) hx hb dX12_notWall_42 (by decide) ?_
          refine lv_goto (tgt := 48) hx hb dX12_notWall_44 (by decide) ?_
          have hj4 := Option.some.inj hj4
          subst hj4
          exact hJ4 H locs ls hG hS (lv_sub hl [] rfl)
    · have hj4 := gb_f c16 hj4
      refine lv_bipush (v := (-3 : Int32)) hx hb dX12_notWall_19 (by decide) ?_
      refine lv_goto (tgt := 48) hx hb dX12_notWall_21 (by decide) ?_
      have hj4 := Option.some.inj hj4
      subst hj4
      exact hJ4 H locs ls hG hS (lv_sub hl [] rfl)
  · have hj4 := gb_t c4 hj4
    refine lv_iconst (v := (-1 : Int32)) hx hb dX12_notWall_7 (by decide) ?_
    refine lv_goto (tgt := 48) hx hb dX12_notWall_8 (by decide) ?_
    have hj4 := Option.some.inj hj4
    subst hj4
    exact hJ4 H locs ls hG hS (lv_sub hl [] rfl)
end
