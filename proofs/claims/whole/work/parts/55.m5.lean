section
variable {p : Program} {l : Launch} {e : Env} {s : State} {m : MethodId} {args : Array Value} {below : List Frame} {meth : Method} {c : Code} {D : va_G} {b : GB} {M : Nat} {cI cL : ClassId} {h0 : Nat} {g0 gh : Nat → va_E} {Q : State → Prop}
variable {a_refused : Nat → Int32} {a_isWall : Nat → Int32} {a_kind : Nat → Int32} {a_lampCell : Nat → Int32} {a_range : Nat → Int32} {a_lit : Nat → Int32} {a_scenes : Nat → Int32} {a_who : Nat → Int32} {a_cell : Nat → Int32} {a_minuteOf : Nat → Int32} {a_standsAt : Nat → Int32} {i_lampMany : Int32} {i_people : Int32} {i_minute : Int32} {a_tape : Nat → Int32} {a_letter : Nat → Int32} {a_letterAt : Nat → Int32} {a_told : Nat → Int32} {i_taped : Int32} {i_at : Int32} {i_statements : Int32} {a_kept : Nat → Int32} {i_hasImage : Int32} {i_isKeeping : Int32} {i_cursor : Int32} {a_far : Nat → Int32} {a_shut : Nat → Int32} {a_queue : Nat → Int32} {i_queued : Int32} {a_litBy : Nat → Int32} {a_may : Nat → Int32} {a_row : Nat → Int32} {i_rowMany : Int32}
-- X12_unlit
abbrev rm_X12_unlit : Room := { frames := 4, cells := 0, slots := 0, locals := 90 }
set_option maxHeartbeats 4000000 in
set_option maxRecDepth 100000 in
theorem w_X12_unlit_46 {α : Type} {R : α} {K101 : (Nat → Int32) → Option α} {v1 : Int32} {v2 : Int32} {v3 : Int32} (X : gC p s m args meth c cX12_unlit 6 (some .int) wsX12_unlit RX12 D b (gTy cI cL)) : ∀ (n : Nat) (v5 : Int32) (a_shut : Nat → Int32), L_X12_unlit_46 K101 a_isWall a_lit i_lampMany a_litBy v1 v2 v3 n v5 a_shut = some R → (∀ (x : (Nat → Int32)), K101 x = some R → ∀ (H : Heap) (locs : List Loc) (ls : Array Slot), GP D b M (mg cI h0 a_refused a_isWall a_kind a_lampCell a_range a_lit a_scenes a_who a_cell a_minuteOf a_standsAt i_lampMany i_people i_minute a_tape a_letter a_letterAt a_told i_taped i_at i_statements a_kept i_hasImage i_isKeeping i_cursor a_far x a_queue i_queued a_litBy a_may a_row i_rowMany g0) H → va_S (gA b) s.heap H locs → lv_has ls 6 [(0, .ref h0), (1, .int v1), (2, .int v2)] → W p l e rm_X12_unlit s m args below meth c H locs 0 0 Q (F0 m 101 ls [])) → ∀ (H : Heap) (locs : List Loc) (ls : Array Slot), GP D b M (mg cI h0 a_refused a_isWall a_kind a_lampCell a_range a_lit a_scenes a_who a_cell a_minuteOf a_standsAt i_lampMany i_people i_minute a_tape a_letter a_letterAt a_told i_taped i_at i_statements a_kept i_hasImage i_isKeeping i_cursor a_far a_shut a_queue i_queued a_litBy a_may a_row i_rowMany g0) H → va_S (gA b) s.heap H locs → lv_has ls 6 [(0, .ref h0), (1, .int v1), (2, .int v2), (3, .int v3), (5, .int v5)] → W p l e rm_X12_unlit s m args below meth c H locs 0 0 Q (F0 m 46 ls []) := by
  obtain ⟨hx, hb, hr, hml, hown, hts, hlocks, hKn, hBs⟩ := id X
  have hK := hKn.1
  have hin : ∀ w ∈ wsX120, w ∈ wsX12_unlit := fun w h => List.mem_cons_of_mem _ (List.mem_append_right _ h)
  intro n
  induction n with
  | zero =>
    intro v5 a_shut hf
    cases hf
  | succ n ih =>
    intro v5 a_shut hf hk101 H locs ls hG hS hl
    rw [L_X12_unlit_46.eq_2] at hf
    refine lv_iload hx hb dX12_unlit_46 (lv_at hl 4 rfl) ?_
    refine lv_bipush (v := 36) hx hb dX12_unlit_48 (by decide) ?_
    refine lv_icmp_ge (tgt := 101) hx hb dX12_unlit_50 (by decide) (fun c50 => ?_) (fun c50 => ?_)
    · have hf := gb_t c50 hf
      exact hk101 _ hf _ _ _ hG hS (lv_sub hl [0, 1, 2] rfl)
    · have hf := gb_f c50 hf
      refine lv_aload_n hx hb dX12_unlit_53 rfl (lv_at hl 0 rfl) ?_
      refine gp_get (v := .ref (h0 + 18)) (C := RX12) (T := TX12) (N := 33) (ci := 10) hx hb hts hin hown hK hG mg_o rfl 26 (by decide) (hts _ (List.mem_of_getElem? (i := 1) rfl)) (fun _ h9 => h9) rfl dX12_unlit_54 ?_
      refine lv_iload hx hb dX12_unlit_57 (lv_at hl 4 rfl) ?_
      refine lv_aload_n hx hb dX12_unlit_59 rfl (lv_at hl 0 rfl) ?_
      refine gp_get (v := .ref (h0 + 2)) (C := RX12) (T := TX12) (N := 33) (ci := 10) hx hb hts hin hown hK hG mg_o rfl 1 (by decide) (hts _ (List.mem_of_getElem? (i := 2) rfl)) (fun _ h9 => h9) rfl dX12_unlit_60 ?_
      refine lv_iload hx hb dX12_unlit_63 (lv_at hl 4 rfl) ?_
      obtain ⟨b65, hf⟩ := gb_ix hf
      refine gp_iald hx hb hK hG mg_isWall b65 dX12_unlit_65 ?_
      refine lv_iconst (v := 1) hx hb dX12_unlit_66 (by decide) ?_
      obtain ⟨j67, hj67, hf⟩ := gb_b hf
      have hJ67 : ∀ (H : Heap) (locs : List Loc) (ls : Array Slot), GP D b M (mg cI h0 a_refused a_isWall a_kind a_lampCell a_range a_lit a_scenes a_who a_cell a_minuteOf a_standsAt i_lampMany i_people i_minute a_tape a_letter a_letterAt a_told i_taped i_at i_statements a_kept i_hasImage i_isKeeping i_cursor a_far a_shut a_queue i_queued a_litBy a_may a_row i_rowMany g0) H → va_S (gA b) s.heap H locs → lv_has ls 6 [(0, .ref h0), (1, .int v1), (2, .int v2), (3, .int v3), (5, .int v5)] → W p l e rm_X12_unlit s m args below meth c H locs 0 0 Q (F0 m 94 ls [.int j67, .int v5, .ref (h0 + 18)]) := by
        intro H locs ls hG hS hl
        obtain ⟨b94, hf⟩ := gb_ix hf
        refine gp_iast hx hb hK hG hS mg_shut b94 mu_shut dX12_unlit_94 (fun H locs hG hS => ?_)
        refine lv_iinc (v := v5 + 1) (lv' := [(5, .int (v5 + 1)), (0, .ref h0), (1, .int v1), (2, .int v2), (3, .int v3)]) hx hb dX12_unlit_95 hl (k := 4) rfl rfl (by decide) rfl (fun ls hl => ?_)
        refine lv_goto (tgt := 46) hx hb dX12_unlit_98 (by decide) ?_
        exact ih _ _ hf hk101 _ _ _ hG hS (lv_sub hl [1, 2, 3, 4, 0] rfl)
      refine lv_icmp_eq (tgt := 89) hx hb dX12_unlit_67 (by decide) (fun c67 => ?_) (fun c67 => ?_)
      · have hj67 := gb_t c67 hj67
        refine lv_iconst (v := 1) hx hb dX12_unlit_89 (by decide) ?_
        refine lv_goto (tgt := 94) hx hb dX12_unlit_90 (by decide) ?_
        have hj67 := Option.some.inj hj67
        subst hj67
        exact hJ67 H locs ls hG hS (lv_sub hl [0, 1, 2, 3, 4] rfl)
      · have hj67 := gb_f c67 hj67
        refine lv_aload_n hx hb dX12_unlit_70 rfl (lv_at hl 0 rfl) ?_
        refine gp_get (v := .ref (h0 + 20)) (C := RX12) (T := TX12) (N := 33) (ci := 10) hx hb hts hin hown hK hG mg_o rfl 29 (by decide) (hts _ (List.mem_of_getElem? (i := 3) rfl)) (fun _ h9 => h9) rfl dX12_unlit_71 ?_
        refine lv_iload hx hb dX12_unlit_74 (lv_at hl 4 rfl) ?_
        obtain ⟨b76, hj67⟩ := gb_ix hj67
        refine gp_iald hx hb hK hG mg_litBy b76 dX12_unlit_76 ?_
        refine lv_aload_n hx hb dX12_unlit_77 rfl (lv_at hl 0 rfl) ?_
        obtain ⟨o78, hc78, hj67⟩ := gb_b hj67
        refine gp_callI (va_runV (As := []) (rest := [.int (a_litBy v5.toNatClampNeg), .int v5, .ref (h0 + 18)]) ⟨hx, hb, hml, hown, hts⟩ (c_X12_litBits (l := l) (D := D) (b := b) (M := M) (cI := cI) (cL := cL) hc78) (cwV 0 hts gX12_unlit_X12_litBits rfl rfl rfl (by decide +kernel) ⟨Nat.le_of_ble_eq_true rfl, Nat.le_of_ble_eq_true rfl⟩) (gp_preV hKn hG mg_o rfl) rfl rfl hl.1 rfl (lv_room (Nat.le_of_ble_eq_true rfl)) dX12_unlit_78 ⟨Nat.le_of_ble_eq_true rfl, Nat.le_of_ble_eq_true rfl⟩) hS (fun H locs hG hS => ?_)
        refine lv_iand hx hb dX12_unlit_81 ?_
        refine lv_iload_n hx hb dX12_unlit_82 rfl (lv_at hl 3 rfl) ?_
        refine lv_iconst (v := (-1 : Int32)) hx hb dX12_unlit_83 (by decide) ?_
        refine lv_ixor hx hb dX12_unlit_84 ?_
        refine lv_iand hx hb dX12_unlit_85 ?_
        refine lv_if_eq (tgt := 93) hx hb dX12_unlit_86 (by decide) (fun c86 => ?_) (fun c86 => ?_)
        · have hj67 := gb_t c86 hj67
          refine lv_iconst (v := 0) hx hb dX12_unlit_93 (by decide) ?_
          have hj67 := Option.some.inj hj67
          subst hj67
          exact hJ67 H locs ls hG hS (lv_sub hl [0, 1, 2, 3, 4] rfl)
        · have hj67 := gb_f c86 hj67
          refine lv_iconst (v := 1) hx hb dX12_unlit_89 (by decide) ?_
          refine lv_goto (tgt := 94) hx hb dX12_unlit_90 (by decide) ?_
          have hj67 := Option.some.inj hj67
          subst hj67
          exact hJ67 H locs ls hG hS (lv_sub hl [0, 1, 2, 3, 4] rfl)
set_option maxHeartbeats 4000000 in
set_option maxRecDepth 100000 in
theorem c_X12_unlit {v1 : Int32} {v2 : Int32} {v3 : Int32} {R : Int32 × (Nat → Int32) × (Nat → Int32) × (Nat → Int32) × (Nat → Int32) × Int32 × (Nat → Int32)} (hf : f_X12_unlit a_refused a_isWall a_kind a_lampCell a_range a_lit a_standsAt i_lampMany i_people a_far a_shut a_queue i_queued a_litBy v1 v2 v3 = some R) : Met l yX12_unlit wsX12_unlit rm_X12_unlit (va_Pc [.ref h0, .int v1, .int v2, .int v3] (gPre D b M (mg cI h0 a_refused a_isWall a_kind a_lampCell a_range a_lit a_scenes a_who a_cell a_minuteOf a_standsAt i_lampMany i_people i_minute a_tape a_letter a_letterAt a_told i_taped i_at i_statements a_kept i_hasImage i_isKeeping i_cursor a_far a_shut a_queue i_queued a_litBy a_may a_row i_rowMany g0) (gTy cI cL))) (gQ D b (some (.int R.1)) M (mg cI h0 R.2.1 a_isWall a_kind a_lampCell a_range a_lit a_scenes a_who a_cell a_minuteOf a_standsAt i_lampMany i_people i_minute a_tape a_letter a_letterAt a_told i_taped i_at i_statements a_kept i_hasImage i_isKeeping i_cursor R.2.2.1 R.2.2.2.1 R.2.2.2.2.1 R.2.2.2.2.2.1 R.2.2.2.2.2.2 a_may a_row i_rowMany g0)) 0 0 (gA b) := by
  refine gp_met (cc := cX12_unlit) (maxL := 6) (ret := (some .int)) (by decide) rfl (Nat.le_of_ble_eq_true rfl) ?_
  intro p e s m below meth c X ls hG hl
  have hS : va_S (gA b) s.heap s.heap [] := va_S.rf
  obtain ⟨H, hH0⟩ : ∃ H : Heap, H = s.heap := ⟨_, rfl⟩
  rw [← hH0] at hG ⊢
  have hS : va_S (gA b) s.heap H [] := by rw [hH0]; exact va_S.rf
  obtain ⟨locs, hlo⟩ : ∃ z : List Loc, z = [] := ⟨_, rfl⟩
  rw [← hlo] at hS ⊢
  unfold f_X12_unlit at hf
  obtain ⟨hx, hb, hr, hml, hown, hts, hlocks, hKn, hBs⟩ := id X
  have hK := hKn.1
  have hin : ∀ w ∈ wsX120, w ∈ wsX12_unlit := fun w h => List.mem_cons_of_mem _ (List.mem_append_right _ h)
  have hl : lv_has ls 6 [(0, .ref h0), (1, .int v1), (2, .int v2), (3, .int v3)] := hl
  refine lv_iload_n hx hb dX12_unlit_0 rfl (lv_at hl 1 rfl) ?_
  obtain ⟨o1, hc1, hf⟩ := gb_b hf
  refine gp_callI (va_runS (As := [.int v1]) (rest := []) ⟨hx, hb, hml, hown, hts⟩ (c_X12_isCell (l := l) (D := D) (b := b) (M := M) (cI := cI) (cL := cL) hc1) (va_cwS 1 hts gX12_unlit_X12_isCell rfl rfl rfl (by decide +kernel) ⟨Nat.le_of_ble_eq_true rfl, Nat.le_of_ble_eq_true rfl⟩) (gp_preS hKn hG) rfl rfl hl.1 rfl (lv_room (Nat.le_of_ble_eq_true rfl)) dX12_unlit_1 ⟨Nat.le_of_ble_eq_true rfl, Nat.le_of_ble_eq_true rfl⟩) hS (fun H locs hG hS => ?_)
  obtain ⟨j4, hj4, hf⟩ := gb_b hf
  have hJ4 : ∀ (H : Heap) (locs : List Loc) (ls : Array Slot), GP D b M (mg cI h0 a_refused a_isWall a_kind a_lampCell a_range a_lit a_scenes a_who a_cell a_minuteOf a_standsAt i_lampMany i_people i_minute a_tape a_letter a_letterAt a_told i_taped i_at i_statements a_kept i_hasImage i_isKeeping i_cursor a_far a_shut a_queue i_queued a_litBy a_may a_row i_rowMany g0) H → va_S (gA b) s.heap H locs → lv_has ls 6 [(0, .ref h0), (1, .int v1), (2, .int v2), (3, .int v3)] → W p l e rm_X12_unlit s m [.ref h0, .int v1, .int v2, .int v3].toArray below meth c H locs 0 0 (MQ below (gQ D b (some (.int R.1)) M (mg cI h0 R.2.1 a_isWall a_kind a_lampCell a_range a_lit a_scenes a_who a_cell a_minuteOf a_standsAt i_lampMany i_people i_minute a_tape a_letter a_letterAt a_told i_taped i_at i_statements a_kept i_hasImage i_isKeeping i_cursor R.2.2.1 R.2.2.2.1 R.2.2.2.2.1 R.2.2.2.2.2.1 R.2.2.2.2.2.2 a_may a_row i_rowMany g0)) [.ref h0, .int v1, .int v2, .int v3].toArray s 0 0 (gA b)) (F0 m 25 ls [.int j4]) := by
    intro H locs ls hG hS hl
    refine lv_istore (lv' := [(4, .int j4), (0, .ref h0), (1, .int v1), (2, .int v2), (3, .int v3)]) hx hb dX12_unlit_25 hl (by decide) rfl (fun ls hl => ?_)
    refine lv_iload hx hb dX12_unlit_27 (lv_at hl 0 rfl) ?_
    refine lv_if_eq (tgt := 39) hx hb dX12_unlit_29 (by decide) (fun c29 => ?_) (fun c29 => ?_)
    · have hf := gb_t c29 hf
      refine lv_aload_n hx hb dX12_unlit_39 rfl (lv_at hl 1 rfl) ?_
      obtain ⟨o40, hc40, hf⟩ := gb_b hf
      refine gp_callV (va_runV (As := []) (rest := []) ⟨hx, hb, hml, hown, hts⟩ (c_X12_findLit (l := l) (D := D) (b := b) (M := M) (cI := cI) (cL := cL) hc40) (cwV 0 hts gX12_unlit_X12_findLit rfl rfl rfl (by decide +kernel) ⟨Nat.le_of_ble_eq_true rfl, Nat.le_of_ble_eq_true rfl⟩) (gp_preV hKn hG mg_o rfl) rfl rfl hl.1 rfl (lv_room (Nat.le_of_ble_eq_true rfl)) dX12_unlit_40 ⟨Nat.le_of_ble_eq_true rfl, Nat.le_of_ble_eq_true rfl⟩) hS (fun H locs hG hS => ?_)
      refine lv_iconst (v := 0) hx hb dX12_unlit_43 (by decide) ?_
      refine lv_istore (lv' := [(5, .int 0), (4, .int j4), (0, .ref h0), (1, .int v1), (2, .int v2), (3, .int v3)]) hx hb dX12_unlit_44 hl (by decide) rfl (fun ls hl => ?_)
      refine w_X12_unlit_46 X _ _ _ hf (fun x46_101 hf H locs ls hG hS hl => ?_) _ _ _ hG hS (lv_sub hl [2, 3, 4, 5, 0] rfl)
      · refine lv_aload_n hx hb dX12_unlit_101 rfl (lv_at hl 0 rfl) ?_
        refine lv_iload_n hx hb dX12_unlit_102 rfl (lv_at hl 1 rfl) ?_
        obtain ⟨o103, hc103, hf⟩ := gb_b hf
        refine gp_callV (va_runV (As := [.int v1]) (rest := []) ⟨hx, hb, hml, hown, hts⟩ (c_X12_findFar (l := l) (D := D) (b := b) (M := M) (cI := cI) (cL := cL) hc103) (cwV 1 hts gX12_unlit_X12_findFar rfl rfl rfl (by decide +kernel) ⟨Nat.le_of_ble_eq_true rfl, Nat.le_of_ble_eq_true rfl⟩) (gp_preV hKn hG mg_o rfl) rfl rfl hl.1 rfl (lv_room (Nat.le_of_ble_eq_true rfl)) dX12_unlit_103 ⟨Nat.le_of_ble_eq_true rfl, Nat.le_of_ble_eq_true rfl⟩) hS (fun H locs hG hS => ?_)
        refine lv_aload_n hx hb dX12_unlit_106 rfl (lv_at hl 0 rfl) ?_
        refine gp_get (v := .ref (h0 + 17)) (C := RX12) (T := TX12) (N := 33) (ci := 10) hx hb hts hin hown hK hG mg_o rfl 25 (by decide) (hts _ (List.mem_of_getElem? (i := 4) rfl)) (fun _ h9 => h9) rfl dX12_unlit_107 ?_
        refine lv_iload_n hx hb dX12_unlit_110 rfl (lv_at hl 2 rfl) ?_
        obtain ⟨b111, hf⟩ := gb_ix hf
        refine gp_iald hx hb hK hG mg_far b111 dX12_unlit_111 ?_
        have hf := Option.some.inj hf
        subst hf
        exact gp_retI hx hb hr hlocks hG hS (Nat.le_refl _) (Nat.le_refl _) dX12_unlit_112
    · have hf := gb_f c29 hf
      refine lv_aload_n hx hb dX12_unlit_32 rfl (lv_at hl 1 rfl) ?_
      refine lv_iload hx hb dX12_unlit_33 (lv_at hl 0 rfl) ?_
      obtain ⟨o35, hc35, hf⟩ := gb_b hf
      refine gp_callI (va_runV (As := [.int j4]) (rest := []) ⟨hx, hb, hml, hown, hts⟩ (c_X12_no (l := l) (D := D) (b := b) (M := M) (cI := cI) (cL := cL) hc35) (cwV 1 hts gX12_unlit_X12_no rfl rfl rfl (by decide +kernel) ⟨Nat.le_of_ble_eq_true rfl, Nat.le_of_ble_eq_true rfl⟩) (gp_preV hKn hG mg_o rfl) rfl rfl hl.1 rfl (lv_room (Nat.le_of_ble_eq_true rfl)) dX12_unlit_35 ⟨Nat.le_of_ble_eq_true rfl, Nat.le_of_ble_eq_true rfl⟩) hS (fun H locs hG hS => ?_)
      have hf := Option.some.inj hf
      subst hf
      exact gp_retI hx hb hr hlocks hG hS (Nat.le_refl _) (Nat.le_refl _) dX12_unlit_38
  refine lv_if_eq (tgt := 14) hx hb dX12_unlit_4 (by decide) (fun c4 => ?_) (fun c4 => ?_)
  · have hj4 := gb_t c4 hj4
    refine lv_iconst (v := (-1 : Int32)) hx hb dX12_unlit_14 (by decide) ?_
    refine lv_goto (tgt := 25) hx hb dX12_unlit_15 (by decide) ?_
    have hj4 := Option.some.inj hj4
    subst hj4
    exact hJ4 H locs ls hG hS (lv_sub hl [0, 1, 2, 3] rfl)
  · have hj4 := gb_f c4 hj4
    refine lv_iload_n hx hb dX12_unlit_7 rfl (lv_at hl 2 rfl) ?_
    obtain ⟨o8, hc8, hj4⟩ := gb_b hj4
    refine gp_callI (va_runS (As := [.int v2]) (rest := []) ⟨hx, hb, hml, hown, hts⟩ (c_X12_isCell (l := l) (D := D) (b := b) (M := M) (cI := cI) (cL := cL) hc8) (va_cwS 1 hts gX12_unlit_X12_isCell rfl rfl rfl (by decide +kernel) ⟨Nat.le_of_ble_eq_true rfl, Nat.le_of_ble_eq_true rfl⟩) (gp_preS hKn hG) rfl rfl hl.1 rfl (lv_room (Nat.le_of_ble_eq_true rfl)) dX12_unlit_8 ⟨Nat.le_of_ble_eq_true rfl, Nat.le_of_ble_eq_true rfl⟩) hS (fun H locs hG hS => ?_)
    refine lv_if_ne (tgt := 18) hx hb dX12_unlit_11 (by decide) (fun c11 => ?_) (fun c11 => ?_)
    · have hj4 := gb_f c11 hj4
      refine lv_iload_n hx hb dX12_unlit_18 rfl (lv_at hl 3 rfl) ?_
      refine lv_iconst (v := 0) hx hb dX12_unlit_19 (by decide) ?_
      refine lv_bipush (v := 63) hx hb dX12_unlit_20 (by decide) ?_
      obtain ⟨o22, hc22, hj4⟩ := gb_b hj4
      refine gp_callI (va_runS (As := [.int v3, .int 0, .int 63]) (rest := []) ⟨hx, hb, hml, hown, hts⟩ (c_X12_bound (l := l) (D := D) (b := b) (M := M) (cI := cI) (cL := cL) hc22) (va_cwS 3 hts gX12_unlit_X12_bound rfl rfl rfl (by decide +kernel) ⟨Nat.le_of_ble_eq_true rfl, Nat.le_of_ble_eq_true rfl⟩) (gp_preS hKn hG) rfl rfl hl.1 rfl (lv_room (Nat.le_of_ble_eq_true rfl)) dX12_unlit_22 ⟨Nat.le_of_ble_eq_true rfl, Nat.le_of_ble_eq_true rfl⟩) hS (fun H locs hG hS => ?_)
      have hj4 := Option.some.inj hj4
      subst hj4
      exact hJ4 H locs ls hG hS (lv_sub hl [0, 1, 2, 3] rfl)
    · have hj4 := gb_t c11 hj4
      refine lv_iconst (v := (-1 : Int32)) hx hb dX12_unlit_14 (by decide) ?_
      refine lv_goto (tgt := 25) hx hb dX12_unlit_15 (by decide) ?_
      have hj4 := Option.some.inj hj4
      subst hj4
      exact hJ4 H locs ls hG hS (lv_sub hl [0, 1, 2, 3] rfl)
-- X12_forget
abbrev rm_X12_forget : Room := { frames := 1, cells := 0, slots := 0, locals := 23 }
set_option maxHeartbeats 4000000 in
set_option maxRecDepth 100000 in
theorem c_X12_forget {v1 : Int32} {v2 : Int32} {R : Int32 × (Nat → Int32)} (hf : f_X12_forget a_refused a_kind a_scenes a_minuteOf i_lampMany v1 v2 = some R) : Met l yX12_forget wsX12_forget rm_X12_forget (va_Pc [.ref h0, .int v1, .int v2] (gPre D b M (mg cI h0 a_refused a_isWall a_kind a_lampCell a_range a_lit a_scenes a_who a_cell a_minuteOf a_standsAt i_lampMany i_people i_minute a_tape a_letter a_letterAt a_told i_taped i_at i_statements a_kept i_hasImage i_isKeeping i_cursor a_far a_shut a_queue i_queued a_litBy a_may a_row i_rowMany g0) (gTy cI cL))) (gQ D b (some (.int R.1)) M (mg cI h0 R.2 a_isWall a_kind a_lampCell a_range a_lit a_scenes a_who a_cell a_minuteOf a_standsAt i_lampMany i_people i_minute a_tape a_letter a_letterAt a_told i_taped i_at i_statements a_kept i_hasImage i_isKeeping i_cursor a_far a_shut a_queue i_queued a_litBy a_may a_row i_rowMany g0)) 0 0 (gA b) := by
  refine gp_met (cc := cX12_forget) (maxL := 5) (ret := (some .int)) (by decide) rfl (Nat.le_of_ble_eq_true rfl) ?_
  intro p e s m below meth c X ls hG hl
  have hS : va_S (gA b) s.heap s.heap [] := va_S.rf
  obtain ⟨H, hH0⟩ : ∃ H : Heap, H = s.heap := ⟨_, rfl⟩
  rw [← hH0] at hG ⊢
  have hS : va_S (gA b) s.heap H [] := by rw [hH0]; exact va_S.rf
  obtain ⟨locs, hlo⟩ : ∃ z : List Loc, z = [] := ⟨_, rfl⟩
  rw [← hlo] at hS ⊢
  unfold f_X12_forget at hf
  obtain ⟨hx, hb, hr, hml, hown, hts, hlocks, hKn, hBs⟩ := id X
  have hK := hKn.1
  have hin : ∀ w ∈ wsX120, w ∈ wsX12_forget := fun w h => List.mem_cons_of_mem _ (List.mem_append_right _ h)
  have hl : lv_has ls 5 [(0, .ref h0), (1, .int v1), (2, .int v2)] := hl
  refine lv_aload_n hx hb dX12_forget_0 rfl (lv_at hl 0 rfl) ?_
  refine lv_iload_n hx hb dX12_forget_1 rfl (lv_at hl 1 rfl) ?_
  obtain ⟨o2, hc2, hf⟩ := gb_b hf
  refine gp_callI (va_runV (As := [.int v1]) (rest := []) ⟨hx, hb, hml, hown, hts⟩ (c_X12_isLamp (l := l) (D := D) (b := b) (M := M) (cI := cI) (cL := cL) hc2) (cwV 1 hts gX12_forget_X12_isLamp rfl rfl rfl (by decide +kernel) ⟨Nat.le_of_ble_eq_true rfl, Nat.le_of_ble_eq_true rfl⟩) (gp_preV hKn hG mg_o rfl) rfl rfl hl.1 rfl (lv_room (Nat.le_of_ble_eq_true rfl)) dX12_forget_2 ⟨Nat.le_of_ble_eq_true rfl, Nat.le_of_ble_eq_true rfl⟩) hS (fun H locs hG hS => ?_)
  obtain ⟨j5, hj5, hf⟩ := gb_b hf
  have hJ5 : ∀ (H : Heap) (locs : List Loc) (ls : Array Slot), GP D b M (mg cI h0 a_refused a_isWall a_kind a_lampCell a_range a_lit a_scenes a_who a_cell a_minuteOf a_standsAt i_lampMany i_people i_minute a_tape a_letter a_letterAt a_told i_taped i_at i_statements a_kept i_hasImage i_isKeeping i_cursor a_far a_shut a_queue i_queued a_litBy a_may a_row i_rowMany g0) H → va_S (gA b) s.heap H locs → lv_has ls 5 [(0, .ref h0), (1, .int v1), (2, .int v2)] → W p l e rm_X12_forget s m [.ref h0, .int v1, .int v2].toArray below meth c H locs 0 0 (MQ below (gQ D b (some (.int R.1)) M (mg cI h0 R.2 a_isWall a_kind a_lampCell a_range a_lit a_scenes a_who a_cell a_minuteOf a_standsAt i_lampMany i_people i_minute a_tape a_letter a_letterAt a_told i_taped i_at i_statements a_kept i_hasImage i_isKeeping i_cursor a_far a_shut a_queue i_queued a_litBy a_may a_row i_rowMany g0)) [.ref h0, .int v1, .int v2].toArray s 0 0 (gA b)) (F0 m 20 ls [.int j5]) := by
    intro H locs ls hG hS hl
    refine lv_istore_n (lv' := [(3, .int j5), (0, .ref h0), (1, .int v1), (2, .int v2)]) hx hb dX12_forget_20 rfl hl (by decide) rfl (fun ls hl => ?_)
    refine lv_iload_n hx hb dX12_forget_21 rfl (lv_at hl 0 rfl) ?_
    refine lv_if_eq (tgt := 31) hx hb dX12_forget_22 (by decide) (fun c22 => ?_) (fun c22 => ?_)
    · have hf := gb_t c22 hf
      refine lv_aload_n hx hb dX12_forget_31 rfl (lv_at hl 1 rfl) ?_
      refine lv_iload_n hx hb dX12_forget_32 rfl (lv_at hl 2 rfl) ?_
      refine lv_iload_n hx hb dX12_forget_33 rfl (lv_at hl 3 rfl) ?_
      obtain ⟨o34, hc34, hf⟩ := gb_b hf
      refine gp_callI (va_runV (As := [.int v1, .int v2]) (rest := []) ⟨hx, hb, hml, hown, hts⟩ (c_X12_sceneAt (l := l) (D := D) (b := b) (M := M) (cI := cI) (cL := cL) hc34) (cwV 2 hts gX12_forget_X12_sceneAt rfl rfl rfl (by decide +kernel) ⟨Nat.le_of_ble_eq_true rfl, Nat.le_of_ble_eq_true rfl⟩) (gp_preV hKn hG mg_o rfl) rfl rfl hl.1 rfl (lv_room (Nat.le_of_ble_eq_true rfl)) dX12_forget_34 ⟨Nat.le_of_ble_eq_true rfl, Nat.le_of_ble_eq_true rfl⟩) hS (fun H locs hG hS => ?_)
      refine lv_istore (lv' := [(4, .int o34), (3, .int j5), (0, .ref h0), (1, .int v1), (2, .int v2)]) hx hb dX12_forget_37 hl (by decide) rfl (fun ls hl => ?_)
      refine lv_iload hx hb dX12_forget_39 (lv_at hl 0 rfl) ?_
      obtain ⟨j41, hj41, hf⟩ := gb_b hf
      have hJ41 : ∀ (H : Heap) (locs : List Loc) (ls : Array Slot), GP D b M (mg cI h0 a_refused a_isWall a_kind a_lampCell a_range a_lit a_scenes a_who a_cell a_minuteOf a_standsAt i_lampMany i_people i_minute a_tape a_letter a_letterAt a_told i_taped i_at i_statements a_kept i_hasImage i_isKeeping i_cursor a_far a_shut a_queue i_queued a_litBy a_may a_row i_rowMany g0) H → va_S (gA b) s.heap H locs → lv_has ls 5 [] → W p l e rm_X12_forget s m [.ref h0, .int v1, .int v2].toArray below meth c H locs 0 0 (MQ below (gQ D b (some (.int R.1)) M (mg cI h0 R.2 a_isWall a_kind a_lampCell a_range a_lit a_scenes a_who a_cell a_minuteOf a_standsAt i_lampMany i_people i_minute a_tape a_letter a_letterAt a_told i_taped i_at i_statements a_kept i_hasImage i_isKeeping i_cursor a_far a_shut a_queue i_queued a_litBy a_may a_row i_rowMany g0)) [.ref h0, .int v1, .int v2].toArray s 0 0 (gA b)) (F0 m 70 ls [.int j41]) := by
        intro H locs ls hG hS hl
        have hf := Option.some.inj hf
        subst hf
        exact gp_retI hx hb hr hlocks hG hS (Nat.le_refl _) (Nat.le_refl _) dX12_forget_70
      refine lv_if_ge (tgt := 49) hx hb dX12_forget_41 (by decide) (fun c41 => ?_) (fun c41 => ?_)
      · have hj41 := gb_t c41 hj41
        refine lv_aload_n hx hb dX12_forget_49 rfl (lv_at hl 2 rfl) ?_
        refine gp_get (v := .ref (h0 + 3)) (C := RX12) (T := TX12) (N := 33) (ci := 10) hx hb hts hin hown hK hG mg_o rfl 2 (by decide) (hts _ (List.mem_of_getElem? (i := 1) rfl)) (fun _ h9 => h9) rfl dX12_forget_50 ?_
        refine lv_iload_n hx hb dX12_forget_53 rfl (lv_at hl 3 rfl) ?_
        obtain ⟨b54, hj41⟩ := gb_ix hj41
        refine gp_iald hx hb hK hG mg_kind b54 dX12_forget_54 ?_
        obtain ⟨o55, hc55, hj41⟩ := gb_b hj41
        refine gp_callI (va_runS (As := [.int (a_kind v1.toNatClampNeg)]) (rest := []) ⟨hx, hb, hml, hown, hts⟩ (c_X12_keepsOf (l := l) (D := D) (b := b) (M := M) (cI := cI) (cL := cL) hc55) (va_cwS 1 hts gX12_forget_X12_keepsOf rfl rfl rfl (by decide +kernel) ⟨Nat.le_of_ble_eq_true rfl, Nat.le_of_ble_eq_true rfl⟩) (gp_preS hKn hG) rfl rfl hl.1 rfl (lv_room (Nat.le_of_ble_eq_true rfl)) dX12_forget_55 ⟨Nat.le_of_ble_eq_true rfl, Nat.le_of_ble_eq_true rfl⟩) hS (fun H locs hG hS => ?_)
        refine lv_aload_n hx hb dX12_forget_58 rfl (lv_at hl 2 rfl) ?_
        refine gp_get (v := .ref (h0 + 7)) (C := RX12) (T := TX12) (N := 33) (ci := 10) hx hb hts hin hown hK hG mg_o rfl 6 (by decide) (hts _ (List.mem_of_getElem? (i := 2) rfl)) (fun _ h9 => h9) rfl dX12_forget_59 ?_
        refine lv_iload_n hx hb dX12_forget_62 rfl (lv_at hl 3 rfl) ?_
        obtain ⟨b63, hj41⟩ := gb_ix hj41
        refine gp_iald hx hb hK hG mg_scenes b63 dX12_forget_63 ?_
        refine lv_isub hx hb dX12_forget_64 ?_
        refine lv_iload hx hb dX12_forget_65 (lv_at hl 0 rfl) ?_
        refine lv_iadd hx hb dX12_forget_67 ?_
        refine lv_iconst (v := 1) hx hb dX12_forget_68 (by decide) ?_
        refine lv_iadd hx hb dX12_forget_69 ?_
        have hj41 := Option.some.inj hj41
        subst hj41
        exact hJ41 H locs ls hG hS (lv_sub hl [] rfl)
      · have hj41 := gb_f c41 hj41
        refine lv_bipush (v := (-9 : Int32)) hx hb dX12_forget_44 (by decide) ?_
        refine lv_goto (tgt := 70) hx hb dX12_forget_46 (by decide) ?_
        have hj41 := Option.some.inj hj41
        subst hj41
        exact hJ41 H locs ls hG hS (lv_sub hl [] rfl)
    · have hf := gb_f c22 hf
      refine lv_aload_n hx hb dX12_forget_25 rfl (lv_at hl 1 rfl) ?_
      refine lv_iload_n hx hb dX12_forget_26 rfl (lv_at hl 0 rfl) ?_
      obtain ⟨o27, hc27, hf⟩ := gb_b hf
      refine gp_callI (va_runV (As := [.int j5]) (rest := []) ⟨hx, hb, hml, hown, hts⟩ (c_X12_no (l := l) (D := D) (b := b) (M := M) (cI := cI) (cL := cL) hc27) (cwV 1 hts gX12_forget_X12_no rfl rfl rfl (by decide +kernel) ⟨Nat.le_of_ble_eq_true rfl, Nat.le_of_ble_eq_true rfl⟩) (gp_preV hKn hG mg_o rfl) rfl rfl hl.1 rfl (lv_room (Nat.le_of_ble_eq_true rfl)) dX12_forget_27 ⟨Nat.le_of_ble_eq_true rfl, Nat.le_of_ble_eq_true rfl⟩) hS (fun H locs hG hS => ?_)
      have hf := Option.some.inj hf
      subst hf
      exact gp_retI hx hb hr hlocks hG hS (Nat.le_refl _) (Nat.le_refl _) dX12_forget_30
  refine lv_if_ne (tgt := 12) hx hb dX12_forget_5 (by decide) (fun c5 => ?_) (fun c5 => ?_)
  · have hj5 := gb_f c5 hj5
    refine lv_iload_n hx hb dX12_forget_12 rfl (lv_at hl 2 rfl) ?_
    refine lv_iconst (v := 0) hx hb dX12_forget_13 (by decide) ?_
    refine lv_sipush (v := 9999) hx hb dX12_forget_14 (by decide) ?_
    obtain ⟨o17, hc17, hj5⟩ := gb_b hj5
    refine gp_callI (va_runS (As := [.int v2, .int 0, .int 9999]) (rest := []) ⟨hx, hb, hml, hown, hts⟩ (c_X12_bound (l := l) (D := D) (b := b) (M := M) (cI := cI) (cL := cL) hc17) (va_cwS 3 hts gX12_forget_X12_bound rfl rfl rfl (by decide +kernel) ⟨Nat.le_of_ble_eq_true rfl, Nat.le_of_ble_eq_true rfl⟩) (gp_preS hKn hG) rfl rfl hl.1 rfl (lv_room (Nat.le_of_ble_eq_true rfl)) dX12_forget_17 ⟨Nat.le_of_ble_eq_true rfl, Nat.le_of_ble_eq_true rfl⟩) hS (fun H locs hG hS => ?_)
    have hj5 := Option.some.inj hj5
    subst hj5
    exact hJ5 H locs ls hG hS (lv_sub hl [0, 1, 2] rfl)
  · have hj5 := gb_t c5 hj5
    refine lv_iconst (v := (-1 : Int32)) hx hb dX12_forget_8 (by decide) ?_
    refine lv_goto (tgt := 20) hx hb dX12_forget_9 (by decide) ?_
    have hj5 := Option.some.inj hj5
    subst hj5
    exact hJ5 H locs ls hG hS (lv_sub hl [0, 1, 2] rfl)
-- X12_shownTo
abbrev rm_X12_shownTo : Room := { frames := 0, cells := 0, slots := 0, locals := 0 }
set_option maxHeartbeats 4000000 in
set_option maxRecDepth 100000 in
theorem c_X12_shownTo {v1 : Int32} {R : Int32} (hf : f_X12_shownTo a_standsAt a_litBy v1 = some R) : Met l yX12_shownTo wsX12_shownTo rm_X12_shownTo (va_Pc [.ref h0, .int v1] (gPre D b M (mg cI h0 a_refused a_isWall a_kind a_lampCell a_range a_lit a_scenes a_who a_cell a_minuteOf a_standsAt i_lampMany i_people i_minute a_tape a_letter a_letterAt a_told i_taped i_at i_statements a_kept i_hasImage i_isKeeping i_cursor a_far a_shut a_queue i_queued a_litBy a_may a_row i_rowMany g0) (gTy cI cL))) (gQ D b (some (.int R)) M (mg cI h0 a_refused a_isWall a_kind a_lampCell a_range a_lit a_scenes a_who a_cell a_minuteOf a_standsAt i_lampMany i_people i_minute a_tape a_letter a_letterAt a_told i_taped i_at i_statements a_kept i_hasImage i_isKeeping i_cursor a_far a_shut a_queue i_queued a_litBy a_may a_row i_rowMany g0)) 0 0 (gA b) := by
  refine gp_met (cc := cX12_shownTo) (maxL := 2) (ret := (some .int)) (by decide) rfl (Nat.le_of_ble_eq_true rfl) ?_
  intro p e s m below meth c X ls hG hl
  have hS : va_S (gA b) s.heap s.heap [] := va_S.rf
  obtain ⟨H, hH0⟩ : ∃ H : Heap, H = s.heap := ⟨_, rfl⟩
  rw [← hH0] at hG ⊢
  have hS : va_S (gA b) s.heap H [] := by rw [hH0]; exact va_S.rf
  obtain ⟨locs, hlo⟩ : ∃ z : List Loc, z = [] := ⟨_, rfl⟩
  rw [← hlo] at hS ⊢
  unfold f_X12_shownTo at hf
  obtain ⟨hx, hb, hr, hml, hown, hts, hlocks, hKn, hBs⟩ := id X
  have hK := hKn.1
  have hin : ∀ w ∈ wsX120, w ∈ wsX12_shownTo := fun w h => List.mem_cons_of_mem _ (List.mem_append_right _ h)
  have hl : lv_has ls 2 [(0, .ref h0), (1, .int v1)] := hl
  refine lv_aload_n hx hb dX12_shownTo_0 rfl (lv_at hl 0 rfl) ?_
  refine gp_get (v := .ref (h0 + 20)) (C := RX12) (T := TX12) (N := 33) (ci := 10) hx hb hts hin hown hK hG mg_o rfl 29 (by decide) (hts _ (List.mem_of_getElem? (i := 1) rfl)) (fun _ h9 => h9) rfl dX12_shownTo_1 ?_
  refine lv_aload_n hx hb dX12_shownTo_4 rfl (lv_at hl 0 rfl) ?_
  refine gp_get (v := .ref (h0 + 11)) (C := RX12) (T := TX12) (N := 33) (ci := 10) hx hb hts hin hown hK hG mg_o rfl 10 (by decide) (hts _ (List.mem_of_getElem? (i := 2) rfl)) (fun _ h9 => h9) rfl dX12_shownTo_5 ?_
  refine lv_iload_n hx hb dX12_shownTo_8 rfl (lv_at hl 1 rfl) ?_
  obtain ⟨b9, hf⟩ := gb_ix hf
  refine gp_iald hx hb hK hG mg_standsAt b9 dX12_shownTo_9 ?_
  obtain ⟨b10, hf⟩ := gb_ix hf
  refine gp_iald hx hb hK hG mg_litBy b10 dX12_shownTo_10 ?_
  have hf := Option.some.inj hf
  subst hf
  exact gp_retI hx hb hr hlocks hG hS (Nat.le_refl _) (Nat.le_refl _) dX12_shownTo_11
-- X12_knows
abbrev rm_X12_knows : Room := { frames := 4, cells := 0, slots := 0, locals := 90 }
set_option maxHeartbeats 4000000 in
set_option maxRecDepth 100000 in
theorem w_X12_knows_112 {α : Type} {R : α} {K154 : Int32 → Option α} {v1 : Int32} {v2 : Int32} {v3 : Int32} {v6 : Int32} (X : gC p s m args meth c cX12_knows 10 (some .int) wsX12_knows RX12 D b (gTy cI cL)) : ∀ (n : Nat) (v5 : Int32) (v9 : Int32), L_X12_knows_112 K154 a_standsAt i_people a_litBy v1 v2 v3 v6 n v5 v9 = some R → (∀ (x : Int32), K154 x = some R → ∀ (H : Heap) (locs : List Loc) (ls : Array Slot), GP D b M (mg cI h0 a_refused a_isWall a_kind a_lampCell a_range a_lit a_scenes a_who a_cell a_minuteOf a_standsAt i_lampMany i_people i_minute a_tape a_letter a_letterAt a_told i_taped i_at i_statements a_kept i_hasImage i_isKeeping i_cursor a_far a_shut a_queue i_queued a_litBy a_may a_row i_rowMany g0) H → va_S (gA b) s.heap H locs → lv_has ls 10 [(0, .ref h0), (1, .int v1), (2, .int v2), (3, .int v3), (5, .int x), (6, .int v6)] → W p l e rm_X12_knows s m args below meth c H locs 0 0 Q (F0 m 154 ls [])) → ∀ (H : Heap) (locs : List Loc) (ls : Array Slot), GP D b M (mg cI h0 a_refused a_isWall a_kind a_lampCell a_range a_lit a_scenes a_who a_cell a_minuteOf a_standsAt i_lampMany i_people i_minute a_tape a_letter a_letterAt a_told i_taped i_at i_statements a_kept i_hasImage i_isKeeping i_cursor a_far a_shut a_queue i_queued a_litBy a_may a_row i_rowMany g0) H → va_S (gA b) s.heap H locs → lv_has ls 10 [(0, .ref h0), (1, .int v1), (2, .int v2), (3, .int v3), (5, .int v5), (6, .int v6), (9, .int v9)] → W p l e rm_X12_knows s m args below meth c H locs 0 0 Q (F0 m 112 ls []) := by
  obtain ⟨hx, hb, hr, hml, hown, hts, hlocks, hKn, hBs⟩ := id X
  have hK := hKn.1
  have hin : ∀ w ∈ wsX120, w ∈ wsX12_knows := fun w h => List.mem_cons_of_mem _ (List.mem_append_right _ h)
  intro n
  induction n with
  | zero =>
    intro v5 v9 hf
    cases hf
  | succ n ih =>
    intro v5 v9 hf hk154 H locs ls hG hS hl
    rw [L_X12_knows_112.eq_2] at hf
    refine lv_iload hx hb dX12_knows_112 (lv_at hl 6 rfl) ?_
    refine lv_aload_n hx hb dX12_knows_114 rfl (lv_at hl 0 rfl) ?_
    refine gp_get (v := .int i_people) (C := RX12) (T := TX12) (N := 33) (ci := 10) hx hb hts hin hown hK hG mg_o rfl 12 (by decide) (hts _ (List.mem_of_getElem? (i := 4) rfl)) (fun _ h9 => h9) rfl dX12_knows_115 ?_
    refine lv_icmp_ge (tgt := 154) hx hb dX12_knows_118 (by decide) (fun c118 => ?_) (fun c118 => ?_)
    · have hf := gb_t c118 hf
      exact hk154 _ hf _ _ _ hG hS (lv_sub hl [0, 1, 2, 3, 4, 5] rfl)
    · have hf := gb_f c118 hf
      refine lv_iload hx hb dX12_knows_121 (lv_at hl 4 rfl) ?_
      refine lv_aload_n hx hb dX12_knows_123 rfl (lv_at hl 0 rfl) ?_
      refine lv_iload hx hb dX12_knows_124 (lv_at hl 6 rfl) ?_
      obtain ⟨o126, hc126, hf⟩ := gb_b hf
      refine gp_callI (va_runV (As := [.int v9]) (rest := [.int v5]) ⟨hx, hb, hml, hown, hts⟩ (c_X12_shownTo (l := l) (D := D) (b := b) (M := M) (cI := cI) (cL := cL) hc126) (cwV 1 hts gX12_knows_X12_shownTo rfl rfl rfl (by decide +kernel) ⟨Nat.le_of_ble_eq_true rfl, Nat.le_of_ble_eq_true rfl⟩) (gp_preV hKn hG mg_o rfl) rfl rfl hl.1 rfl (lv_room (Nat.le_of_ble_eq_true rfl)) dX12_knows_126 ⟨Nat.le_of_ble_eq_true rfl, Nat.le_of_ble_eq_true rfl⟩) hS (fun H locs hG hS => ?_)
      refine lv_iload hx hb dX12_knows_129 (lv_at hl 5 rfl) ?_
      obtain ⟨o131, hc131, hf⟩ := gb_b hf
      refine gp_callI (va_runS (As := [.int o126, .int v6]) (rest := [.int v5]) ⟨hx, hb, hml, hown, hts⟩ (c_X12_has (l := l) (D := D) (b := b) (M := M) (cI := cI) (cL := cL) hc131) (va_cwS 2 hts gX12_knows_X12_has rfl rfl rfl (by decide +kernel) ⟨Nat.le_of_ble_eq_true rfl, Nat.le_of_ble_eq_true rfl⟩) (gp_preS hKn hG) rfl rfl hl.1 rfl (lv_room (Nat.le_of_ble_eq_true rfl)) dX12_knows_131 ⟨Nat.le_of_ble_eq_true rfl, Nat.le_of_ble_eq_true rfl⟩) hS (fun H locs hG hS => ?_)
      have hJ134 : ∀ Z : Int32, Z = (if o131 = 0 then 0 else (1 : Int32) <<< (v9 &&& 31)) → W p l e rm_X12_knows s m args below meth c H locs 0 0 Q (F0 m 145 ls (.int Z :: [.int v5])) := by
        intro Z hZ
        subst hZ
        refine lv_ior hx hb dX12_knows_145 ?_
        refine lv_istore (lv' := [(5, .int (v5 ||| (if o131 = 0 then 0 else (1 : Int32) <<< (v9 &&& 31)))), (0, .ref h0), (1, .int v1), (2, .int v2), (3, .int v3), (6, .int v6), (9, .int v9)]) hx hb dX12_knows_146 hl (by decide) rfl (fun ls hl => ?_)
        refine lv_iinc (v := v9 + 1) (lv' := [(9, .int (v9 + 1)), (5, .int (v5 ||| (if o131 = 0 then 0 else (1 : Int32) <<< (v9 &&& 31)))), (0, .ref h0), (1, .int v1), (2, .int v2), (3, .int v3), (6, .int v6)]) hx hb dX12_knows_148 hl (k := 6) rfl rfl (by decide) rfl (fun ls hl => ?_)
        refine lv_goto (tgt := 112) hx hb dX12_knows_151 (by decide) ?_
        exact ih _ _ hf hk154 _ _ _ hG hS (lv_sub hl [2, 3, 4, 5, 1, 6, 0] rfl)
      refine lv_if_eq (tgt := 144) hx hb dX12_knows_134 (by decide) (fun c134 => ?_) (fun c134 => ?_)
      · rw [if_pos c134] at hJ134
        refine lv_iconst (v := 0) hx hb dX12_knows_144 (by decide) ?_
        exact hJ134 _ rfl
      · rw [if_neg c134] at hJ134
        refine lv_iconst (v := 1) hx hb dX12_knows_137 (by decide) ?_
        refine lv_iload hx hb dX12_knows_138 (lv_at hl 6 rfl) ?_
        refine lv_ishl hx hb dX12_knows_140 ?_
        refine lv_goto (tgt := 145) hx hb dX12_knows_141 (by decide) ?_
        exact hJ134 _ rfl
set_option maxHeartbeats 4000000 in
set_option maxRecDepth 100000 in
theorem w_X12_knows_51 {α : Type} {R : α} {K160 : Int32 → Option α} {v1 : Int32} {v2 : Int32} {v3 : Int32} (X : gC p s m args meth c cX12_knows 10 (some .int) wsX12_knows RX12 D b (gTy cI cL)) : ∀ (n : Nat) (v5 : Int32) (v6 : Int32), L_X12_knows_51 K160 a_scenes a_who a_cell a_minuteOf a_standsAt i_lampMany i_people a_litBy v1 v2 v3 n v5 v6 = some R → (∀ (x : Int32), K160 x = some R → ∀ (H : Heap) (locs : List Loc) (ls : Array Slot), GP D b M (mg cI h0 a_refused a_isWall a_kind a_lampCell a_range a_lit a_scenes a_who a_cell a_minuteOf a_standsAt i_lampMany i_people i_minute a_tape a_letter a_letterAt a_told i_taped i_at i_statements a_kept i_hasImage i_isKeeping i_cursor a_far a_shut a_queue i_queued a_litBy a_may a_row i_rowMany g0) H → va_S (gA b) s.heap H locs → lv_has ls 10 [(5, .int x)] → W p l e rm_X12_knows s m args below meth c H locs 0 0 Q (F0 m 160 ls [])) → ∀ (H : Heap) (locs : List Loc) (ls : Array Slot), GP D b M (mg cI h0 a_refused a_isWall a_kind a_lampCell a_range a_lit a_scenes a_who a_cell a_minuteOf a_standsAt i_lampMany i_people i_minute a_tape a_letter a_letterAt a_told i_taped i_at i_statements a_kept i_hasImage i_isKeeping i_cursor a_far a_shut a_queue i_queued a_litBy a_may a_row i_rowMany g0) H → va_S (gA b) s.heap H locs → lv_has ls 10 [(0, .ref h0), (1, .int v1), (2, .int v2), (3, .int v3), (5, .int v5), (6, .int v6)] → W p l e rm_X12_knows s m args below meth c H locs 0 0 Q (F0 m 51 ls []) := by
  obtain ⟨hx, hb, hr, hml, hown, hts, hlocks, hKn, hBs⟩ := id X
  have hK := hKn.1
  have hin : ∀ w ∈ wsX120, w ∈ wsX12_knows := fun w h => List.mem_cons_of_mem _ (List.mem_append_right _ h)
  intro n
  induction n with
  | zero =>
    intro v5 v6 hf
    cases hf
  | succ n ih =>
    intro v5 v6 hf hk160 H locs ls hG hS hl
    rw [L_X12_knows_51.eq_2] at hf
    refine lv_iload hx hb dX12_knows_51 (lv_at hl 5 rfl) ?_
    refine lv_aload_n hx hb dX12_knows_53 rfl (lv_at hl 0 rfl) ?_
    refine gp_get (v := .int i_lampMany) (C := RX12) (T := TX12) (N := 33) (ci := 10) hx hb hts hin hown hK hG mg_o rfl 11 (by decide) (hts _ (List.mem_of_getElem? (i := 1) rfl)) (fun _ h9 => h9) rfl dX12_knows_54 ?_
    refine lv_icmp_ge (tgt := 160) hx hb dX12_knows_57 (by decide) (fun c57 => ?_) (fun c57 => ?_)
    · have hf := gb_t c57 hf
      exact hk160 _ hf _ _ _ hG hS (lv_sub hl [4] rfl)
    · have hf := gb_f c57 hf
      refine lv_aload_n hx hb dX12_knows_60 rfl (lv_at hl 0 rfl) ?_
      refine lv_iload hx hb dX12_knows_61 (lv_at hl 5 rfl) ?_
      refine lv_iload_n hx hb dX12_knows_63 rfl (lv_at hl 3 rfl) ?_
      obtain ⟨o64, hc64, hf⟩ := gb_b hf
      refine gp_callI (va_runV (As := [.int v6, .int v3]) (rest := []) ⟨hx, hb, hml, hown, hts⟩ (c_X12_sceneAt (l := l) (D := D) (b := b) (M := M) (cI := cI) (cL := cL) hc64) (cwV 2 hts gX12_knows_X12_sceneAt rfl rfl rfl (by decide +kernel) ⟨Nat.le_of_ble_eq_true rfl, Nat.le_of_ble_eq_true rfl⟩) (gp_preV hKn hG mg_o rfl) rfl rfl hl.1 rfl (lv_room (Nat.le_of_ble_eq_true rfl)) dX12_knows_64 ⟨Nat.le_of_ble_eq_true rfl, Nat.le_of_ble_eq_true rfl⟩) hS (fun H locs hG hS => ?_)
      refine lv_istore (lv' := [(7, .int o64), (0, .ref h0), (1, .int v1), (2, .int v2), (3, .int v3), (5, .int v5), (6, .int v6)]) hx hb dX12_knows_67 hl (by decide) rfl (fun ls hl => ?_)
      refine lv_bipush (v := 9) hx hb dX12_knows_69 (by decide) ?_
      refine lv_iload hx hb dX12_knows_71 (lv_at hl 6 rfl) ?_
      refine lv_imul hx hb dX12_knows_73 ?_
      refine lv_iload hx hb dX12_knows_74 (lv_at hl 0 rfl) ?_
      refine lv_iadd hx hb dX12_knows_76 ?_
      refine lv_istore (lv' := [(8, .int ((9 * v6) + o64)), (7, .int o64), (0, .ref h0), (1, .int v1), (2, .int v2), (3, .int v3), (5, .int v5), (6, .int v6)]) hx hb dX12_knows_77 hl (by decide) rfl (fun ls hl => ?_)
      refine lv_iload hx hb dX12_knows_79 (lv_at hl 1 rfl) ?_
      obtain ⟨j81, hj81, hf⟩ := gb_b hf
      have hJ81 : ∀ (H : Heap) (locs : List Loc) (ls : Array Slot), GP D b M (mg cI h0 a_refused a_isWall a_kind a_lampCell a_range a_lit a_scenes a_who a_cell a_minuteOf a_standsAt i_lampMany i_people i_minute a_tape a_letter a_letterAt a_told i_taped i_at i_statements a_kept i_hasImage i_isKeeping i_cursor a_far a_shut a_queue i_queued a_litBy a_may a_row i_rowMany g0) H → va_S (gA b) s.heap H locs → lv_has ls 10 [(0, .ref h0), (1, .int v1), (2, .int v2), (3, .int v3), (5, .int j81), (6, .int v6)] → W p l e rm_X12_knows s m args below meth c H locs 0 0 Q (F0 m 154 ls []) := by
        intro H locs ls hG hS hl
        refine lv_iinc (v := v6 + 1) (lv' := [(6, .int (v6 + 1)), (0, .ref h0), (1, .int v1), (2, .int v2), (3, .int v3), (5, .int j81)]) hx hb dX12_knows_154 hl (k := 5) rfl rfl (by decide) rfl (fun ls hl => ?_)
        refine lv_goto (tgt := 51) hx hb dX12_knows_157 (by decide) ?_
        exact ih _ _ hf hk160 _ _ _ hG hS (lv_sub hl [1, 2, 3, 4, 5, 0] rfl)
      refine lv_if_lt (tgt := 154) hx hb dX12_knows_81 (by decide) (fun c81 => ?_) (fun c81 => ?_)
      · have hj81 := gb_t c81 hj81
        have hj81 := Option.some.inj hj81
        subst hj81
        exact hJ81 H locs ls hG hS (lv_sub hl [2, 3, 4, 5, 6, 7] rfl)
      · have hj81 := gb_f c81 hj81
        refine lv_aload_n hx hb dX12_knows_84 rfl (lv_at hl 2 rfl) ?_
        refine gp_get (v := .ref (h0 + 8)) (C := RX12) (T := TX12) (N := 33) (ci := 10) hx hb hts hin hown hK hG mg_o rfl 7 (by decide) (hts _ (List.mem_of_getElem? (i := 2) rfl)) (fun _ h9 => h9) rfl dX12_knows_85 ?_
        refine lv_iload hx hb dX12_knows_88 (lv_at hl 0 rfl) ?_
        obtain ⟨b90, hj81⟩ := gb_ix hj81
        refine gp_iald hx hb hK hG mg_who b90 dX12_knows_90 ?_
        refine lv_iload_n hx hb dX12_knows_91 rfl (lv_at hl 3 rfl) ?_
        refine lv_icmp_ne (tgt := 154) hx hb dX12_knows_92 (by decide) (fun c92 => ?_) (fun c92 => ?_)
        · have hj81 := gb_f c92 hj81
          have hj81 := Option.some.inj hj81
          subst hj81
          exact hJ81 H locs ls hG hS (lv_sub hl [2, 3, 4, 5, 6, 7] rfl)
        · have hj81 := gb_t c92 hj81
          refine lv_aload_n hx hb dX12_knows_95 rfl (lv_at hl 2 rfl) ?_
          refine gp_get (v := .ref (h0 + 9)) (C := RX12) (T := TX12) (N := 33) (ci := 10) hx hb hts hin hown hK hG mg_o rfl 8 (by decide) (hts _ (List.mem_of_getElem? (i := 3) rfl)) (fun _ h9 => h9) rfl dX12_knows_96 ?_
          refine lv_iload hx hb dX12_knows_99 (lv_at hl 0 rfl) ?_
          obtain ⟨b101, hj81⟩ := gb_ix hj81
          refine gp_iald hx hb hK hG mg_cell b101 dX12_knows_101 ?_
          refine lv_iload_n hx hb dX12_knows_102 rfl (lv_at hl 4 rfl) ?_
          refine lv_icmp_eq (tgt := 109) hx hb dX12_knows_103 (by decide) (fun c103 => ?_) (fun c103 => ?_)
          · have hj81 := gb_t c103 hj81
            refine lv_iconst (v := 0) hx hb dX12_knows_109 (by decide) ?_
            refine lv_istore (lv' := [(9, .int 0), (8, .int ((9 * v6) + o64)), (7, .int o64), (0, .ref h0), (1, .int v1), (2, .int v2), (3, .int v3), (5, .int v5), (6, .int v6)]) hx hb dX12_knows_110 hl (by decide) rfl (fun ls hl => ?_)
            refine w_X12_knows_112 X _ _ _ hj81 (fun x112_154 hj81 H locs ls hG hS hl => ?_) _ _ _ hG hS (lv_sub hl [3, 4, 5, 6, 7, 8, 0] rfl)
            · have hj81 := Option.some.inj hj81
              subst hj81
              exact hJ81 H locs ls hG hS (lv_sub hl [0, 1, 2, 3, 4, 5] rfl)
          · have hj81 := gb_f c103 hj81
            refine lv_goto (tgt := 154) hx hb dX12_knows_106 (by decide) ?_
            have hj81 := Option.some.inj hj81
            subst hj81
            exact hJ81 H locs ls hG hS (lv_sub hl [2, 3, 4, 5, 6, 7] rfl)
set_option maxHeartbeats 4000000 in
set_option maxRecDepth 100000 in
theorem c_X12_knows {v1 : Int32} {v2 : Int32} {v3 : Int32} {R : Int32 × (Nat → Int32) × (Nat → Int32) × (Nat → Int32) × (Nat → Int32) × Int32 × (Nat → Int32)} (hf : f_X12_knows a_refused a_isWall a_kind a_lampCell a_range a_scenes a_who a_cell a_minuteOf a_standsAt i_lampMany i_people a_far a_shut a_queue i_queued a_litBy v1 v2 v3 = some R) : Met l yX12_knows wsX12_knows rm_X12_knows (va_Pc [.ref h0, .int v1, .int v2, .int v3] (gPre D b M (mg cI h0 a_refused a_isWall a_kind a_lampCell a_range a_lit a_scenes a_who a_cell a_minuteOf a_standsAt i_lampMany i_people i_minute a_tape a_letter a_letterAt a_told i_taped i_at i_statements a_kept i_hasImage i_isKeeping i_cursor a_far a_shut a_queue i_queued a_litBy a_may a_row i_rowMany g0) (gTy cI cL))) (gQ D b (some (.int R.1)) M (mg cI h0 R.2.1 a_isWall a_kind a_lampCell a_range a_lit a_scenes a_who a_cell a_minuteOf a_standsAt i_lampMany i_people i_minute a_tape a_letter a_letterAt a_told i_taped i_at i_statements a_kept i_hasImage i_isKeeping i_cursor R.2.2.1 R.2.2.2.1 R.2.2.2.2.1 R.2.2.2.2.2.1 R.2.2.2.2.2.2 a_may a_row i_rowMany g0)) 0 0 (gA b) := by
  refine gp_met (cc := cX12_knows) (maxL := 10) (ret := (some .int)) (by decide) rfl (Nat.le_of_ble_eq_true rfl) ?_
  intro p e s m below meth c X ls hG hl
  have hS : va_S (gA b) s.heap s.heap [] := va_S.rf
  obtain ⟨H, hH0⟩ : ∃ H : Heap, H = s.heap := ⟨_, rfl⟩
  rw [← hH0] at hG ⊢
  have hS : va_S (gA b) s.heap H [] := by rw [hH0]; exact va_S.rf
  obtain ⟨locs, hlo⟩ : ∃ z : List Loc, z = [] := ⟨_, rfl⟩
  rw [← hlo] at hS ⊢
  unfold f_X12_knows at hf
  obtain ⟨hx, hb, hr, hml, hown, hts, hlocks, hKn, hBs⟩ := id X
  have hK := hKn.1
  have hin : ∀ w ∈ wsX120, w ∈ wsX12_knows := fun w h => List.mem_cons_of_mem _ (List.mem_append_right _ h)
  have hl : lv_has ls 10 [(0, .ref h0), (1, .int v1), (2, .int v2), (3, .int v3)] := hl
  refine lv_aload_n hx hb dX12_knows_0 rfl (lv_at hl 0 rfl) ?_
  refine lv_iload_n hx hb dX12_knows_1 rfl (lv_at hl 1 rfl) ?_
  obtain ⟨o2, hc2, hf⟩ := gb_b hf
  refine gp_callI (va_runV (As := [.int v1]) (rest := []) ⟨hx, hb, hml, hown, hts⟩ (c_X12_isPerson (l := l) (D := D) (b := b) (M := M) (cI := cI) (cL := cL) hc2) (cwV 1 hts gX12_knows_X12_isPerson rfl rfl rfl (by decide +kernel) ⟨Nat.le_of_ble_eq_true rfl, Nat.le_of_ble_eq_true rfl⟩) (gp_preV hKn hG mg_o rfl) rfl rfl hl.1 rfl (lv_room (Nat.le_of_ble_eq_true rfl)) dX12_knows_2 ⟨Nat.le_of_ble_eq_true rfl, Nat.le_of_ble_eq_true rfl⟩) hS (fun H locs hG hS => ?_)
  obtain ⟨j5, hj5, hf⟩ := gb_b hf
  have hJ5 : ∀ (H : Heap) (locs : List Loc) (ls : Array Slot), GP D b M (mg cI h0 a_refused a_isWall a_kind a_lampCell a_range a_lit a_scenes a_who a_cell a_minuteOf a_standsAt i_lampMany i_people i_minute a_tape a_letter a_letterAt a_told i_taped i_at i_statements a_kept i_hasImage i_isKeeping i_cursor a_far a_shut a_queue i_queued a_litBy a_may a_row i_rowMany g0) H → va_S (gA b) s.heap H locs → lv_has ls 10 [(0, .ref h0), (1, .int v1), (2, .int v2), (3, .int v3)] → W p l e rm_X12_knows s m [.ref h0, .int v1, .int v2, .int v3].toArray below meth c H locs 0 0 (MQ below (gQ D b (some (.int R.1)) M (mg cI h0 R.2.1 a_isWall a_kind a_lampCell a_range a_lit a_scenes a_who a_cell a_minuteOf a_standsAt i_lampMany i_people i_minute a_tape a_letter a_letterAt a_told i_taped i_at i_statements a_kept i_hasImage i_isKeeping i_cursor R.2.2.1 R.2.2.2.1 R.2.2.2.2.1 R.2.2.2.2.2.1 R.2.2.2.2.2.2 a_may a_row i_rowMany g0)) [.ref h0, .int v1, .int v2, .int v3].toArray s 0 0 (gA b)) (F0 m 27 ls [.int j5]) := by
    intro H locs ls hG hS hl
    refine lv_istore (lv' := [(4, .int j5), (0, .ref h0), (1, .int v1), (2, .int v2), (3, .int v3)]) hx hb dX12_knows_27 hl (by decide) rfl (fun ls hl => ?_)
    refine lv_iload hx hb dX12_knows_29 (lv_at hl 0 rfl) ?_
    refine lv_if_eq (tgt := 41) hx hb dX12_knows_31 (by decide) (fun c31 => ?_) (fun c31 => ?_)
    · have hf := gb_t c31 hf
      refine lv_aload_n hx hb dX12_knows_41 rfl (lv_at hl 1 rfl) ?_
      obtain ⟨o42, hc42, hf⟩ := gb_b hf
      refine gp_callV (va_runV (As := []) (rest := []) ⟨hx, hb, hml, hown, hts⟩ (c_X12_findLit (l := l) (D := D) (b := b) (M := M) (cI := cI) (cL := cL) hc42) (cwV 0 hts gX12_knows_X12_findLit rfl rfl rfl (by decide +kernel) ⟨Nat.le_of_ble_eq_true rfl, Nat.le_of_ble_eq_true rfl⟩) (gp_preV hKn hG mg_o rfl) rfl rfl hl.1 rfl (lv_room (Nat.le_of_ble_eq_true rfl)) dX12_knows_42 ⟨Nat.le_of_ble_eq_true rfl, Nat.le_of_ble_eq_true rfl⟩) hS (fun H locs hG hS => ?_)
      refine lv_iconst (v := 0) hx hb dX12_knows_45 (by decide) ?_
      refine lv_istore (lv' := [(5, .int 0), (4, .int j5), (0, .ref h0), (1, .int v1), (2, .int v2), (3, .int v3)]) hx hb dX12_knows_46 hl (by decide) rfl (fun ls hl => ?_)
      refine lv_iconst (v := 0) hx hb dX12_knows_48 (by decide) ?_
      refine lv_istore (lv' := [(6, .int 0), (5, .int 0), (4, .int j5), (0, .ref h0), (1, .int v1), (2, .int v2), (3, .int v3)]) hx hb dX12_knows_49 hl (by decide) rfl (fun ls hl => ?_)
      refine w_X12_knows_51 X _ _ _ hf (fun x51_160 hf H locs ls hG hS hl => ?_) _ _ _ hG hS (lv_sub hl [3, 4, 5, 6, 1, 0] rfl)
      · refine lv_iload hx hb dX12_knows_160 (lv_at hl 0 rfl) ?_
        have hf := Option.some.inj hf
        subst hf
        exact gp_retI hx hb hr hlocks hG hS (Nat.le_refl _) (Nat.le_refl _) dX12_knows_162
    · have hf := gb_f c31 hf
      refine lv_aload_n hx hb dX12_knows_34 rfl (lv_at hl 1 rfl) ?_
      refine lv_iload hx hb dX12_knows_35 (lv_at hl 0 rfl) ?_
      obtain ⟨o37, hc37, hf⟩ := gb_b hf
      refine gp_callI (va_runV (As := [.int j5]) (rest := []) ⟨hx, hb, hml, hown, hts⟩ (c_X12_no (l := l) (D := D) (b := b) (M := M) (cI := cI) (cL := cL) hc37) (cwV 1 hts gX12_knows_X12_no rfl rfl rfl (by decide +kernel) ⟨Nat.le_of_ble_eq_true rfl, Nat.le_of_ble_eq_true rfl⟩) (gp_preV hKn hG mg_o rfl) rfl rfl hl.1 rfl (lv_room (Nat.le_of_ble_eq_true rfl)) dX12_knows_37 ⟨Nat.le_of_ble_eq_true rfl, Nat.le_of_ble_eq_true rfl⟩) hS (fun H locs hG hS => ?_)
      have hf := Option.some.inj hf
      subst hf
      exact gp_retI hx hb hr hlocks hG hS (Nat.le_refl _) (Nat.le_refl _) dX12_knows_40
  refine lv_if_eq (tgt := 15) hx hb dX12_knows_5 (by decide) (fun c5 => ?_) (fun c5 => ?_)
  · have hj5 := gb_t c5 hj5
    refine lv_iconst (v := (-1 : Int32)) hx hb dX12_knows_15 (by decide) ?_
    refine lv_goto (tgt := 27) hx hb dX12_knows_16 (by decide) ?_
    have hj5 := Option.some.inj hj5
    subst hj5
    exact hJ5 H locs ls hG hS (lv_sub hl [0, 1, 2, 3] rfl)
  · have hj5 := gb_f c5 hj5
    refine lv_iload_n hx hb dX12_knows_8 rfl (lv_at hl 2 rfl) ?_
    obtain ⟨o9, hc9, hj5⟩ := gb_b hj5
    refine gp_callI (va_runS (As := [.int v2]) (rest := []) ⟨hx, hb, hml, hown, hts⟩ (c_X12_isCell (l := l) (D := D) (b := b) (M := M) (cI := cI) (cL := cL) hc9) (va_cwS 1 hts gX12_knows_X12_isCell rfl rfl rfl (by decide +kernel) ⟨Nat.le_of_ble_eq_true rfl, Nat.le_of_ble_eq_true rfl⟩) (gp_preS hKn hG) rfl rfl hl.1 rfl (lv_room (Nat.le_of_ble_eq_true rfl)) dX12_knows_9 ⟨Nat.le_of_ble_eq_true rfl, Nat.le_of_ble_eq_true rfl⟩) hS (fun H locs hG hS => ?_)
    refine lv_if_ne (tgt := 19) hx hb dX12_knows_12 (by decide) (fun c12 => ?_) (fun c12 => ?_)
    · have hj5 := gb_f c12 hj5
      refine lv_iload_n hx hb dX12_knows_19 rfl (lv_at hl 3 rfl) ?_
      refine lv_iconst (v := 0) hx hb dX12_knows_20 (by decide) ?_
      refine lv_sipush (v := 9999) hx hb dX12_knows_21 (by decide) ?_
      obtain ⟨o24, hc24, hj5⟩ := gb_b hj5
      refine gp_callI (va_runS (As := [.int v3, .int 0, .int 9999]) (rest := []) ⟨hx, hb, hml, hown, hts⟩ (c_X12_bound (l := l) (D := D) (b := b) (M := M) (cI := cI) (cL := cL) hc24) (va_cwS 3 hts gX12_knows_X12_bound rfl rfl rfl (by decide +kernel) ⟨Nat.le_of_ble_eq_true rfl, Nat.le_of_ble_eq_true rfl⟩) (gp_preS hKn hG) rfl rfl hl.1 rfl (lv_room (Nat.le_of_ble_eq_true rfl)) dX12_knows_24 ⟨Nat.le_of_ble_eq_true rfl, Nat.le_of_ble_eq_true rfl⟩) hS (fun H locs hG hS => ?_)
      have hj5 := Option.some.inj hj5
      subst hj5
      exact hJ5 H locs ls hG hS (lv_sub hl [0, 1, 2, 3] rfl)
    · have hj5 := gb_t c12 hj5
      refine lv_iconst (v := (-1 : Int32)) hx hb dX12_knows_15 (by decide) ?_
      refine lv_goto (tgt := 27) hx hb dX12_knows_16 (by decide) ?_
      have hj5 := Option.some.inj hj5
      subst hj5
      exact hJ5 H locs ls hG hS (lv_sub hl [0, 1, 2, 3] rfl)
-- X12_isTold
abbrev rm_X12_isTold : Room := { frames := 1, cells := 0, slots := 0, locals := 21 }
set_option maxHeartbeats 4000000 in
set_option maxRecDepth 100000 in
theorem w_X12_isTold_2 {α : Type} {R : α} {K90 : Unit → Option α} {K98 : Unit → Option α} {v1 : Int32} {v2 : Int32} (X : gC p s m args meth c cX12_isTold 5 (some .boolean) wsX12_isTold RX12 D b (gTy cI cL)) : ∀ (n : Nat) (v3 : Int32), L_X12_isTold_2 K90 K98 a_scenes a_who a_cell a_minuteOf i_lampMany v1 v2 n v3 = some R → (∀ (x : Unit), K90 x = some R → ∀ (H : Heap) (locs : List Loc) (ls : Array Slot), GP D b M (mg cI h0 a_refused a_isWall a_kind a_lampCell a_range a_lit a_scenes a_who a_cell a_minuteOf a_standsAt i_lampMany i_people i_minute a_tape a_letter a_letterAt a_told i_taped i_at i_statements a_kept i_hasImage i_isKeeping i_cursor a_far a_shut a_queue i_queued a_litBy a_may a_row i_rowMany g0) H → va_S (gA b) s.heap H locs → lv_has ls 5 [] → W p l e rm_X12_isTold s m args below meth c H locs 0 0 Q (F0 m 90 ls [])) → (∀ (x : Unit), K98 x = some R → ∀ (H : Heap) (locs : List Loc) (ls : Array Slot), GP D b M (mg cI h0 a_refused a_isWall a_kind a_lampCell a_range a_lit a_scenes a_who a_cell a_minuteOf a_standsAt i_lampMany i_people i_minute a_tape a_letter a_letterAt a_told i_taped i_at i_statements a_kept i_hasImage i_isKeeping i_cursor a_far a_shut a_queue i_queued a_litBy a_may a_row i_rowMany g0) H → va_S (gA b) s.heap H locs → lv_has ls 5 [] → W p l e rm_X12_isTold s m args below meth c H locs 0 0 Q (F0 m 98 ls [])) → ∀ (H : Heap) (locs : List Loc) (ls : Array Slot), GP D b M (mg cI h0 a_refused a_isWall a_kind a_lampCell a_range a_lit a_scenes a_who a_cell a_minuteOf a_standsAt i_lampMany i_people i_minute a_tape a_letter a_letterAt a_told i_taped i_at i_statements a_kept i_hasImage i_isKeeping i_cursor a_far a_shut a_queue i_queued a_litBy a_may a_row i_rowMany g0) H → va_S (gA b) s.heap H locs → lv_has ls 5 [(0, .ref h0), (1, .int v1), (2, .int v2), (3, .int v3)] → W p l e rm_X12_isTold s m args below meth c H locs 0 0 Q (F0 m 2 ls []) := by
  obtain ⟨hx, hb, hr, hml, hown, hts, hlocks, hKn, hBs⟩ := id X
  have hK := hKn.1
  have hin : ∀ w ∈ wsX120, w ∈ wsX12_isTold := fun w h => List.mem_cons_of_mem _ (List.mem_append_right _ h)
  intro n
  induction n with
  | zero =>
    intro v3 hf
    cases hf
  | succ n ih =>
    intro v3 hf hk90 hk98 H locs ls hG hS hl
    rw [L_X12_isTold_2.eq_2] at hf
    refine lv_iload_n hx hb dX12_isTold_2 rfl (lv_at hl 3 rfl) ?_
    refine lv_iload_n hx hb dX12_isTold_3 rfl (lv_at hl 1 rfl) ?_
    refine lv_icmp_ge (tgt := 98) hx hb dX12_isTold_4 (by decide) (fun c4 => ?_) (fun c4 => ?_)
    · have hf := gb_t c4 hf
      exact hk98 _ hf _ _ _ hG hS (lv_sub hl [] rfl)
    · have hf := gb_f c4 hf
      refine lv_iload_n hx hb dX12_isTold_7 rfl (lv_at hl 3 rfl) ?_
      refine lv_bipush (v := 9) hx hb dX12_isTold_8 (by decide) ?_
      refine lv_idiv hx hb dX12_isTold_10 (by decide) ?_
      refine lv_istore (lv' := [(4, .int (v3 / 9)), (0, .ref h0), (1, .int v1), (2, .int v2), (3, .int v3)]) hx hb dX12_isTold_11 hl (by decide) rfl (fun ls hl => ?_)
      refine lv_iload hx hb dX12_isTold_13 (lv_at hl 0 rfl) ?_
      refine lv_aload_n hx hb dX12_isTold_15 rfl (lv_at hl 1 rfl) ?_
      refine gp_get (v := .int i_lampMany) (C := RX12) (T := TX12) (N := 33) (ci := 10) hx hb hts hin hown hK hG mg_o rfl 11 (by decide) (hts _ (List.mem_of_getElem? (i := 1) rfl)) (fun _ h9 => h9) rfl dX12_isTold_16 ?_
      refine lv_icmp_ge (tgt := 92) hx hb dX12_isTold_19 (by decide) (fun c19 => ?_) (fun c19 => ?_)
      · have hf := gb_t c19 hf
        refine lv_iinc (v := v3 + 1) (lv' := [(3, .int (v3 + 1)), (4, .int (v3 / 9)), (0, .ref h0), (1, .int v1), (2, .int v2)]) hx hb dX12_isTold_92 hl (k := 4) rfl rfl (by decide) rfl (fun ls hl => ?_)
        refine lv_goto (tgt := 2) hx hb dX12_isTold_95 (by decide) ?_
        exact ih _ hf hk90 hk98 _ _ _ hG hS (lv_sub hl [2, 3, 4, 0] rfl)
      · have hf := gb_f c19 hf
        refine lv_iload_n hx hb dX12_isTold_22 rfl (lv_at hl 4 rfl) ?_
        refine lv_bipush (v := 9) hx hb dX12_isTold_23 (by decide) ?_
        refine lv_irem hx hb dX12_isTold_25 (by decide) ?_
        refine lv_aload_n hx hb dX12_isTold_26 rfl (lv_at hl 1 rfl) ?_
        refine gp_get (v := .ref (h0 + 7)) (C := RX12) (T := TX12) (N := 33) (ci := 10) hx hb hts hin hown hK hG mg_o rfl 6 (by decide) (hts _ (List.mem_of_getElem? (i := 2) rfl)) (fun _ h9 => h9) rfl dX12_isTold_27 ?_
        refine lv_iload hx hb dX12_isTold_30 (lv_at hl 0 rfl) ?_
        obtain ⟨b32, hf⟩ := gb_ix hf
        refine gp_iald hx hb hK hG mg_scenes b32 dX12_isTold_32 ?_
        refine lv_icmp_ge (tgt := 92) hx hb dX12_isTold_33 (by decide) (fun c33 => ?_) (fun c33 => ?_)
        · have hf := gb_t c33 hf
          refine lv_iinc (v := v3 + 1) (lv' := [(3, .int (v3 + 1)), (4, .int (v3 / 9)), (0, .ref h0), (1, .int v1), (2, .int v2)]) hx hb dX12_isTold_92 hl (k := 4) rfl rfl (by decide) rfl (fun ls hl => ?_)
          refine lv_goto (tgt := 2) hx hb dX12_isTold_95 (by decide) ?_
          exact ih _ hf hk90 hk98 _ _ _ hG hS (lv_sub hl [2, 3, 4, 0] rfl)
        · have hf := gb_f c33 hf
          refine lv_iload_n hx hb dX12_isTold_36 rfl (lv_at hl 3 rfl) ?_
          refine lv_iload hx hb dX12_isTold_37 (lv_at hl 0 rfl) ?_
          obtain ⟨o39, hc39, hf⟩ := gb_b hf
          refine gp_callI (va_runS (As := [.int v2, .int (v3 / 9)]) (rest := []) ⟨hx, hb, hml, hown, hts⟩ (c_X12_has (l := l) (D := D) (b := b) (M := M) (cI := cI) (cL := cL) hc39) (va_cwS 2 hts gX12_isTold_X12_has rfl rfl rfl (by decide +kernel) ⟨Nat.le_of_ble_eq_true rfl, Nat.le_of_ble_eq_true rfl⟩) (gp_preS hKn hG) rfl rfl hl.1 rfl (lv_room (Nat.le_of_ble_eq_true rfl)) dX12_isTold_39 ⟨Nat.le_of_ble_eq_true rfl, Nat.le_of_ble_eq_true rfl⟩) hS (fun H locs hG hS => ?_)
          refine lv_if_eq (tgt := 92) hx hb dX12_isTold_42 (by decide) (fun c42 => ?_) (fun c42 => ?_)
          · have hf := gb_t c42 hf
            refine lv_iinc (v := v3 + 1) (lv' := [(3, .int (v3 + 1)), (4, .int (v3 / 9)), (0, .ref h0), (1, .int v1), (2, .int v2)]) hx hb dX12_isTold_92 hl (k := 4) rfl rfl (by decide) rfl (fun ls hl => ?_)
            refine lv_goto (tgt := 2) hx hb dX12_isTold_95 (by decide) ?_
            exact ih _ hf hk90 hk98 _ _ _ hG hS (lv_sub hl [2, 3, 4, 0] rfl)
          · have hf := gb_f c42 hf
            refine lv_aload_n hx hb dX12_isTold_45 rfl (lv_at hl 1 rfl) ?_
            refine gp_get (v := .ref (h0 + 8)) (C := RX12) (T := TX12) (N := 33) (ci := 10) hx hb hts hin hown hK hG mg_o rfl 7 (by decide) (hts _ (List.mem_of_getElem? (i := 3) rfl)) (fun _ h9 => h9) rfl dX12_isTold_46 ?_
            refine lv_iload_n hx hb dX12_isTold_49 rfl (lv_at hl 4 rfl) ?_
            obtain ⟨b50, hf⟩ := gb_ix hf
            refine gp_iald hx hb hK hG mg_who b50 dX12_isTold_50 ?_
            refine lv_aload_n hx hb dX12_isTold_51 rfl (lv_at hl 1 rfl) ?_
            refine gp_get (v := .ref (h0 + 8)) (C := RX12) (T := TX12) (N := 33) (ci := 10) hx hb hts hin hown hK hG mg_o rfl 7 (by decide) (hts _ (List.mem_of_getElem? (i := 3) rfl)) (fun _ h9 => h9) rfl dX12_isTold_52 ?_
            refine lv_iload_n hx hb dX12_isTold_55 rfl (lv_at hl 2 rfl) ?_
            obtain ⟨b56, hf⟩ := gb_ix hf
            refine gp_iald hx hb hK hG mg_who b56 dX12_isTold_56 ?_
            refine lv_icmp_ne (tgt := 92) hx hb dX12_isTold_57 (by decide) (fun c57 => ?_) (fun c57 => ?_)
            · have hf := gb_f c57 hf
              refine lv_iinc (v := v3 + 1) (lv' := [(3, .int (v3 + 1)), (4, .int (v3 / 9)), (0, .ref h0), (1, .int v1), (2, .int v2)]) hx hb dX12_isTold_92 hl (k := 4) rfl rfl (by decide) rfl (fun ls hl => ?_)
              refine lv_goto (tgt := 2) hx hb dX12_isTold_95 (by decide) ?_
              exact ih _ hf hk90 hk98 _ _ _ hG hS (lv_sub hl [2, 3, 4, 0] rfl)
            · have hf := gb_t c57 hf
              refine lv_aload_n hx hb dX12_isTold_60 rfl (lv_at hl 1 rfl) ?_
              refine gp_get (v := .ref (h0 + 9)) (C := RX12) (T := TX12) (N := 33) (ci := 10) hx hb hts hin hown hK hG mg_o rfl 8 (by decide) (hts _ (List.mem_of_getElem? (i := 4) rfl)) (fun _ h9 => h9) rfl dX12_isTold_61 ?_
              refine lv_iload_n hx hb dX12_isTold_64 rfl (lv_at hl 4 rfl) ?_
              obtain ⟨b65, hf⟩ := gb_ix hf
              refine gp_iald hx hb hK hG mg_cell b65 dX12_isTold_65 ?_
              refine lv_aload_n hx hb dX12_isTold_66 rfl (lv_at hl 1 rfl) ?_
              refine gp_get (v := .ref (h0 + 9)) (C := RX12) (T := TX12) (N := 33) (ci := 10) hx hb hts hin hown hK hG mg_o rfl 8 (by decide) (hts _ (List.mem_of_getElem? (i := 4) rfl)) (fun _ h9 => h9) rfl dX12_isTold_67 ?_
              refine lv_iload_n hx hb dX12_isTold_70 rfl (lv_at hl 2 rfl) ?_
              obtain ⟨b71, hf⟩ := gb_ix hf
              refine gp_iald hx hb hK hG mg_cell b71 dX12_isTold_71 ?_
              refine lv_icmp_ne (tgt := 92) hx hb dX12_isTold_72 (by decide) (fun c72 => ?_) (fun c72 => ?_)
              · have hf := gb_f c72 hf
                refine lv_iinc (v := v3 + 1) (lv' := [(3, .int (v3 + 1)), (4, .int (v3 / 9)), (0, .ref h0), (1, .int v1), (2, .int v2)]) hx hb dX12_isTold_92 hl (k := 4) rfl rfl (by decide) rfl (fun ls hl => ?_)
                refine lv_goto (tgt := 2) hx hb dX12_isTold_95 (by decide) ?_
                exact ih _ hf hk90 hk98 _ _ _ hG hS (lv_sub hl [2, 3, 4, 0] rfl)
              · have hf := gb_t c72 hf
                refine lv_aload_n hx hb dX12_isTold_75 rfl (lv_at hl 1 rfl) ?_
                refine gp_get (v := .ref (h0 + 10)) (C := RX12) (T := TX12) (N := 33) (ci := 10) hx hb hts hin hown hK hG mg_o rfl 9 (by decide) (hts _ (List.mem_of_getElem? (i := 5) rfl)) (fun _ h9 => h9) rfl dX12_isTold_76 ?_
                refine lv_iload_n hx hb dX12_isTold_79 rfl (lv_at hl 4 rfl) ?_
                obtain ⟨b80, hf⟩ := gb_ix hf
                refine gp_iald hx hb hK hG mg_minuteOf b80 dX12_isTold_80 ?_
                refine lv_aload_n hx hb dX12_isTold_81 rfl (lv_at hl 1 rfl) ?_
                refine gp_get (v := .ref (h0 + 10)) (C := RX12) (T := TX12) (N := 33) (ci := 10) hx hb hts hin hown hK hG mg_o rfl 9 (by decide) (hts _ (List.mem_of_getElem? (i := 5) rfl)) (fun _ h9 => h9) rfl dX12_isTold_82 ?_
                refine lv_iload_n hx hb dX12_isTold_85 rfl (lv_at hl 2 rfl) ?_
                obtain ⟨b86, hf⟩ := gb_ix hf
                refine gp_iald hx hb hK hG mg_minuteOf b86 dX12_isTold_86 ?_
                refine lv_icmp_ne (tgt := 92) hx hb dX12_isTold_87 (by decide) (fun c87 => ?_) (fun c87 => ?_)
                · have hf := gb_f c87 hf
                  refine lv_iinc (v := v3 + 1) (lv' := [(3, .int (v3 + 1)), (4, .int (v3 / 9)), (0, .ref h0), (1, .int v1), (2, .int v2)]) hx hb dX12_isTold_92 hl (k := 4) rfl rfl (by decide) rfl (fun ls hl => ?_)
                  refine lv_goto (tgt := 2) hx hb dX12_isTold_95 (by decide) ?_
                  exact ih _ hf hk90 hk98 _ _ _ hG hS (lv_sub hl [2, 3, 4, 0] rfl)
                · have hf := gb_t c87 hf
                  exact hk90 _ hf _ _ _ hG hS (lv_sub hl [] rfl)
set_option maxHeartbeats 4000000 in
set_option maxRecDepth 100000 in
theorem c_X12_isTold {v1 : Int32} {v2 : Int32} {R : Int32} (hf : f_X12_isTold a_scenes a_who a_cell a_minuteOf i_lampMany v1 v2 = some R) : Met l yX12_isTold wsX12_isTold rm_X12_isTold (va_Pc [.ref h0, .int v1, .int v2] (gPre D b M (mg cI h0 a_refused a_isWall a_kind a_lampCell a_range a_lit a_scenes a_who a_cell a_minuteOf a_standsAt i_lampMany i_people i_minute a_tape a_letter a_letterAt a_told i_taped i_at i_statements a_kept i_hasImage i_isKeeping i_cursor a_far a_shut a_queue i_queued a_litBy a_may a_row i_rowMany g0) (gTy cI cL))) (gQ D b (some (.int R)) M (mg cI h0 a_refused a_isWall a_kind a_lampCell a_range a_lit a_scenes a_who a_cell a_minuteOf a_standsAt i_lampMany i_people i_minute a_tape a_letter a_letterAt a_told i_taped i_at i_statements a_kept i_hasImage i_isKeeping i_cursor a_far a_shut a_queue i_queued a_litBy a_may a_row i_rowMany g0)) 0 0 (gA b) := by
  refine gp_met (cc := cX12_isTold) (maxL := 5) (ret := (some .boolean)) (by decide) rfl (Nat.le_of_ble_eq_true rfl) ?_
  intro p e s m below meth c X ls hG hl
  have hS : va_S (gA b) s.heap s.heap [] := va_S.rf
  obtain ⟨H, hH0⟩ : ∃ H : Heap, H = s.heap := ⟨_, rfl⟩
  rw [← hH0] at hG ⊢
  have hS : va_S (gA b) s.heap H [] := by rw [hH0]; exact va_S.rf
  obtain ⟨locs, hlo⟩ : ∃ z : List Loc, z = [] := ⟨_, rfl⟩
  rw [← hlo] at hS ⊢
  unfold f_X12_isTold at hf
  obtain ⟨hx, hb, hr, hml, hown, hts, hlocks, hKn, hBs⟩ := id X
  have hK := hKn.1
  have hin : ∀ w ∈ wsX120, w ∈ wsX12_isTold := fun w h => List.mem_cons_of_mem _ (List.mem_append_right _ h)
  have hl : lv_has ls 5 [(0, .ref h0), (1, .int v1), (2, .int v2)] := hl
  refine lv_iconst (v := 0) hx hb dX12_isTold_0 (by decide) ?_
  refine lv_istore_n (lv' := [(3, .int 0), (0, .ref h0), (1, .int v1), (2, .int v2)]) hx hb dX12_isTold_1 rfl hl (by decide) rfl (fun ls hl => ?_)
  refine w_X12_isTold_2 X _ _ hf (fun x2_90 hf H locs ls hG hS hl => ?_) (fun x2_98 hf H locs ls hG hS hl => ?_) _ _ _ hG hS (lv_sub hl [1, 2, 3, 0] rfl)
  · refine lv_iconst (v := 1) hx hb dX12_isTold_90 (by decide) ?_
    have hf := Option.some.inj hf
    subst hf
    exact gp_retZ hx hb hr (Or.inr rfl) hlocks hG hS (Nat.le_refl _) (Nat.le_refl _) dX12_isTold_91
  · refine lv_iconst (v := 0) hx hb dX12_isTold_98 (by decide) ?_
    have hf := Option.some.inj hf
    subst hf
    exact gp_retZ hx hb hr (Or.inl rfl) hlocks hG hS (Nat.le_refl _) (Nat.le_refl _) dX12_isTold_99
-- X12_unlikeOf
abbrev rm_X12_unlikeOf : Room := { frames := 2, cells := 0, slots := 0, locals := 45 }
set_option maxHeartbeats 4000000 in
set_option maxRecDepth 100000 in
theorem w_X12_unlikeOf_18 {α : Type} {R : α} {K66 : Int32 → Option α} {v1 : Int32} {v3 : Int32} (X : gC p s m args meth c cX12_unlikeOf 5 (some .int) wsX12_unlikeOf RX12 D b (gTy cI cL)) : ∀ (n : Nat) (v2 : Int32) (v4 : Int32), L_X12_unlikeOf_18 K66 a_scenes a_who a_cell a_minuteOf i_lampMany v1 v3 n v2 v4 = some R → (∀ (x : Int32), K66 x = some R → ∀ (H : Heap) (locs : List Loc) (ls : Array Slot), GP D b M (mg cI h0 a_refused a_isWall a_kind a_lampCell a_range a_lit a_scenes a_who a_cell a_minuteOf a_standsAt i_lampMany i_people i_minute a_tape a_letter a_letterAt a_told i_taped i_at i_statements a_kept i_hasImage i_isKeeping i_cursor a_far a_shut a_queue i_queued a_litBy a_may a_row i_rowMany g0) H → va_S (gA b) s.heap H locs → lv_has ls 5 [(0, .ref h0), (1, .int v1), (2, .int x), (3, .int v3)] → W p l e rm_X12_unlikeOf s m args below meth c H locs 0 0 Q (F0 m 66 ls [])) → ∀ (H : Heap) (locs : List Loc) (ls : Array Slot), GP D b M (mg cI h0 a_refused a_isWall a_kind a_lampCell a_range a_lit a_scenes a_who a_cell a_minuteOf a_standsAt i_lampMany i_people i_minute a_tape a_letter a_letterAt a_told i_taped i_at i_statements a_kept i_hasImage i_isKeeping i_cursor a_far a_shut a_queue i_queued a_litBy a_may a_row i_rowMany g0) H → va_S (gA b) s.heap H locs → lv_has ls 5 [(0, .ref h0), (1, .int v1), (2, .int v2), (3, .int v3), (4, .int v4)] → W p l e rm_X12_unlikeOf s m args below meth c H locs 0 0 Q (F0 m 18 ls []) := by
  obtain ⟨hx, hb, hr, hml, hown, hts, hlocks, hKn, hBs⟩ := id X
  have hK := hKn.1
  have hin : ∀ w ∈ wsX120, w ∈ wsX12_unlikeOf := fun w h => List.mem_cons_of_mem _ (List.mem_append_right _ h)
  intro n
  induction n with
  | zero =>
    intro v2 v4 hf
    cases hf
  | succ n ih =>
    intro v2 v4 hf hk66 H locs ls hG hS hl
    rw [L_X12_unlikeOf_18.eq_2] at hf
    refine lv_iload hx hb dX12_unlikeOf_18 (lv_at hl 4 rfl) ?_
    refine lv_bipush (v := 9) hx hb dX12_unlikeOf_20 (by decide) ?_
    refine lv_iload_n hx hb dX12_unlikeOf_22 rfl (lv_at hl 3 rfl) ?_
    refine lv_imul hx hb dX12_unlikeOf_23 ?_
    refine lv_aload_n hx hb dX12_unlikeOf_24 rfl (lv_at hl 0 rfl) ?_
    refine gp_get (v := .ref (h0 + 7)) (C := RX12) (T := TX12) (N := 33) (ci := 10) hx hb hts hin hown hK hG mg_o rfl 6 (by decide) (hts _ (List.mem_of_getElem? (i := 2) rfl)) (fun _ h9 => h9) rfl dX12_unlikeOf_25 ?_
    refine lv_iload_n hx hb dX12_unlikeOf_28 rfl (lv_at hl 3 rfl) ?_
    obtain ⟨b29, hf⟩ := gb_ix hf
    refine gp_iald hx hb hK hG mg_scenes b29 dX12_unlikeOf_29 ?_
    refine lv_iadd hx hb dX12_unlikeOf_30 ?_
    refine lv_icmp_ge (tgt := 66) hx hb dX12_unlikeOf_31 (by decide) (fun c31 => ?_) (fun c31 => ?_)
    · have hf := gb_t c31 hf
      exact hk66 _ hf _ _ _ hG hS (lv_sub hl [0, 1, 2, 3] rfl)
    · have hf := gb_f c31 hf
      refine lv_iload_n hx hb dX12_unlikeOf_34 rfl (lv_at hl 1 rfl) ?_
      refine lv_iload_n hx hb dX12_unlikeOf_35 rfl (lv_at hl 3 rfl) ?_
      obtain ⟨o36, hc36, hf⟩ := gb_b hf
      refine gp_callI (va_runS (As := [.int v1, .int v3]) (rest := []) ⟨hx, hb, hml, hown, hts⟩ (c_X12_has (l := l) (D := D) (b := b) (M := M) (cI := cI) (cL := cL) hc36) (va_cwS 2 hts gX12_unlikeOf_X12_has rfl rfl rfl (by decide +kernel) ⟨Nat.le_of_ble_eq_true rfl, Nat.le_of_ble_eq_true rfl⟩) (gp_preS hKn hG) rfl rfl hl.1 rfl (lv_room (Nat.le_of_ble_eq_true rfl)) dX12_unlikeOf_36 ⟨Nat.le_of_ble_eq_true rfl, Nat.le_of_ble_eq_true rfl⟩) hS (fun H locs hG hS => ?_)
      refine lv_if_eq (tgt := 66) hx hb dX12_unlikeOf_39 (by decide) (fun c39 => ?_) (fun c39 => ?_)
      · have hf := gb_t c39 hf
        exact hk66 _ hf _ _ _ hG hS (lv_sub hl [0, 1, 2, 3] rfl)
      · have hf := gb_f c39 hf
        refine lv_iload_n hx hb dX12_unlikeOf_42 rfl (lv_at hl 2 rfl) ?_
        refine lv_aload_n hx hb dX12_unlikeOf_43 rfl (lv_at hl 0 rfl) ?_
        refine lv_iload hx hb dX12_unlikeOf_44 (lv_at hl 4 rfl) ?_
        refine lv_iload_n hx hb dX12_unlikeOf_46 rfl (lv_at hl 1 rfl) ?_
        obtain ⟨o47, hc47, hf⟩ := gb_b hf
        refine gp_callI (va_runV (As := [.int v4, .int v1]) (rest := [.int v2]) ⟨hx, hb, hml, hown, hts⟩ (c_X12_isTold (l := l) (D := D) (b := b) (M := M) (cI := cI) (cL := cL) hc47) (cwV 2 hts gX12_unlikeOf_X12_isTold rfl rfl rfl (by decide +kernel) ⟨Nat.le_of_ble_eq_true rfl, Nat.le_of_ble_eq_true rfl⟩) (gp_preV hKn hG mg_o rfl) rfl rfl hl.1 rfl (lv_room (Nat.le_of_ble_eq_true rfl)) dX12_unlikeOf_47 ⟨Nat.le_of_ble_eq_true rfl, Nat.le_of_ble_eq_true rfl⟩) hS (fun H locs hG hS => ?_)
        have hJ50 : ∀ Z : Int32, Z = (if o47 = 0 then 1 else 0) → W p l e rm_X12_unlikeOf s m args below meth c H locs 0 0 Q (F0 m 58 ls (.int Z :: [.int v2])) := by
          intro Z hZ
          subst hZ
          refine lv_iadd hx hb dX12_unlikeOf_58 ?_
          refine lv_istore_n (lv' := [(2, .int (v2 + (if o47 = 0 then 1 else 0))), (0, .ref h0), (1, .int v1), (3, .int v3), (4, .int v4)]) hx hb dX12_unlikeOf_59 rfl hl (by decide) rfl (fun ls hl => ?_)
          refine lv_iinc (v := v4 + 1) (lv' := [(4, .int (v4 + 1)), (2, .int (v2 + (if o47 = 0 then 1 else 0))), (0, .ref h0), (1, .int v1), (3, .int v3)]) hx hb dX12_unlikeOf_60 hl (k := 4) rfl rfl (by decide) rfl (fun ls hl => ?_)
          refine lv_goto (tgt := 18) hx hb dX12_unlikeOf_63 (by decide) ?_
          exact ih _ _ hf hk66 _ _ _ hG hS (lv_sub hl [2, 3, 1, 4, 0] rfl)
        refine lv_if_eq (tgt := 57) hx hb dX12_unlikeOf_50 (by decide) (fun c50 => ?_) (fun c50 => ?_)
        · rw [if_pos c50] at hJ50
          refine lv_iconst (v := 1) hx hb dX12_unlikeOf_57 (by decide) ?_
          exact hJ50 _ rfl
        · rw [if_neg c50] at hJ50
          refine lv_iconst (v := 0) hx hb dX12_unlikeOf_53 (by decide) ?_
          refine lv_goto (tgt := 58) hx hb dX12_unlikeOf_54 (by decide) ?_
          exact hJ50 _ rfl
set_option maxHeartbeats 4000000 in
set_option maxRecDepth 100000 in
theorem w_X12_unlikeOf_4 {α : Type} {R : α} {K72 : Int32 → Option α} {v1 : Int32} (X : gC p s m args meth c cX12_unlikeOf 5 (some .int) wsX12_unlikeOf RX12 D b (gTy cI cL)) : ∀ (n : Nat) (v2 : Int32) (v3 : Int32), L_X12_unlikeOf_4 K72 a_scenes a_who a_cell a_minuteOf i_lampMany v1 n v2 v3 = some R → (∀ (x : Int32), K72 x = some R → ∀ (H : Heap) (locs : List Loc) (ls : Array Slot), GP D b M (mg cI h0 a_refused a_isWall a_kind a_lampCell a_range a_lit a_scenes a_who a_cell a_minuteOf a_standsAt i_lampMany i_people i_minute a_tape a_letter a_letterAt a_told i_taped i_at i_statements a_kept i_hasImage i_isKeeping i_cursor a_far a_shut a_queue i_queued a_litBy a_may a_row i_rowMany g0) H → va_S (gA b) s.heap H locs → lv_has ls 5 [(2, .int x)] → W p l e rm_X12_unlikeOf s m args below meth c H locs 0 0 Q (F0 m 72 ls [])) → ∀ (H : Heap) (locs : List Loc) (ls : Array Slot), GP D b M (mg cI h0 a_refused a_isWall a_kind a_lampCell a_range a_lit a_scenes a_who a_cell a_minuteOf a_standsAt i_lampMany i_people i_minute a_tape a_letter a_letterAt a_told i_taped i_at i_statements a_kept i_hasImage i_isKeeping i_cursor a_far a_shut a_queue i_queued a_litBy a_may a_row i_rowMany g0) H → va_S (gA b) s.heap H locs → lv_has ls 5 [(0, .ref h0), (1, .int v1), (2, .int v2), (3, .int v3)] → W p l e rm_X12_unlikeOf s m args below meth c H locs 0 0 Q (F0 m 4 ls []) := by
  obtain ⟨hx, hb, hr, hml, hown, hts, hlocks, hKn, hBs⟩ := id X
  have hK := hKn.1
  have hin : ∀ w ∈ wsX120, w ∈ wsX12_unlikeOf := fun w h => List.mem_cons_of_mem _ (List.mem_append_right _ h)
  intro n
  induction n with
  | zero =>
    intro v2 v3 hf
    cases hf
  | succ n ih =>
    intro v2 v3 hf hk72 H locs ls hG hS hl
    rw [L_X12_unlikeOf_4.eq_2] at hf
    refine lv_iload_n hx hb dX12_unlikeOf_4 rfl (lv_at hl 3 rfl) ?_
    refine lv_aload_n hx hb dX12_unlikeOf_5 rfl (lv_at hl 0 rfl) ?_
    refine gp_get (v := .int i_lampMany) (C := RX12) (T := TX12) (N := 33) (ci := 10) hx hb hts hin hown hK hG mg_o rfl 11 (by decide) (hts _ (List.mem_of_getElem? (i := 1) rfl)) (fun _ h9 => h9) rfl dX12_unlikeOf_6 ?_
    refine lv_icmp_ge (tgt := 72) hx hb dX12_unlikeOf_9 (by decide) (fun c9 => ?_) (fun c9 => ?_)
    · have hf := gb_t c9 hf
      exact hk72 _ hf _ _ _ hG hS (lv_sub hl [2] rfl)
    · have hf := gb_f c9 hf
      refine lv_bipush (v := 9) hx hb dX12_unlikeOf_12 (by decide) ?_
      refine lv_iload_n hx hb dX12_unlikeOf_14 rfl (lv_at hl 3 rfl) ?_
      refine lv_imul hx hb dX12_unlikeOf_15 ?_
      refine lv_istore (lv' := [(4, .int (9 * v3)), (0, .ref h0), (1, .int v1), (2, .int v2), (3, .int v3)]) hx hb dX12_unlikeOf_16 hl (by decide) rfl (fun ls hl => ?_)
      refine w_X12_unlikeOf_18 X _ _ _ hf (fun x18_66 hf H locs ls hG hS hl => ?_) _ _ _ hG hS (lv_sub hl [1, 2, 3, 4, 0] rfl)
      · refine lv_iinc (v := v3 + 1) (lv' := [(3, .int (v3 + 1)), (0, .ref h0), (1, .int v1), (2, .int x18_66)]) hx hb dX12_unlikeOf_66 hl (k := 3) rfl rfl (by decide) rfl (fun ls hl => ?_)
        refine lv_goto (tgt := 4) hx hb dX12_unlikeOf_69 (by decide) ?_
        exact ih _ _ hf hk72 _ _ _ hG hS (lv_sub hl [1, 2, 3, 0] rfl)
set_option maxHeartbeats 4000000 in
set_option maxRecDepth 100000 in
theorem c_X12_unlikeOf {v1 : Int32} {R : Int32} (hf : f_X12_unlikeOf a_scenes a_who a_cell a_minuteOf i_lampMany v1 = some R) : Met l yX12_unlikeOf wsX12_unlikeOf rm_X12_unlikeOf (va_Pc [.ref h0, .int v1] (gPre D b M (mg cI h0 a_refused a_isWall a_kind a_lampCell a_range a_lit a_scenes a_who a_cell a_minuteOf a_standsAt i_lampMany i_people i_minute a_tape a_letter a_letterAt a_told i_taped i_at i_statements a_kept i_hasImage i_isKeeping i_cursor a_far a_shut a_queue i_queued a_litBy a_may a_row i_rowMany g0) (gTy cI cL))) (gQ D b (some (.int R)) M (mg cI h0 a_refused a_isWall a_kind a_lampCell a_range a_lit a_scenes a_who a_cell a_minuteOf a_standsAt i_lampMany i_people i_minute a_tape a_letter a_letterAt a_told i_taped i_at i_statements a_kept i_hasImage i_isKeeping i_cursor a_far a_shut a_queue i_queued a_litBy a_may a_row i_rowMany g0)) 0 0 (gA b) := by
  refine gp_met (cc := cX12_unlikeOf) (maxL := 5) (ret := (some .int)) (by decide) rfl (Nat.le_of_ble_eq_true rfl) ?_
  intro p e s m below meth c X ls hG hl
  have hS : va_S (gA b) s.heap s.heap [] := va_S.rf
  obtain ⟨H, hH0⟩ : ∃ H : Heap, H = s.heap := ⟨_, rfl⟩
  rw [← hH0] at hG ⊢
  have hS : va_S (gA b) s.heap H [] := by rw [hH0]; exact va_S.rf
  obtain ⟨locs, hlo⟩ : ∃ z : List Loc, z = [] := ⟨_, rfl⟩
  rw [← hlo] at hS ⊢
  unfold f_X12_unlikeOf at hf
  obtain ⟨hx, hb, hr, hml, hown, hts, hlocks, hKn, hBs⟩ := id X
  have hK := hKn.1
  have hin : ∀ w ∈ wsX120, w ∈ wsX12_unlikeOf := fun w h => List.mem_cons_of_mem _ (List.mem_append_right _ h)
  have hl : lv_has ls 5 [(0, .ref h0), (1, .int v1)] := hl
  refine lv_iconst (v := 0) hx hb dX12_unlikeOf_0 (by decide) ?_
  refine lv_istore_n (lv' := [(2, .int 0), (0, .ref h0), (1, .int v1)]) hx hb dX12_unlikeOf_1 rfl hl (by decide) rfl (fun ls hl => ?_)
  refine lv_iconst (v := 0) hx hb dX12_unlikeOf_2 (by decide) ?_
  refine lv_istore_n (lv' := [(3, .int 0), (2, .int 0), (0, .ref h0), (1, .int v1)]) hx hb dX12_unlikeOf_3 rfl hl (by decide) rfl (fun ls hl => ?_)
  refine w_X12_unlikeOf_4 X _ _ _ hf (fun x4_72 hf H locs ls hG hS hl => ?_) _ _ _ hG hS (lv_sub hl [2, 3, 1, 0] rfl)
  · refine lv_iload_n hx hb dX12_unlikeOf_72 rfl (lv_at hl 0 rfl) ?_
    have hf := Option.some.inj hf
    subst hf
    exact gp_retI hx hb hr hlocks hG hS (Nat.le_refl _) (Nat.le_refl _) dX12_unlikeOf_73
-- X12_known
abbrev rm_X12_known : Room := { frames := 4, cells := 0, slots := 0, locals := 90 }
set_option maxHeartbeats 4000000 in
set_option maxRecDepth 100000 in
theorem c_X12_known {v1 : Int32} {R : Int32 × (Nat → Int32) × (Nat → Int32) × (Nat → Int32) × (Nat → Int32) × Int32 × (Nat → Int32)} (hf : f_X12_known a_refused a_isWall a_kind a_lampCell a_range a_scenes a_who a_cell a_minuteOf a_standsAt i_lampMany i_people a_far a_shut a_queue i_queued a_litBy v1 = some R) : Met l yX12_known wsX12_known rm_X12_known (va_Pc [.ref h0, .int v1] (gPre D b M (mg cI h0 a_refused a_isWall a_kind a_lampCell a_range a_lit a_scenes a_who a_cell a_minuteOf a_standsAt i_lampMany i_people i_minute a_tape a_letter a_letterAt a_told i_taped i_at i_statements a_kept i_hasImage i_isKeeping i_cursor a_far a_shut a_queue i_queued a_litBy a_may a_row i_rowMany g0) (gTy cI cL))) (gQ D b (some (.int R.1)) M (mg cI h0 R.2.1 a_isWall a_kind a_lampCell a_range a_lit a_scenes a_who a_cell a_minuteOf a_standsAt i_lampMany i_people i_minute a_tape a_letter a_letterAt a_told i_taped i_at i_statements a_kept i_hasImage i_isKeeping i_cursor R.2.2.1 R.2.2.2.1 R.2.2.2.2.1 R.2.2.2.2.2.1 R.2.2.2.2.2.2 a_may a_row i_rowMany g0)) 0 0 (gA b) := by
  refine gp_met (cc := cX12_known) (maxL := 2) (ret := (some .int)) (by decide) rfl (Nat.le_of_ble_eq_true rfl) ?_
  intro p e s m below meth c X ls hG hl
  have hS : va_S (gA b) s.heap s.heap [] := va_S.rf
  obtain ⟨H, hH0⟩ : ∃ H : Heap, H = s.heap := ⟨_, rfl⟩
  rw [← hH0] at hG ⊢
  have hS : va_S (gA b) s.heap H [] := by rw [hH0]; exact va_S.rf
  obtain ⟨locs, hlo⟩ : ∃ z : List Loc, z = [] := ⟨_, rfl⟩
  rw [← hlo] at hS ⊢
  unfold f_X12_known at hf
  obtain ⟨hx, hb, hr, hml, hown, hts, hlocks, hKn, hBs⟩ := id X
  have hK := hKn.1
  have hin : ∀ w ∈ wsX120, w ∈ wsX12_known := fun w h => List.mem_cons_of_mem _ (List.mem_append_right _ h)
  have hl : lv_has ls 2 [(0, .ref h0), (1, .int v1)] := hl
  refine lv_aload_n hx hb dX12_known_0 rfl (lv_at hl 0 rfl) ?_
  refine lv_iload_n hx hb dX12_known_1 rfl (lv_at hl 1 rfl) ?_
  obtain ⟨o2, hc2, hf⟩ := gb_b hf
  refine gp_callI (va_runV (As := [.int v1]) (rest := []) ⟨hx, hb, hml, hown, hts⟩ (c_X12_isPerson (l := l) (D := D) (b := b) (M := M) (cI := cI) (cL := cL) hc2) (cwV 1 hts gX12_known_X12_isPerson rfl rfl rfl (by decide +kernel) ⟨Nat.le_of_ble_eq_true rfl, Nat.le_of_ble_eq_true rfl⟩) (gp_preV hKn hG mg_o rfl) rfl rfl hl.1 rfl (lv_room (Nat.le_of_ble_eq_true rfl)) dX12_known_2 ⟨Nat.le_of_ble_eq_true rfl, Nat.le_of_ble_eq_true rfl⟩) hS (fun H locs hG hS => ?_)
  refine lv_if_ne (tgt := 14) hx hb dX12_known_5 (by decide) (fun c5 => ?_) (fun c5 => ?_)
  · have hf := gb_f c5 hf
    refine lv_aload_n hx hb dX12_known_14 rfl (lv_at hl 0 rfl) ?_
    obtain ⟨o15, hc15, hf⟩ := gb_b hf
    refine gp_callV (va_runV (As := []) (rest := []) ⟨hx, hb, hml, hown, hts⟩ (c_X12_findLit (l := l) (D := D) (b := b) (M := M) (cI := cI) (cL := cL) hc15) (cwV 0 hts gX12_known_X12_findLit rfl rfl rfl (by decide +kernel) ⟨Nat.le_of_ble_eq_true rfl, Nat.le_of_ble_eq_true rfl⟩) (gp_preV hKn hG mg_o rfl) rfl rfl hl.1 rfl (lv_room (Nat.le_of_ble_eq_true rfl)) dX12_known_15 ⟨Nat.le_of_ble_eq_true rfl, Nat.le_of_ble_eq_true rfl⟩) hS (fun H locs hG hS => ?_)
    refine lv_aload_n hx hb dX12_known_18 rfl (lv_at hl 0 rfl) ?_
    refine lv_aload_n hx hb dX12_known_19 rfl (lv_at hl 0 rfl) ?_
    refine lv_iload_n hx hb dX12_known_20 rfl (lv_at hl 1 rfl) ?_
    obtain ⟨o21, hc21, hf⟩ := gb_b hf
    refine gp_callI (va_runV (As := [.int v1]) (rest := [.ref h0]) ⟨hx, hb, hml, hown, hts⟩ (c_X12_shownTo (l := l) (D := D) (b := b) (M := M) (cI := cI) (cL := cL) hc21) (cwV 1 hts gX12_known_X12_shownTo rfl rfl rfl (by decide +kernel) ⟨Nat.le_of_ble_eq_true rfl, Nat.le_of_ble_eq_true rfl⟩) (gp_preV hKn hG mg_o rfl) rfl rfl hl.1 rfl (lv_room (Nat.le_of_ble_eq_true rfl)) dX12_known_21 ⟨Nat.le_of_ble_eq_true rfl, Nat.le_of_ble_eq_true rfl⟩) hS (fun H locs hG hS => ?_)
    obtain ⟨o24, hc24, hf⟩ := gb_b hf
    refine gp_callI (va_runV (As := [.int o21]) (rest := []) ⟨hx, hb, hml, hown, hts⟩ (c_X12_unlikeOf (l := l) (D := D) (b := b) (M := M) (cI := cI) (cL := cL) hc24) (cwV 1 hts gX12_known_X12_unlikeOf rfl rfl rfl (by decide +kernel) ⟨Nat.le_of_ble_eq_true rfl, Nat.le_of_ble_eq_true rfl⟩) (gp_preV hKn hG mg_o rfl) rfl rfl hl.1 rfl (lv_room (Nat.le_of_ble_eq_true rfl)) dX12_known_24 ⟨Nat.le_of_ble_eq_true rfl, Nat.le_of_ble_eq_true rfl⟩) hS (fun H locs hG hS => ?_)
    have hf := Option.some.inj hf
    subst hf
    exact gp_retI hx hb hr hlocks hG hS (Nat.le_refl _) (Nat.le_refl _) dX12_known_27
  · have hf := gb_t c5 hf
    refine lv_aload_n hx hb dX12_known_8 rfl (lv_at hl 0 rfl) ?_
    refine lv_iconst (v := (-1 : Int32)) hx hb dX12_known_9 (by decide) ?_
    obtain ⟨o10, hc10, hf⟩ := gb_b hf
    refine gp_callI (va_runV (As := [.int (-1 : Int32)]) (rest := []) ⟨hx, hb, hml, hown, hts⟩ (c_X12_no (l := l) (D := D) (b := b) (M := M) (cI := cI) (cL := cL) hc10) (cwV 1 hts gX12_known_X12_no rfl rfl rfl (by decide +kernel) ⟨Nat.le_of_ble_eq_true rfl, Nat.le_of_ble_eq_true rfl⟩) (gp_preV hKn hG mg_o rfl) rfl rfl hl.1 rfl (lv_room (Nat.le_of_ble_eq_true rfl)) dX12_known_10 ⟨Nat.le_of_ble_eq_true rfl, Nat.le_of_ble_eq_true rfl⟩) hS (fun H locs hG hS => ?_)
    have hf := Option.some.inj hf
    subst hf
    exact gp_retI hx hb hr hlocks hG hS (Nat.le_refl _) (Nat.le_refl _) dX12_known_13
-- X12_allKnow
abbrev rm_X12_allKnow : Room := { frames := 4, cells := 0, slots := 0, locals := 90 }
set_option maxHeartbeats 4000000 in
set_option maxRecDepth 100000 in
theorem w_X12_allKnow_8 {α : Type} {R : α} {K30 : Int32 → Option α} (X : gC p s m args meth c cX12_allKnow 3 (some .int) wsX12_allKnow RX12 D b (gTy cI cL)) : ∀ (n : Nat) (v1 : Int32) (v2 : Int32), L_X12_allKnow_8 K30 a_standsAt i_people a_litBy n v1 v2 = some R → (∀ (x : Int32), K30 x = some R → ∀ (H : Heap) (locs : List Loc) (ls : Array Slot), GP D b M (mg cI h0 a_refused a_isWall a_kind a_lampCell a_range a_lit a_scenes a_who a_cell a_minuteOf a_standsAt i_lampMany i_people i_minute a_tape a_letter a_letterAt a_told i_taped i_at i_statements a_kept i_hasImage i_isKeeping i_cursor a_far a_shut a_queue i_queued a_litBy a_may a_row i_rowMany g0) H → va_S (gA b) s.heap H locs → lv_has ls 3 [(0, .ref h0), (1, .int x)] → W p l e rm_X12_allKnow s m args below meth c H locs 0 0 Q (F0 m 30 ls [])) → ∀ (H : Heap) (locs : List Loc) (ls : Array Slot), GP D b M (mg cI h0 a_refused a_isWall a_kind a_lampCell a_range a_lit a_scenes a_who a_cell a_minuteOf a_standsAt i_lampMany i_people i_minute a_tape a_letter a_letterAt a_told i_taped i_at i_statements a_kept i_hasImage i_isKeeping i_cursor a_far a_shut a_queue i_queued a_litBy a_may a_row i_rowMany g0) H → va_S (gA b) s.heap H locs → lv_has ls 3 [(0, .ref h0), (1, .int v1), (2, .int v2)] → W p l e rm_X12_allKnow s m args below meth c H locs 0 0 Q (F0 m 8 ls []) := by
  obtain ⟨hx, hb, hr, hml, hown, hts, hlocks, hKn, hBs⟩ := id X
  have hK := hKn.1
  have hin : ∀ w ∈ wsX120, w ∈ wsX12_allKnow := fun w h => List.mem_cons_of_mem _ (List.mem_append_right _ h)
  intro n
  induction n with
  | zero =>
    intro v1 v2 hf
    cases hf
  | succ n ih =>
    intro v1 v2 hf hk30 H locs ls hG hS hl
    rw [L_X12_allKnow_8.eq_2] at hf
    refine lv_iload_n hx hb dX12_allKnow_8 rfl (lv_at hl 2 rfl) ?_
    refine lv_aload_n hx hb dX12_allKnow_9 rfl (lv_at hl 0 rfl) ?_
    refine gp_get (v := .int i_people) (C := RX12) (T := TX12) (N := 33) (ci := 10) hx hb hts hin hown hK hG mg_o rfl 12 (by decide) (hts _ (List.mem_of_getElem? (i := 1) rfl)) (fun _ h9 => h9) rfl dX12_allKnow_10 ?_
    refine lv_icmp_ge (tgt := 30) hx hb dX12_allKnow_13 (by decide) (fun c13 => ?_) (fun c13 => ?_)
    · have hf := gb_t c13 hf
      exact hk30 _ hf _ _ _ hG hS (lv_sub hl [0, 1] rfl)
    · have hf := gb_f c13 hf
      refine lv_iload_n hx hb dX12_allKnow_16 rfl (lv_at hl 1 rfl) ?_
      refine lv_aload_n hx hb dX12_allKnow_17 rfl (lv_at hl 0 rfl) ?_
      refine lv_iload_n hx hb dX12_allKnow_18 rfl (lv_at hl 2 rfl) ?_
      obtain ⟨o19, hc19, hf⟩ := gb_b hf
      refine gp_callI (va_runV (As := [.int v2]) (rest := [.int v1]) ⟨hx, hb, hml, hown, hts⟩ (c_X12_shownTo (l := l) (D := D) (b := b) (M := M) (cI := cI) (cL := cL) hc19) (cwV 1 hts gX12_allKnow_X12_shownTo rfl rfl rfl (by decide +kernel) ⟨Nat.le_of_ble_eq_true rfl, Nat.le_of_ble_eq_true rfl⟩) (gp_preV hKn hG mg_o rfl) rfl rfl hl.1 rfl (lv_room (Nat.le_of_ble_eq_true rfl)) dX12_allKnow_19 ⟨Nat.le_of_ble_eq_true rfl, Nat.le_of_ble_eq_true rfl⟩) hS (fun H locs hG hS => ?_)
      refine lv_ior hx hb dX12_allKnow_22 ?_
      refine lv_istore_n (lv' := [(1, .int (v1 ||| o19)), (0, .ref h0), (2, .int v2)]) hx hb dX12_allKnow_23 rfl hl (by decide) rfl (fun ls hl => ?_)
      refine lv_iinc (v := v2 + 1) (lv' := [(2, .int (v2 + 1)), (1, .int (v1 ||| o19)), (0, .ref h0)]) hx hb dX12_allKnow_24 hl (k := 2) rfl rfl (by decide) rfl (fun ls hl => ?_)
      refine lv_goto (tgt := 8) hx hb dX12_allKnow_27 (by decide) ?_
      exact ih _ _ hf hk30 _ _ _ hG hS (lv_sub hl [2, 1, 0] rfl)
set_option maxHeartbeats 4000000 in
set_option maxRecDepth 100000 in
theorem c_X12_allKnow {R : Int32 × (Nat → Int32) × (Nat → Int32) × (Nat → Int32) × Int32 × (Nat → Int32)} (hf : f_X12_allKnow a_isWall a_kind a_lampCell a_range a_scenes a_who a_cell a_minuteOf a_standsAt i_lampMany i_people a_far a_shut a_queue i_queued a_litBy = some R) : Met l yX12_allKnow wsX12_allKnow rm_X12_allKnow (va_Pc [.ref h0] (gPre D b M (mg cI h0 a_refused a_isWall a_kind a_lampCell a_range a_lit a_scenes a_who a_cell a_minuteOf a_standsAt i_lampMany i_people i_minute a_tape a_letter a_letterAt a_told i_taped i_at i_statements a_kept i_hasImage i_isKeeping i_cursor a_far a_shut a_queue i_queued a_litBy a_may a_row i_rowMany g0) (gTy cI cL))) (gQ D b (some (.int R.1)) M (mg cI h0 a_refused a_isWall a_kind a_lampCell a_range a_lit a_scenes a_who a_cell a_minuteOf a_standsAt i_lampMany i_people i_minute a_tape a_letter a_letterAt a_told i_taped i_at i_statements a_kept i_hasImage i_isKeeping i_cursor R.2.1 R.2.2.1 R.2.2.2.1 R.2.2.2.2.1 R.2.2.2.2.2 a_may a_row i_rowMany g0)) 0 0 (gA b) := by
  refine gp_met (cc := cX12_allKnow) (maxL := 3) (ret := (some .int)) (by decide) rfl (Nat.le_of_ble_eq_true rfl) ?_
  intro p e s m below meth c X ls hG hl
  have hS : va_S (gA b) s.heap s.heap [] := va_S.rf
  obtain ⟨H, hH0⟩ : ∃ H : Heap, H = s.heap := ⟨_, rfl⟩
  rw [← hH0] at hG ⊢
  have hS : va_S (gA b) s.heap H [] := by rw [hH0]; exact va_S.rf
  obtain ⟨locs, hlo⟩ : ∃ z : List Loc, z = [] := ⟨_, rfl⟩
  rw [← hlo] at hS ⊢
  unfold f_X12_allKnow at hf
  obtain ⟨hx, hb, hr, hml, hown, hts, hlocks, hKn, hBs⟩ := id X
  have hK := hKn.1
  have hin : ∀ w ∈ wsX120, w ∈ wsX12_allKnow := fun w h => List.mem_cons_of_mem _ (List.mem_append_right _ h)
  have hl : lv_has ls 3 [(0, .ref h0)] := hl
  refine lv_aload_n hx hb dX12_allKnow_0 rfl (lv_at hl 0 rfl) ?_
  obtain ⟨o1, hc1, hf⟩ := gb_b hf
  refine gp_callV (va_runV (As := []) (rest := []) ⟨hx, hb, hml, hown, hts⟩ (c_X12_findLit (l := l) (D := D) (b := b) (M := M) (cI := cI) (cL := cL) hc1) (cwV 0 hts gX12_allKnow_X12_findLit rfl rfl rfl (by decide +kernel) ⟨Nat.le_of_ble_eq_true rfl, Nat.le_of_ble_eq_true rfl⟩) (gp_preV hKn hG mg_o rfl) rfl rfl hl.1 rfl (lv_room (Nat.le_of_ble_eq_true rfl)) dX12_allKnow_1 ⟨Nat.le_of_ble_eq_true rfl, Nat.le_of_ble_eq_true rfl⟩) hS (fun H locs hG hS => ?_)
  refine lv_iconst (v := 0) hx hb dX12_allKnow_4 (by decide) ?_
  refine lv_istore_n (lv' := [(1, .int 0), (0, .ref h0)]) hx hb dX12_allKnow_5 rfl hl (by decide) rfl (fun ls hl => ?_)
  refine lv_iconst (v := 0) hx hb dX12_allKnow_6 (by decide) ?_
  refine lv_istore_n (lv' := [(2, .int 0), (1, .int 0), (0, .ref h0)]) hx hb dX12_allKnow_7 rfl hl (by decide) rfl (fun ls hl => ?_)
  refine w_X12_allKnow_8 X _ _ _ hf (fun x8_30 hf H locs ls hG hS hl => ?_) _ _ _ hG hS (lv_sub hl [2, 1, 0] rfl)
  · refine lv_aload_n hx hb dX12_allKnow_30 rfl (lv_at hl 0 rfl) ?_
    refine lv_iload_n hx hb dX12_allKnow_31 rfl (lv_at hl 1 rfl) ?_
    obtain ⟨o32, hc32, hf⟩ := gb_b hf
    refine gp_callI (va_runV (As := [.int x8_30]) (rest := []) ⟨hx, hb, hml, hown, hts⟩ (c_X12_unlikeOf (l := l) (D := D) (b := b) (M := M) (cI := cI) (cL := cL) hc32) (cwV 1 hts gX12_allKnow_X12_unlikeOf rfl rfl rfl (by decide +kernel) ⟨Nat.le_of_ble_eq_true rfl, Nat.le_of_ble_eq_true rfl⟩) (gp_preV hKn hG mg_o rfl) rfl rfl hl.1 rfl (lv_room (Nat.le_of_ble_eq_true rfl)) dX12_allKnow_32 ⟨Nat.le_of_ble_eq_true rfl, Nat.le_of_ble_eq_true rfl⟩) hS (fun H locs hG hS => ?_)
    have hf := Option.some.inj hf
    subst hf
    exact gp_retI hx hb hr hlocks hG hS (Nat.le_refl _) (Nat.le_refl _) dX12_allKnow_35
-- X12_barsBy
abbrev rm_X12_barsBy : Room := { frames := 3, cells := 0, slots := 0, locals := 67 }
set_option maxHeartbeats 4000000 in
set_option maxRecDepth 100000 in
theorem w_X12_barsBy_45 {α : Type} {R : α} {K87 : (Nat → Int32) → Option α} {v3 : Int32} (X : gC p s m args meth c cX12_barsBy 5 none wsX12_barsBy RX12 D b (gTy cI cL)) : ∀ (n : Nat) (v4 : Int32) (a_may : Nat → Int32), L_X12_barsBy_45 K87 a_far v3 n v4 a_may = some R → (∀ (x : (Nat → Int32)), K87 x = some R → ∀ (H : Heap) (locs : List Loc) (ls : Array Slot), GP D b M (mg cI h0 a_refused a_isWall a_kind a_lampCell a_range a_lit a_scenes a_who a_cell a_minuteOf a_standsAt i_lampMany i_people i_minute a_tape a_letter a_letterAt a_told i_taped i_at i_statements a_kept i_hasImage i_isKeeping i_cursor a_far a_shut a_queue i_queued a_litBy x a_row i_rowMany g0) H → va_S (gA b) s.heap H locs → lv_has ls 5 [] → W p l e rm_X12_barsBy s m args below meth c H locs 0 0 Q (F0 m 87 ls [])) → ∀ (H : Heap) (locs : List Loc) (ls : Array Slot), GP D b M (mg cI h0 a_refused a_isWall a_kind a_lampCell a_range a_lit a_scenes a_who a_cell a_minuteOf a_standsAt i_lampMany i_people i_minute a_tape a_letter a_letterAt a_told i_taped i_at i_statements a_kept i_hasImage i_isKeeping i_cursor a_far a_shut a_queue i_queued a_litBy a_may a_row i_rowMany g0) H → va_S (gA b) s.heap H locs → lv_has ls 5 [(0, .ref h0), (3, .int v3), (4, .int v4)] → W p l e rm_X12_barsBy s m args below meth c H locs 0 0 Q (F0 m 45 ls []) := by
  obtain ⟨hx, hb, hr, hml, hown, hts, hlocks, hKn, hBs⟩ := id X
  have hK := hKn.1
  have hin : ∀ w ∈ wsX120, w ∈ wsX12_barsBy := fun w h => List.mem_cons_of_mem _ (List.mem_append_right _ h)
  intro n
  induction n with
  | zero =>
    intro v4 a_may hf
    cases hf
  | succ n ih =>
    intro v4 a_may hf hk87 H locs ls hG hS hl
    rw [L_X12_barsBy_45.eq_2] at hf
    refine lv_iload hx hb dX12_barsBy_45 (lv_at hl 2 rfl) ?_
    refine lv_bipush (v := 36) hx hb dX12_barsBy_47 (by decide) ?_
    refine lv_icmp_ge (tgt := 87) hx hb dX12_barsBy_49 (by decide) (fun c49 => ?_) (fun c49 => ?_)
    · have hf := gb_t c49 hf
      exact hk87 _ hf _ _ _ hG hS (lv_sub hl [] rfl)
    · have hf := gb_f c49 hf
      refine lv_aload_n hx hb dX12_barsBy_52 rfl (lv_at hl 0 rfl) ?_
      refine gp_get (v := .ref (h0 + 17)) (C := RX12) (T := TX12) (N := 33) (ci := 10) hx hb hts hin hown hK hG mg_o rfl 25 (by decide) (hts _ (List.mem_of_getElem? (i := 3) rfl)) (fun _ h9 => h9) rfl dX12_barsBy_53 ?_
      refine lv_iload hx hb dX12_barsBy_56 (lv_at hl 2 rfl) ?_
      obtain ⟨b58, hf⟩ := gb_ix hf
      refine gp_iald hx hb hK hG mg_far b58 dX12_barsBy_58 ?_
      obtain ⟨j59, hj59, hf⟩ := gb_b hf
      have hJ59 : ∀ (H : Heap) (locs : List Loc) (ls : Array Slot), GP D b M (mg cI h0 a_refused a_isWall a_kind a_lampCell a_range a_lit a_scenes a_who a_cell a_minuteOf a_standsAt i_lampMany i_people i_minute a_tape a_letter a_letterAt a_told i_taped i_at i_statements a_kept i_hasImage i_isKeeping i_cursor a_far a_shut a_queue i_queued a_litBy j59 a_row i_rowMany g0) H → va_S (gA b) s.heap H locs → lv_has ls 5 [(0, .ref h0), (3, .int v3), (4, .int v4)] → W p l e rm_X12_barsBy s m args below meth c H locs 0 0 Q (F0 m 81 ls []) := by
        intro H locs ls hG hS hl
        refine lv_iinc (v := v4 + 1) (lv' := [(4, .int (v4 + 1)), (0, .ref h0), (3, .int v3)]) hx hb dX12_barsBy_81 hl (k := 2) rfl rfl (by decide) rfl (fun ls hl => ?_)
        refine lv_goto (tgt := 45) hx hb dX12_barsBy_84 (by decide) ?_
        exact ih _ _ hf hk87 _ _ _ hG hS (lv_sub hl [1, 2, 0] rfl)
      refine lv_if_lt (tgt := 73) hx hb dX12_barsBy_59 (by decide) (fun c59 => ?_) (fun c59 => ?_)
      · have hj59 := gb_t c59 hj59
        refine lv_aload_n hx hb dX12_barsBy_73 rfl (lv_at hl 0 rfl) ?_
        refine gp_get (v := .ref (h0 + 21)) (C := RX12) (T := TX12) (N := 33) (ci := 10) hx hb hts hin hown hK hG mg_o rfl 30 (by decide) (hts _ (List.mem_of_getElem? (i := 4) rfl)) (fun _ h9 => h9) rfl dX12_barsBy_74 ?_
        refine lv_iload hx hb dX12_barsBy_77 (lv_at hl 2 rfl) ?_
        refine lv_iconst (v := 0) hx hb dX12_barsBy_79 (by decide) ?_
        obtain ⟨b80, hj59⟩ := gb_ix hj59
        refine gp_iast hx hb hK hG hS mg_may b80 mu_may dX12_barsBy_80 (fun H locs hG hS => ?_)
        have hj59 := Option.some.inj hj59
        subst hj59
        exact hJ59 H locs ls hG hS (lv_sub hl [0, 1, 2] rfl)
      · have hj59 := gb_f c59 hj59
        refine lv_aload_n hx hb dX12_barsBy_62 rfl (lv_at hl 0 rfl) ?_
        refine gp_get (v := .ref (h0 + 17)) (C := RX12) (T := TX12) (N := 33) (ci := 10) hx hb hts hin hown hK hG mg_o rfl 25 (by decide) (hts _ (List.mem_of_getElem? (i := 3) rfl)) (fun _ h9 => h9) rfl dX12_barsBy_63 ?_
        refine lv_iload hx hb dX12_barsBy_66 (lv_at hl 2 rfl) ?_
        obtain ⟨b68, hj59⟩ := gb_ix hj59
        refine gp_iald hx hb hK hG mg_far b68 dX12_barsBy_68 ?_
        refine lv_iload_n hx hb dX12_barsBy_69 rfl (lv_at hl 1 rfl) ?_
        refine lv_icmp_le (tgt := 81) hx hb dX12_barsBy_70 (by decide) (fun c70 => ?_) (fun c70 => ?_)
        · have hj59 := gb_t c70 hj59
          have hj59 := Option.some.inj hj59
          subst hj59
          exact hJ59 H locs ls hG hS (lv_sub hl [0, 1, 2] rfl)
        · have hj59 := gb_f c70 hj59
          refine lv_aload_n hx hb dX12_barsBy_73 rfl (lv_at hl 0 rfl) ?_
          refine gp_get (v := .ref (h0 + 21)) (C := RX12) (T := TX12) (N := 33) (ci := 10) hx hb hts hin hown hK hG mg_o rfl 30 (by decide) (hts _ (List.mem_of_getElem? (i := 4) rfl)) (fun _ h9 => h9) rfl dX12_barsBy_74 ?_
          refine lv_iload hx hb dX12_barsBy_77 (lv_at hl 2 rfl) ?_
          refine lv_iconst (v := 0) hx hb dX12_barsBy_79 (by decide) ?_
          obtain ⟨b80, hj59⟩ := gb_ix hj59
          refine gp_iast hx hb hK hG hS mg_may b80 mu_may dX12_barsBy_80 (fun H locs hG hS => ?_)
          have hj59 := Option.some.inj hj59
          subst hj59
          exact hJ59 H locs ls hG hS (lv_sub hl [0, 1, 2] rfl)
set_option maxHeartbeats 4000000 in
set_option maxRecDepth 100000 in
theorem c_X12_barsBy {v1 : Int32} {v2 : Int32} {R : (Nat → Int32) × (Nat → Int32) × (Nat → Int32) × Int32 × (Nat → Int32)} (hf : f_X12_barsBy a_isWall a_cell a_minuteOf a_far a_shut a_queue i_queued a_may v1 v2 = some R) : Met l yX12_barsBy wsX12_barsBy rm_X12_barsBy (va_Pc [.ref h0, .int v1, .int v2] (gPre D b M (mg cI h0 a_refused a_isWall a_kind a_lampCell a_range a_lit a_scenes a_who a_cell a_minuteOf a_standsAt i_lampMany i_people i_minute a_tape a_letter a_letterAt a_told i_taped i_at i_statements a_kept i_hasImage i_isKeeping i_cursor a_far a_shut a_queue i_queued a_litBy a_may a_row i_rowMany g0) (gTy cI cL))) (gQ D b none M (mg cI h0 a_refused a_isWall a_kind a_lampCell a_range a_lit a_scenes a_who a_cell a_minuteOf a_standsAt i_lampMany i_people i_minute a_tape a_letter a_letterAt a_told i_taped i_at i_statements a_kept i_hasImage i_isKeeping i_cursor R.1 R.2.1 R.2.2.1 R.2.2.2.1 a_litBy R.2.2.2.2 a_row i_rowMany g0)) 0 0 (gA b) := by
  refine gp_met (cc := cX12_barsBy) (maxL := 5) (ret := none) (by decide) rfl (Nat.le_of_ble_eq_true rfl) ?_
  intro p e s m below meth c X ls hG hl
  have hS : va_S (gA b) s.heap s.heap [] := va_S.rf
  obtain ⟨H, hH0⟩ : ∃ H : Heap, H = s.heap := ⟨_, rfl⟩
  rw [← hH0] at hG ⊢
  have hS : va_S (gA b) s.heap H [] := by rw [hH0]; exact va_S.rf
  obtain ⟨locs, hlo⟩ : ∃ z : List Loc, z = [] := ⟨_, rfl⟩
  rw [← hlo] at hS ⊢
  unfold f_X12_barsBy at hf
  obtain ⟨hx, hb, hr, hml, hown, hts, hlocks, hKn, hBs⟩ := id X
  have hK := hKn.1
  have hin : ∀ w ∈ wsX120, w ∈ wsX12_barsBy := fun w h => List.mem_cons_of_mem _ (List.mem_append_right _ h)
  have hl : lv_has ls 5 [(0, .ref h0), (1, .int v1), (2, .int v2)] := hl
  refine lv_aload_n hx hb dX12_barsBy_0 rfl (lv_at hl 0 rfl) ?_
  refine lv_aload_n hx hb dX12_barsBy_1 rfl (lv_at hl 0 rfl) ?_
  refine gp_get (v := .ref (h0 + 9)) (C := RX12) (T := TX12) (N := 33) (ci := 10) hx hb hts hin hown hK hG mg_o rfl 8 (by decide) (hts _ (List.mem_of_getElem? (i := 1) rfl)) (fun _ h9 => h9) rfl dX12_barsBy_2 ?_
  refine lv_iload_n hx hb dX12_barsBy_5 rfl (lv_at hl 1 rfl) ?_
  obtain ⟨b6, hf⟩ := gb_ix hf
  refine gp_iald hx hb hK hG mg_cell b6 dX12_barsBy_6 ?_
  refine lv_iconst (v := 0) hx hb dX12_barsBy_7 (by decide) ?_
  obtain ⟨o8, hc8, hf⟩ := gb_b hf
  refine gp_callI (va_runV (As := [.int (a_cell v1.toNatClampNeg), .int 0]) (rest := []) ⟨hx, hb, hml, hown, hts⟩ (c_X12_stepsOf (l := l) (D := D) (b := b) (M := M) (cI := cI) (cL := cL) hc8) (cwV 2 hts gX12_barsBy_X12_stepsOf rfl rfl rfl (by decide +kernel) ⟨Nat.le_of_ble_eq_true rfl, Nat.le_of_ble_eq_true rfl⟩) (gp_preV hKn hG mg_o rfl) rfl rfl hl.1 rfl (lv_room (Nat.le_of_ble_eq_true rfl)) dX12_barsBy_8 ⟨Nat.le_of_ble_eq_true rfl, Nat.le_of_ble_eq_true rfl⟩) hS (fun H locs hG hS => ?_)
  refine lv_pop hx hb dX12_barsBy_11 rfl ?_
  refine lv_iload_n hx hb dX12_barsBy_12 rfl (lv_at hl 2 rfl) ?_
  refine lv_aload_n hx hb dX12_barsBy_13 rfl (lv_at hl 0 rfl) ?_
  refine gp_get (v := .ref (h0 + 10)) (C := RX12) (T := TX12) (N := 33) (ci := 10) hx hb hts hin hown hK hG mg_o rfl 9 (by decide) (hts _ (List.mem_of_getElem? (i := 2) rfl)) (fun _ h9 => h9) rfl dX12_barsBy_14 ?_
  refine lv_iload_n hx hb dX12_barsBy_17 rfl (lv_at hl 1 rfl) ?_
  obtain ⟨b18, hf⟩ := gb_ix hf
  refine gp_iald hx hb hK hG mg_minuteOf b18 dX12_barsBy_18 ?_
  obtain ⟨j19, hj19, hf⟩ := gb_b hf
  have hJ19 : ∀ (H : Heap) (locs : List Loc) (ls : Array Slot), GP D b M (mg cI h0 a_refused a_isWall a_kind a_lampCell a_range a_lit a_scenes a_who a_cell a_minuteOf a_standsAt i_lampMany i_people i_minute a_tape a_letter a_letterAt a_told i_taped i_at i_statements a_kept i_hasImage i_isKeeping i_cursor o8.2.1 o8.2.2.1 o8.2.2.2.1 o8.2.2.2.2 a_litBy a_may a_row i_rowMany g0) H → va_S (gA b) s.heap H locs → lv_has ls 5 [(0, .ref h0)] → W p l e rm_X12_barsBy s m [.ref h0, .int v1, .int v2].toArray below meth c H locs 0 0 (MQ below (gQ D b none M (mg cI h0 a_refused a_isWall a_kind a_lampCell a_range a_lit a_scenes a_who a_cell a_minuteOf a_standsAt i_lampMany i_people i_minute a_tape a_letter a_letterAt a_told i_taped i_at i_statements a_kept i_hasImage i_isKeeping i_cursor R.1 R.2.1 R.2.2.1 R.2.2.2.1 a_litBy R.2.2.2.2 a_row i_rowMany g0)) [.ref h0, .int v1, .int v2].toArray s 0 0 (gA b)) (F0 m 41 ls [.int j19]) := by
    intro H locs ls hG hS hl
    refine lv_istore_n (lv' := [(3, .int j19), (0, .ref h0)]) hx hb dX12_barsBy_41 rfl hl (by decide) rfl (fun ls hl => ?_)
    refine lv_iconst (v := 0) hx hb dX12_barsBy_42 (by decide) ?_
    refine lv_istore (lv' := [(4, .int 0), (3, .int j19), (0, .ref h0)]) hx hb dX12_barsBy_43 hl (by decide) rfl (fun ls hl => ?_)
    refine w_X12_barsBy_45 X _ _ _ hf (fun x45_87 hf H locs ls hG hS hl => ?_) _ _ _ hG hS (lv_sub hl [2, 1, 0] rfl)
    · have hf := Option.some.inj hf
      subst hf
      exact gp_retV hx hb hr hlocks hG hS (Nat.le_refl _) (Nat.le_refl _) dX12_barsBy_87
  refine lv_icmp_ge (tgt := 33) hx hb dX12_barsBy_19 (by decide) (fun c19 => ?_) (fun c19 => ?_)
  · have hj19 := gb_t c19 hj19
    refine lv_iload_n hx hb dX12_barsBy_33 rfl (lv_at hl 2 rfl) ?_
    refine lv_aload_n hx hb dX12_barsBy_34 rfl (lv_at hl 0 rfl) ?_
    refine gp_get (v := .ref (h0 + 10)) (C := RX12) (T := TX12) (N := 33) (ci := 10) hx hb hts hin hown hK hG mg_o rfl 9 (by decide) (hts _ (List.mem_of_getElem? (i := 2) rfl)) (fun _ h9 => h9) rfl dX12_barsBy_35 ?_
    refine lv_iload_n hx hb dX12_barsBy_38 rfl (lv_at hl 1 rfl) ?_
    obtain ⟨b39, hj19⟩ := gb_ix hj19
    refine gp_iald hx hb hK hG mg_minuteOf b39 dX12_barsBy_39 ?_
    refine lv_isub hx hb dX12_barsBy_40 ?_
    have hj19 := Option.some.inj hj19
    subst hj19
    exact hJ19 H locs ls hG hS (lv_sub hl [0] rfl)
  · have hj19 := gb_f c19 hj19
    refine lv_aload_n hx hb dX12_barsBy_22 rfl (lv_at hl 0 rfl) ?_
    refine gp_get (v := .ref (h0 + 10)) (C := RX12) (T := TX12) (N := 33) (ci := 10) hx hb hts hin hown hK hG mg_o rfl 9 (by decide) (hts _ (List.mem_of_getElem? (i := 2) rfl)) (fun _ h9 => h9) rfl dX12_barsBy_23 ?_
    refine lv_iload_n hx hb dX12_barsBy_26 rfl (lv_at hl 1 rfl) ?_
    obtain ⟨b27, hj19⟩ := gb_ix hj19
    refine gp_iald hx hb hK hG mg_minuteOf b27 dX12_barsBy_27 ?_
    refine lv_iload_n hx hb dX12_barsBy_28 rfl (lv_at hl 2 rfl) ?_
    refine lv_isub hx hb dX12_barsBy_29 ?_
    refine lv_goto (tgt := 41) hx hb dX12_barsBy_30 (by decide) ?_
    have hj19 := Option.some.inj hj19
    subst hj19
    exact hJ19 H locs ls hG hS (lv_sub hl [0] rfl)
-- X12_seersOf
abbrev rm_X12_seersOf : Room := { frames := 1, cells := 0, slots := 0, locals := 23 }
set_option maxHeartbeats 4000000 in
set_option maxRecDepth 100000 in
theorem w_X12_seersOf_5 {α : Type} {R : α} {K63 : Int32 → Option α} {v1 : Int32} {v2 : Int32} (X : gC p s m args meth c cX12_seersOf 5 (some .int) wsX12_seersOf RX12 D b (gTy cI cL)) : ∀ (n : Nat) (v3 : Int32) (v4 : Int32), L_X12_seersOf_5 K63 a_scenes a_who a_minuteOf i_lampMany v1 v2 n v3 v4 = some R → (∀ (x : Int32), K63 x = some R → ∀ (H : Heap) (locs : List Loc) (ls : Array Slot), GP D b M (mg cI h0 a_refused a_isWall a_kind a_lampCell a_range a_lit a_scenes a_who a_cell a_minuteOf a_standsAt i_lampMany i_people i_minute a_tape a_letter a_letterAt a_told i_taped i_at i_statements a_kept i_hasImage i_isKeeping i_cursor a_far a_shut a_queue i_queued a_litBy a_may a_row i_rowMany g0) H → va_S (gA b) s.heap H locs → lv_has ls 5 [(3, .int x)] → W p l e rm_X12_seersOf s m args below meth c H locs 0 0 Q (F0 m 63 ls [])) → ∀ (H : Heap) (locs : List Loc) (ls : Array Slot), GP D b M (mg cI h0 a_refused a_isWall a_kind a_lampCell a_range a_lit a_scenes a_who a_cell a_minuteOf a_standsAt i_lampMany i_people i_minute a_tape a_letter a_letterAt a_told i_taped i_at i_statements a_kept i_hasImage i_isKeeping i_cursor a_far a_shut a_queue i_queued a_litBy a_may a_row i_rowMany g0) H → va_S (gA b) s.heap H locs → lv_has ls 5 [(0, .ref h0), (1, .int v1), (2, .int v2), (3, .int v3), (4, .int v4)] → W p l e rm_X12_seersOf s m args below meth c H locs 0 0 Q (F0 m 5 ls []) := by
  obtain ⟨hx, hb, hr, hml, hown, hts, hlocks, hKn, hBs⟩ := id X
  have hK := hKn.1
  have hin : ∀ w ∈ wsX120, w ∈ wsX12_seersOf := fun w h => List.mem_cons_of_mem _ (List.mem_append_right _ h)
  intro n
  induction n with
  | zero =>
    intro v3 v4 hf
    cases hf
  | succ n ih =>
    intro v3 v4 hf hk63 H locs ls hG hS hl
    rw [L_X12_seersOf_5.eq_2] at hf
    refine lv_iload hx hb dX12_seersOf_5 (lv_at hl 4 rfl) ?_
    refine lv_aload_n hx hb dX12_seersOf_7 rfl (lv_at hl 0 rfl) ?_
    refine gp_get (v := .int i_lampMany) (C := RX12) (T := TX12) (N := 33) (ci := 10) hx hb hts hin hown hK hG mg_o rfl 11 (by decide) (hts _ (List.mem_of_getElem? (i := 1) rfl)) (fun _ h9 => h9) rfl dX12_seersOf_8 ?_
    refine lv_icmp_ge (tgt := 63) hx hb dX12_seersOf_11 (by decide) (fun c11 => ?_) (fun c11 => ?_)
    · have hf := gb_t c11 hf
      exact hk63 _ hf _ _ _ hG hS (lv_sub hl [3] rfl)
    · have hf := gb_f c11 hf
      refine lv_iload_n hx hb dX12_seersOf_14 rfl (lv_at hl 3 rfl) ?_
      refine lv_aload_n hx hb dX12_seersOf_15 rfl (lv_at hl 0 rfl) ?_
      refine lv_iload hx hb dX12_seersOf_16 (lv_at hl 4 rfl) ?_
      refine lv_iload_n hx hb dX12_seersOf_18 rfl (lv_at hl 2 rfl) ?_
      obtain ⟨o19, hc19, hf⟩ := gb_b hf
      refine gp_callI (va_runV (As := [.int v4, .int v2]) (rest := [.int v3]) ⟨hx, hb, hml, hown, hts⟩ (c_X12_sceneAt (l := l) (D := D) (b := b) (M := M) (cI := cI) (cL := cL) hc19) (cwV 2 hts gX12_seersOf_X12_sceneAt rfl rfl rfl (by decide +kernel) ⟨Nat.le_of_ble_eq_true rfl, Nat.le_of_ble_eq_true rfl⟩) (gp_preV hKn hG mg_o rfl) rfl rfl hl.1 rfl (lv_room (Nat.le_of_ble_eq_true rfl)) dX12_seersOf_19 ⟨Nat.le_of_ble_eq_true rfl, Nat.le_of_ble_eq_true rfl⟩) hS (fun H locs hG hS => ?_)
      obtain ⟨j22, hj22, hf⟩ := gb_b hf
      have hJ22 : ∀ (H : Heap) (locs : List Loc) (ls : Array Slot), GP D b M (mg cI h0 a_refused a_isWall a_kind a_lampCell a_range a_lit a_scenes a_who a_cell a_minuteOf a_standsAt i_lampMany i_people i_minute a_tape a_letter a_letterAt a_told i_taped i_at i_statements a_kept i_hasImage i_isKeeping i_cursor a_far a_shut a_queue i_queued a_litBy a_may a_row i_rowMany g0) H → va_S (gA b) s.heap H locs → lv_has ls 5 [(0, .ref h0), (1, .int v1), (2, .int v2), (4, .int v4)] → W p l e rm_X12_seersOf s m args below meth c H locs 0 0 Q (F0 m 55 ls [.int j22, .int v3]) := by
        intro H locs ls hG hS hl
        refine lv_ior hx hb dX12_seersOf_55 ?_
        refine lv_istore_n (lv' := [(3, .int (v3 ||| j22)), (0, .ref h0), (1, .int v1), (2, .int v2), (4, .int v4)]) hx hb dX12_seersOf_56 rfl hl (by decide) rfl (fun ls hl => ?_)
        refine lv_iinc (v := v4 + 1) (lv' := [(4, .int (v4 + 1)), (3, .int (v3 ||| j22)), (0, .ref h0), (1, .int v1), (2, .int v2)]) hx hb dX12_seersOf_57 hl (k := 4) rfl rfl (by decide) rfl (fun ls hl => ?_)
        refine lv_goto (tgt := 5) hx hb dX12_seersOf_60 (by decide) ?_
        exact ih _ _ hf hk63 _ _ _ hG hS (lv_sub hl [2, 3, 4, 1, 0] rfl)
      refine lv_if_lt (tgt := 54) hx hb dX12_seersOf_22 (by decide) (fun c22 => ?_) (fun c22 => ?_)
      · have hj22 := gb_t c22 hj22
        refine lv_iconst (v := 0) hx hb dX12_seersOf_54 (by decide) ?_
        have hj22 := Option.some.inj hj22
        subst hj22
        exact hJ22 H locs ls hG hS (lv_sub hl [0, 1, 2, 4] rfl)
      · have hj22 := gb_f c22 hj22
        refine lv_aload_n hx hb dX12_seersOf_25 rfl (lv_at hl 0 rfl) ?_
        refine gp_get (v := .ref (h0 + 8)) (C := RX12) (T := TX12) (N := 33) (ci := 10) hx hb hts hin hown hK hG mg_o rfl 7 (by decide) (hts _ (List.mem_of_getElem? (i := 2) rfl)) (fun _ h9 => h9) rfl dX12_seersOf_26 ?_
        refine lv_bipush (v := 9) hx hb dX12_seersOf_29 (by decide) ?_
        refine lv_iload hx hb dX12_seersOf_31 (lv_at hl 4 rfl) ?_
        refine lv_imul hx hb dX12_seersOf_33 ?_
        refine lv_aload_n hx hb dX12_seersOf_34 rfl (lv_at hl 0 rfl) ?_
        refine lv_iload hx hb dX12_seersOf_35 (lv_at hl 4 rfl) ?_
        refine lv_iload_n hx hb dX12_seersOf_37 rfl (lv_at hl 2 rfl) ?_
        obtain ⟨o38, hc38, hj22⟩ := gb_b hj22
        refine gp_callI (va_runV (As := [.int v4, .int v2]) (rest := [.int (9 * v4), .ref (h0 + 8), .int v3]) ⟨hx, hb, hml, hown, hts⟩ (c_X12_sceneAt (l := l) (D := D) (b := b) (M := M) (cI := cI) (cL := cL) hc38) (cwV 2 hts gX12_seersOf_X12_sceneAt rfl rfl rfl (by decide +kernel) ⟨Nat.le_of_ble_eq_true rfl, Nat.le_of_ble_eq_true rfl⟩) (gp_preV hKn hG mg_o rfl) rfl rfl hl.1 rfl (lv_room (Nat.le_of_ble_eq_true rfl)) dX12_seersOf_38 ⟨Nat.le_of_ble_eq_true rfl, Nat.le_of_ble_eq_true rfl⟩) hS (fun H locs hG hS => ?_)
        refine lv_iadd hx hb dX12_seersOf_41 ?_
        obtain ⟨b42, hj22⟩ := gb_ix hj22
        refine gp_iald hx hb hK hG mg_who b42 dX12_seersOf_42 ?_
        refine lv_iload_n hx hb dX12_seersOf_43 rfl (lv_at hl 1 rfl) ?_
        refine lv_icmp_ne (tgt := 54) hx hb dX12_seersOf_44 (by decide) (fun c44 => ?_) (fun c44 => ?_)
        · have hj22 := gb_f c44 hj22
          refine lv_iconst (v := 0) hx hb dX12_seersOf_54 (by decide) ?_
          have hj22 := Option.some.inj hj22
          subst hj22
          exact hJ22 H locs ls hG hS (lv_sub hl [0, 1, 2, 4] rfl)
        · have hj22 := gb_t c44 hj22
          refine lv_iconst (v := 1) hx hb dX12_seersOf_47 (by decide) ?_
          refine lv_iload hx hb dX12_seersOf_48 (lv_at hl 4 rfl) ?_
          refine lv_ishl hx hb dX12_seersOf_50 ?_
          refine lv_goto (tgt := 55) hx hb dX12_seersOf_51 (by decide) ?_
          have hj22 := Option.some.inj hj22
          subst hj22
          exact hJ22 H locs ls hG hS (lv_sub hl [0, 1, 2, 4] rfl)
set_option maxHeartbeats 4000000 in
set_option maxRecDepth 100000 in
theorem c_X12_seersOf {v1 : Int32} {v2 : Int32} {R : Int32} (hf : f_X12_seersOf a_scenes a_who a_minuteOf i_lampMany v1 v2 = some R) : Met l yX12_seersOf wsX12_seersOf rm_X12_seersOf (va_Pc [.ref h0, .int v1, .int v2] (gPre D b M (mg cI h0 a_refused a_isWall a_kind a_lampCell a_range a_lit a_scenes a_who a_cell a_minuteOf a_standsAt i_lampMany i_people i_minute a_tape a_letter a_letterAt a_told i_taped i_at i_statements a_kept i_hasImage i_isKeeping i_cursor a_far a_shut a_queue i_queued a_litBy a_may a_row i_rowMany g0) (gTy cI cL))) (gQ D b (some (.int R)) M (mg cI h0 a_refused a_isWall a_kind a_lampCell a_range a_lit a_scenes a_who a_cell a_minuteOf a_standsAt i_lampMany i_people i_minute a_tape a_letter a_letterAt a_told i_taped i_at i_statements a_kept i_hasImage i_isKeeping i_cursor a_far a_shut a_queue i_queued a_litBy a_may a_row i_rowMany g0)) 0 0 (gA b) := by
  refine gp_met (cc := cX12_seersOf) (maxL := 5) (ret := (some .int)) (by decide) rfl (Nat.le_of_ble_eq_true rfl) ?_
  intro p e s m below meth c X ls hG hl
  have hS : va_S (gA b) s.heap s.heap [] := va_S.rf
  obtain ⟨H, hH0⟩ : ∃ H : Heap, H = s.heap := ⟨_, rfl⟩
  rw [← hH0] at hG ⊢
  have hS : va_S (gA b) s.heap H [] := by rw [hH0]; exact va_S.rf
  obtain ⟨locs, hlo⟩ : ∃ z : List Loc, z = [] := ⟨_, rfl⟩
  rw [← hlo] at hS ⊢
  unfold f_X12_seersOf at hf
  obtain ⟨hx, hb, hr, hml, hown, hts, hlocks, hKn, hBs⟩ := id X
  have hK := hKn.1
  have hin : ∀ w ∈ wsX120, w ∈ wsX12_seersOf := fun w h => List.mem_cons_of_mem _ (List.mem_append_right _ h)
  have hl : lv_has ls 5 [(0, .ref h0), (1, .int v1), (2, .int v2)] := hl
  refine lv_iconst (v := 0) hx hb dX12_seersOf_0 (by decide) ?_
  refine lv_istore_n (lv' := [(3, .int 0), (0, .ref h0), (1, .int v1), (2, .int v2)]) hx hb dX12_seersOf_1 rfl hl (by decide) rfl (fun ls hl => ?_)
  refine lv_iconst (v := 0) hx hb dX12_seersOf_2 (by decide) ?_
  refine lv_istore (lv' := [(4, .int 0), (3, .int 0), (0, .ref h0), (1, .int v1), (2, .int v2)]) hx hb dX12_seersOf_3 hl (by decide) rfl (fun ls hl => ?_)
  refine w_X12_seersOf_5 X _ _ _ hf (fun x5_63 hf H locs ls hG hS hl => ?_) _ _ _ hG hS (lv_sub hl [2, 3, 4, 1, 0] rfl)
  · refine lv_iload_n hx hb dX12_seersOf_63 rfl (lv_at hl 0 rfl) ?_
    have hf := Option.some.inj hf
    subst hf
    exact gp_retI hx hb hr hlocks hG hS (Nat.le_refl _) (Nat.le_refl _) dX12_seersOf_64
-- X12_findWhere
abbrev rm_X12_findWhere : Room := { frames := 4, cells := 0, slots := 0, locals := 91 }
set_option maxHeartbeats 4000000 in
set_option maxRecDepth 100000 in
theorem w_X12_findWhere_27 {α : Type} {R : α} {K97 : Int32 → Option α} {v1 : Int32} {v2 : Int32} {v3 : Int32} {v4 : Int32} (X : gC p s m args meth c cX12_findWhere 7 none wsX12_findWhere RX12 D b (gTy cI cL)) : ∀ (n : Nat) (v5 : Int32) (v6 : Int32), L_X12_findWhere_27 K97 a_kind a_lit a_scenes i_lampMany v1 v2 v3 v4 n v5 v6 = some R → (∀ (x : Int32), K97 x = some R → ∀ (H : Heap) (locs : List Loc) (ls : Array Slot), GP D b M (mg cI h0 a_refused a_isWall a_kind a_lampCell a_range a_lit a_scenes a_who a_cell a_minuteOf a_standsAt i_lampMany i_people i_minute a_tape a_letter a_letterAt a_told i_taped i_at i_statements a_kept i_hasImage i_isKeeping i_cursor a_far a_shut a_queue i_queued a_litBy a_may a_row i_rowMany g0) H → va_S (gA b) s.heap H locs → lv_has ls 7 [(0, .ref h0), (1, .int v1), (2, .int v2), (3, .int v3), (4, .int v4), (5, .int x)] → W p l e rm_X12_findWhere s m args below meth c H locs 0 0 Q (F0 m 97 ls [])) → ∀ (H : Heap) (locs : List Loc) (ls : Array Slot), GP D b M (mg cI h0 a_refused a_isWall a_kind a_lampCell a_range a_lit a_scenes a_who a_cell a_minuteOf a_standsAt i_lampMany i_people i_minute a_tape a_letter a_letterAt a_told i_taped i_at i_statements a_kept i_hasImage i_isKeeping i_cursor a_far a_shut a_queue i_queued a_litBy a_may a_row i_rowMany g0) H → va_S (gA b) s.heap H locs → lv_has ls 7 [(0, .ref h0), (1, .int v1), (2, .int v2), (3, .int v3), (4, .int v4), (5, .int v5), (6, .int v6)] → W p l e rm_X12_findWhere s m args below meth c H locs 0 0 Q (F0 m 27 ls []) := by
  obtain ⟨hx, hb, hr, hml, hown, hts, hlocks, hKn, hBs⟩ := id X
  have hK := hKn.1
  have hin : ∀ w ∈ wsX120, w ∈ wsX12_findWhere := fun w h => List.mem_cons_of_mem _ (List.mem_append_right _ h)
  intro n
  induction n with
  | zero =>
    intro v5 v6 hf
    cases hf
  | succ n ih =>
    intro v5 v6 hf hk97 H locs ls hG hS hl
    rw [L_X12_findWhere_27.eq_2] at hf
    refine lv_iload hx hb dX12_findWhere_27 (lv_at hl 6 rfl) ?_
    refine lv_aload_n hx hb dX12_findWhere_29 rfl (lv_at hl 0 rfl) ?_
    refine gp_get (v := .int i_lampMany) (C := RX12) (T := TX12) (N := 33) (ci := 10) hx hb hts hin hown hK hG mg_o rfl 11 (by decide) (hts _ (List.mem_of_getElem? (i := 1) rfl)) (fun _ h9 => h9) rfl dX12_findWhere_30 ?_
    refine lv_icmp_ge (tgt := 97) hx hb dX12_findWhere_33 (by decide) (fun c33 => ?_) (fun c33 => ?_)
    · have hf := gb_t c33 hf
      exact hk97 _ hf _ _ _ hG hS (lv_sub hl [0, 1, 2, 3, 4, 5] rfl)
    · have hf := gb_f c33 hf
      refine lv_iload hx hb dX12_findWhere_36 (lv_at hl 5 rfl) ?_
      refine lv_aload_n hx hb dX12_findWhere_38 rfl (lv_at hl 0 rfl) ?_
      refine gp_get (v := .ref (h0 + 3)) (C := RX12) (T := TX12) (N := 33) (ci := 10) hx hb hts hin hown hK hG mg_o rfl 2 (by decide) (hts _ (List.mem_of_getElem? (i := 2) rfl)) (fun _ h9 => h9) rfl dX12_findWhere_39 ?_
      refine lv_iload hx hb dX12_findWhere_42 (lv_at hl 6 rfl) ?_
      obtain ⟨b44, hf⟩ := gb_ix hf
      refine gp_iald hx hb hK hG mg_kind b44 dX12_findWhere_44 ?_
      obtain ⟨j45, hj45, hf⟩ := gb_b hf
      have hJ45 : ∀ (H : Heap) (locs : List Loc) (ls : Array Slot), GP D b M (mg cI h0 a_refused a_isWall a_kind a_lampCell a_range a_lit a_scenes a_who a_cell a_minuteOf a_standsAt i_lampMany i_people i_minute a_tape a_letter a_letterAt a_told i_taped i_at i_statements a_kept i_hasImage i_isKeeping i_cursor a_far a_shut a_queue i_queued a_litBy a_may a_row i_rowMany g0) H → va_S (gA b) s.heap H locs → lv_has ls 7 [(0, .ref h0), (1, .int v1), (2, .int v2), (3, .int v3), (4, .int v4), (6, .int v6)] → W p l e rm_X12_findWhere s m args below meth c H locs 0 0 Q (F0 m 88 ls [.int j45, .int v5]) := by
        intro H locs ls hG hS hl
        refine lv_ior hx hb dX12_findWhere_88 ?_
        refine lv_istore (lv' := [(5, .int (v5 ||| j45)), (0, .ref h0), (1, .int v1), (2, .int v2), (3, .int v3), (4, .int v4), (6, .int v6)]) hx hb dX12_findWhere_89 hl (by decide) rfl (fun ls hl => ?_)
        refine lv_iinc (v := v6 + 1) (lv' := [(6, .int (v6 + 1)), (5, .int (v5 ||| j45)), (0, .ref h0), (1, .int v1), (2, .int v2), (3, .int v3), (4, .int v4)]) hx hb dX12_findWhere_91 hl (k := 6) rfl rfl (by decide) rfl (fun ls hl => ?_)
        refine lv_goto (tgt := 27) hx hb dX12_findWhere_94 (by decide) ?_
        exact ih _ _ hf hk97 _ _ _ hG hS (lv_sub hl [2, 3, 4, 5, 6, 1, 0] rfl)
      refine lv_if_ne (tgt := 87) hx hb dX12_findWhere_45 (by decide) (fun c45 => ?_) (fun c45 => ?_)
      · have hj45 := gb_f c45 hj45
        refine lv_iconst (v := 0) hx hb dX12_findWhere_87 (by decide) ?_
        have hj45 := Option.some.inj hj45
        subst hj45
        exact hJ45 H locs ls hG hS (lv_sub hl [0, 1, 2, 3, 4, 6] rfl)
      · have hj45 := gb_t c45 hj45
        refine lv_aload_n hx hb dX12_findWhere_48 rfl (lv_at hl 0 rfl) ?_
        refine gp_get (v := .ref (h0 + 6)) (C := RX12) (T := TX12) (N := 33) (ci := 10) hx hb hts hin hown hK hG mg_o rfl 5 (by decide) (hts _ (List.mem_of_getElem? (i := 3) rfl)) (fun _ h9 => h9) rfl dX12_findWhere_49 ?_
        refine lv_iload hx hb dX12_findWhere_52 (lv_at hl 6 rfl) ?_
        obtain ⟨b54, hj45⟩ := gb_ix hj45
        refine gp_iald hx hb hK hG mg_lit b54 dX12_findWhere_54 ?_
        refine lv_iconst (v := 1) hx hb dX12_findWhere_55 (by decide) ?_
        refine lv_icmp_ne (tgt := 87) hx hb dX12_findWhere_56 (by decide) (fun c56 => ?_) (fun c56 => ?_)
        · have hj45 := gb_f c56 hj45
          refine lv_iconst (v := 0) hx hb dX12_findWhere_87 (by decide) ?_
          have hj45 := Option.some.inj hj45
          subst hj45
          exact hJ45 H locs ls hG hS (lv_sub hl [0, 1, 2, 3, 4, 6] rfl)
        · have hj45 := gb_t c56 hj45
          refine lv_aload_n hx hb dX12_findWhere_59 rfl (lv_at hl 0 rfl) ?_
          refine gp_get (v := .ref (h0 + 7)) (C := RX12) (T := TX12) (N := 33) (ci := 10) hx hb hts hin hown hK hG mg_o rfl 6 (by decide) (hts _ (List.mem_of_getElem? (i := 4) rfl)) (fun _ h9 => h9) rfl dX12_findWhere_60 ?_
          refine lv_iload hx hb dX12_findWhere_63 (lv_at hl 6 rfl) ?_
          obtain ⟨b65, hj45⟩ := gb_ix hj45
          refine gp_iald hx hb hK hG mg_scenes b65 dX12_findWhere_65 ?_
          refine lv_bipush (v := 9) hx hb dX12_findWhere_66 (by decide) ?_
          refine lv_icmp_ge (tgt := 87) hx hb dX12_findWhere_68 (by decide) (fun c68 => ?_) (fun c68 => ?_)
          · have hj45 := gb_t c68 hj45
            refine lv_iconst (v := 0) hx hb dX12_findWhere_87 (by decide) ?_
            have hj45 := Option.some.inj hj45
            subst hj45
            exact hJ45 H locs ls hG hS (lv_sub hl [0, 1, 2, 3, 4, 6] rfl)
          · have hj45 := gb_f c68 hj45
            refine lv_iload_n hx hb dX12_findWhere_71 rfl (lv_at hl 3 rfl) ?_
            refine lv_iload hx hb dX12_findWhere_72 (lv_at hl 6 rfl) ?_
            obtain ⟨o74, hc74, hj45⟩ := gb_b hj45
            refine gp_callI (va_runS (As := [.int v3, .int v6]) (rest := [.int v5]) ⟨hx, hb, hml, hown, hts⟩ (c_X12_has (l := l) (D := D) (b := b) (M := M) (cI := cI) (cL := cL) hc74) (va_cwS 2 hts gX12_findWhere_X12_has rfl rfl rfl (by decide +kernel) ⟨Nat.le_of_ble_eq_true rfl, Nat.le_of_ble_eq_true rfl⟩) (gp_preS hKn hG) rfl rfl hl.1 rfl (lv_room (Nat.le_of_ble_eq_true rfl)) dX12_findWhere_74 ⟨Nat.le_of_ble_eq_true rfl, Nat.le_of_ble_eq_true rfl⟩) hS (fun H locs hG hS => ?_)
            refine lv_if_ne (tgt := 87) hx hb dX12_findWhere_77 (by decide) (fun c77 => ?_) (fun c77 => ?_)
            · have hj45 := gb_f c77 hj45
              refine lv_iconst (v := 0) hx hb dX12_findWhere_87 (by decide) ?_
              have hj45 := Option.some.inj hj45
              subst hj45
              exact hJ45 H locs ls hG hS (lv_sub hl [0, 1, 2, 3, 4, 6] rfl)
            · have hj45 := gb_t c77 hj45
              refine lv_iconst (v := 1) hx hb dX12_findWhere_80 (by decide) ?_
              refine lv_iload hx hb dX12_findWhere_81 (lv_at hl 6 rfl) ?_
              refine lv_ishl hx hb dX12_findWhere_83 ?_
              refine lv_goto (tgt := 88) hx hb dX12_findWhere_84 (by decide) ?_
              have hj45 := Option.some.inj hj45
              subst hj45
              exact hJ45 H locs ls hG hS (lv_sub hl [0, 1, 2, 3, 4, 6] rfl)
set_option maxHeartbeats 4000000 in
set_option maxRecDepth 100000 in
theorem w_X12_findWhere_14 {α : Type} {R : α} {K139 : (Nat → Int32) → Option α} {v1 : Int32} {v2 : Int32} {v3 : Int32} (X : gC p s m args meth c cX12_findWhere 7 none wsX12_findWhere RX12 D b (gTy cI cL)) : ∀ (n : Nat) (v4 : Int32) (a_may : Nat → Int32), L_X12_findWhere_14 K139 a_isWall a_kind a_lit a_scenes i_lampMany a_litBy v1 v2 v3 n v4 a_may = some R → (∀ (x : (Nat → Int32)), K139 x = some R → ∀ (H : Heap) (locs : List Loc) (ls : Array Slot), GP D b M (mg cI h0 a_refused a_isWall a_kind a_lampCell a_range a_lit a_scenes a_who a_cell a_minuteOf a_standsAt i_lampMany i_people i_minute a_tape a_letter a_letterAt a_told i_taped i_at i_statements a_kept i_hasImage i_isKeeping i_cursor a_far a_shut a_queue i_queued a_litBy x a_row i_rowMany g0) H → va_S (gA b) s.heap H locs → lv_has ls 7 [(0, .ref h0), (1, .int v1), (2, .int v2)] → W p l e rm_X12_findWhere s m args below meth c H locs 0 0 Q (F0 m 139 ls [])) → ∀ (H : Heap) (locs : List Loc) (ls : Array Slot), GP D b M (mg cI h0 a_refused a_isWall a_kind a_lampCell a_range a_lit a_scenes a_who a_cell a_minuteOf a_standsAt i_lampMany i_people i_minute a_tape a_letter a_letterAt a_told i_taped i_at i_statements a_kept i_hasImage i_isKeeping i_cursor a_far a_shut a_queue i_queued a_litBy a_may a_row i_rowMany g0) H → va_S (gA b) s.heap H locs → lv_has ls 7 [(0, .ref h0), (1, .int v1), (2, .int v2), (3, .int v3), (4, .int v4)] → W p l e rm_X12_findWhere s m args below meth c H locs 0 0 Q (F0 m 14 ls []) := by
  obtain ⟨hx, hb, hr, hml, hown, hts, hlocks, hKn, hBs⟩ := id X
  have hK := hKn.1
  have hin : ∀ w ∈ wsX120, w ∈ wsX12_findWhere := fun w h => List.mem_cons_of_mem _ (List.mem_append_right _ h)
  intro n
  induction n with
  | zero =>
    intro v4 a_may hf
    cases hf
  | succ n ih =>
    intro v4 a_may hf hk139 H locs ls hG hS hl
    rw [L_X12_findWhere_14.eq_2] at hf
    refine lv_iload hx hb dX12_findWhere_14 (lv_at hl 4 rfl) ?_
    refine lv_bipush (v := 36) hx hb dX12_findWhere_16 (by decide) ?_
    refine lv_icmp_ge (tgt := 139) hx hb dX12_findWhere_18 (by decide) (fun c18 => ?_) (fun c18 => ?_)
    · have hf := gb_t c18 hf
      exact hk139 _ hf _ _ _ hG hS (lv_sub hl [0, 1, 2] rfl)
    · have hf := gb_f c18 hf
      refine lv_iconst (v := 0) hx hb dX12_findWhere_21 (by decide) ?_
      refine lv_istore (lv' := [(5, .int 0), (0, .ref h0), (1, .int v1), (2, .int v2), (3, .int v3), (4, .int v4)]) hx hb dX12_findWhere_22 hl (by decide) rfl (fun ls hl => ?_)
      refine lv_iconst (v := 0) hx hb dX12_findWhere_24 (by decide) ?_
      refine lv_istore (lv' := [(6, .int 0), (5, .int 0), (0, .ref h0), (1, .int v1), (2, .int v2), (3, .int v3), (4, .int v4)]) hx hb dX12_findWhere_25 hl (by decide) rfl (fun ls hl => ?_)
      refine w_X12_findWhere_27 X _ _ _ hf (fun x27_97 hf H locs ls hG hS hl => ?_) _ _ _ hG hS (lv_sub hl [2, 3, 4, 5, 6, 1, 0] rfl)
      · refine lv_aload_n hx hb dX12_findWhere_97 rfl (lv_at hl 0 rfl) ?_
        refine gp_get (v := .ref (h0 + 21)) (C := RX12) (T := TX12) (N := 33) (ci := 10) hx hb hts hin hown hK hG mg_o rfl 30 (by decide) (hts _ (List.mem_of_getElem? (i := 5) rfl)) (fun _ h9 => h9) rfl dX12_findWhere_98 ?_
        refine lv_iload hx hb dX12_findWhere_101 (lv_at hl 4 rfl) ?_
        refine lv_aload_n hx hb dX12_findWhere_103 rfl (lv_at hl 0 rfl) ?_
        refine gp_get (v := .ref (h0 + 2)) (C := RX12) (T := TX12) (N := 33) (ci := 10) hx hb hts hin hown hK hG mg_o rfl 1 (by decide) (hts _ (List.mem_of_getElem? (i := 6) rfl)) (fun _ h9 => h9) rfl dX12_findWhere_104 ?_
        refine lv_iload hx hb dX12_findWhere_107 (lv_at hl 4 rfl) ?_
        obtain ⟨b109, hf⟩ := gb_ix hf
        refine gp_iald hx hb hK hG mg_isWall b109 dX12_findWhere_109 ?_
        refine lv_iconst (v := 1) hx hb dX12_findWhere_110 (by decide) ?_
        obtain ⟨j111, hj111, hf⟩ := gb_b hf
        have hJ111 : ∀ (H : Heap) (locs : List Loc) (ls : Array Slot), GP D b M (mg cI h0 a_refused a_isWall a_kind a_lampCell a_range a_lit a_scenes a_who a_cell a_minuteOf a_standsAt i_lampMany i_people i_minute a_tape a_letter a_letterAt a_told i_taped i_at i_statements a_kept i_hasImage i_isKeeping i_cursor a_far a_shut a_queue i_queued a_litBy a_may a_row i_rowMany g0) H → va_S (gA b) s.heap H locs → lv_has ls 7 [(0, .ref h0), (1, .int v1), (2, .int v2), (3, .int v3), (4, .int v4)] → W p l e rm_X12_findWhere s m args below meth c H locs 0 0 Q (F0 m 132 ls [.int j111, .int v4, .ref (h0 + 21)]) := by
          intro H locs ls hG hS hl
          obtain ⟨b132, hf⟩ := gb_ix hf
          refine gp_iast hx hb hK hG hS mg_may b132 mu_may dX12_findWhere_132 (fun H locs hG hS => ?_)
          refine lv_iinc (v := v4 + 1) (lv' := [(4, .int (v4 + 1)), (0, .ref h0), (1, .int v1), (2, .int v2), (3, .int v3)]) hx hb dX12_findWhere_133 hl (k := 4) rfl rfl (by decide) rfl (fun ls hl => ?_)
          refine lv_goto (tgt := 14) hx hb dX12_findWhere_136 (by decide) ?_
          exact ih _ _ hf hk139 _ _ _ hG hS (lv_sub hl [1, 2, 3, 4, 0] rfl)
        refine lv_icmp_eq (tgt := 127) hx hb dX12_findWhere_111 (by decide) (fun c111 => ?_) (fun c111 => ?_)
        · have hj111 := gb_t c111 hj111
          refine lv_iconst (v := 0) hx hb dX12_findWhere_127 (by decide) ?_
          refine lv_goto (tgt := 132) hx hb dX12_findWhere_128 (by decide) ?_
          have hj111 := Option.some.inj hj111
          subst hj111
          exact hJ111 H locs ls hG hS (lv_sub hl [0, 1, 2, 3, 4] rfl)
        · have hj111 := gb_f c111 hj111
          refine lv_aload_n hx hb dX12_findWhere_114 rfl (lv_at hl 0 rfl) ?_
          refine gp_get (v := .ref (h0 + 20)) (C := RX12) (T := TX12) (N := 33) (ci := 10) hx hb hts hin hown hK hG mg_o rfl 29 (by decide) (hts _ (List.mem_of_getElem? (i := 7) rfl)) (fun _ h9 => h9) rfl dX12_findWhere_115 ?_
          refine lv_iload hx hb dX12_findWhere_118 (lv_at hl 4 rfl) ?_
          obtain ⟨b120, hj111⟩ := gb_ix hj111
          refine gp_iald hx hb hK hG mg_litBy b120 dX12_findWhere_120 ?_
          refine lv_iload hx hb dX12_findWhere_121 (lv_at hl 5 rfl) ?_
          refine lv_iand hx hb dX12_findWhere_123 ?_
          refine lv_if_eq (tgt := 131) hx hb dX12_findWhere_124 (by decide) (fun c124 => ?_) (fun c124 => ?_)
          · have hj111 := gb_t c124 hj111
            refine lv_iconst (v := 1) hx hb dX12_findWhere_131 (by decide) ?_
            have hj111 := Option.some.inj hj111
            subst hj111
            exact hJ111 H locs ls hG hS (lv_sub hl [0, 1, 2, 3, 4] rfl)
          · have hj111 := gb_f c124 hj111
            refine lv_iconst (v := 0) hx hb dX12_findWhere_127 (by decide) ?_
            refine lv_goto (tgt := 132) hx hb dX12_findWhere_128 (by decide) ?_
            have hj111 := Option.some.inj hj111
            subst hj111
            exact hJ111 H locs ls hG hS (lv_sub hl [0, 1, 2, 3, 4] rfl)
set_option maxHeartbeats 4000000 in
set_option maxRecDepth 100000 in
theorem w_X12_findWhere_158 {α : Type} {R : α} {K200 : ((Nat → Int32) × (Nat → Int32) × (Nat → Int32) × Int32 × (Nat → Int32)) → Option α} {v1 : Int32} {v2 : Int32} {v4 : Int32} (X : gC p s m args meth c cX12_findWhere 7 none wsX12_findWhere RX12 D b (gTy cI cL)) : ∀ (n : Nat) (v5 : Int32) (a_far : Nat → Int32) (a_shut : Nat → Int32) (a_queue : Nat → Int32) (i_queued : Int32) (a_may : Nat → Int32), L_X12_findWhere_158 K200 a_isWall a_scenes a_who a_cell a_minuteOf v1 v2 v4 n v5 a_far a_shut a_queue i_queued a_may = some R → (∀ (x : (Nat → Int32) × (Nat → Int32) × (Nat → Int32) × Int32 × (Nat → Int32)), K200 x = some R → ∀ (H : Heap) (locs : List Loc) (ls : Array Slot), GP D b M (mg cI h0 a_refused a_isWall a_kind a_lampCell a_range a_lit a_scenes a_who a_cell a_minuteOf a_standsAt i_lampMany i_people i_minute a_tape a_letter a_letterAt a_told i_taped i_at i_statements a_kept i_hasImage i_isKeeping i_cursor x.1 x.2.1 x.2.2.1 x.2.2.2.1 a_litBy x.2.2.2.2 a_row i_rowMany g0) H → va_S (gA b) s.heap H locs → lv_has ls 7 [(0, .ref h0), (1, .int v1), (2, .int v2), (4, .int v4)] → W p l e rm_X12_findWhere s m args below meth c H locs 0 0 Q (F0 m 200 ls [])) → ∀ (H : Heap) (locs : List Loc) (ls : Array Slot), GP D b M (mg cI h0 a_refused a_isWall a_kind a_lampCell a_range a_lit a_scenes a_who a_cell a_minuteOf a_standsAt i_lampMany i_people i_minute a_tape a_letter a_letterAt a_told i_taped i_at i_statements a_kept i_hasImage i_isKeeping i_cursor a_far a_shut a_queue i_queued a_litBy a_may a_row i_rowMany g0) H → va_S (gA b) s.heap H locs → lv_has ls 7 [(0, .ref h0), (1, .int v1), (2, .int v2), (4, .int v4), (5, .int v5)] → W p l e rm_X12_findWhere s m args below meth c H locs 0 0 Q (F0 m 158 ls []) := by
  obtain ⟨hx, hb, hr, hml, hown, hts, hlocks, hKn, hBs⟩ := id X
  have hK := hKn.1
  have hin : ∀ w ∈ wsX120, w ∈ wsX12_findWhere := fun w h => List.mem_cons_of_mem _ (List.mem_append_right _ h)
  intro n
  induction n with
  | zero =>
    intro v5 a_far a_shut a_queue i_queued a_may hf
    cases hf
  | succ n ih =>
    intro v5 a_far a_shut a_queue i_queued a_may hf hk200 H locs ls hG hS hl
    rw [L_X12_findWhere_158.eq_2] at hf
    refine lv_iload hx hb dX12_findWhere_158 (lv_at hl 4 rfl) ?_
    refine lv_bipush (v := 9) hx hb dX12_findWhere_160 (by decide) ?_
    refine lv_iload hx hb dX12_findWhere_162 (lv_at hl 3 rfl) ?_
    refine lv_imul hx hb dX12_findWhere_164 ?_
    refine lv_aload_n hx hb dX12_findWhere_165 rfl (lv_at hl 0 rfl) ?_
    refine gp_get (v := .ref (h0 + 7)) (C := RX12) (T := TX12) (N := 33) (ci := 10) hx hb hts hin hown hK hG mg_o rfl 6 (by decide) (hts _ (List.mem_of_getElem? (i := 4) rfl)) (fun _ h9 => h9) rfl dX12_findWhere_166 ?_
    refine lv_iload hx hb dX12_findWhere_169 (lv_at hl 3 rfl) ?_
    obtain ⟨b171, hf⟩ := gb_ix hf
    refine gp_iald hx hb hK hG mg_scenes b171 dX12_findWhere_171 ?_
    refine lv_iadd hx hb dX12_findWhere_172 ?_
    refine lv_icmp_ge (tgt := 200) hx hb dX12_findWhere_173 (by decide) (fun c173 => ?_) (fun c173 => ?_)
    · have hf := gb_t c173 hf
      exact hk200 _ hf _ _ _ hG hS (lv_sub hl [0, 1, 2, 3] rfl)
    · have hf := gb_f c173 hf
      refine lv_aload_n hx hb dX12_findWhere_176 rfl (lv_at hl 0 rfl) ?_
      refine gp_get (v := .ref (h0 + 8)) (C := RX12) (T := TX12) (N := 33) (ci := 10) hx hb hts hin hown hK hG mg_o rfl 7 (by decide) (hts _ (List.mem_of_getElem? (i := 8) rfl)) (fun _ h9 => h9) rfl dX12_findWhere_177 ?_
      refine lv_iload hx hb dX12_findWhere_180 (lv_at hl 4 rfl) ?_
      obtain ⟨b182, hf⟩ := gb_ix hf
      refine gp_iald hx hb hK hG mg_who b182 dX12_findWhere_182 ?_
      refine lv_iload_n hx hb dX12_findWhere_183 rfl (lv_at hl 1 rfl) ?_
      obtain ⟨j184, hj184, hf⟩ := gb_b hf
      have hJ184 : ∀ (H : Heap) (locs : List Loc) (ls : Array Slot), GP D b M (mg cI h0 a_refused a_isWall a_kind a_lampCell a_range a_lit a_scenes a_who a_cell a_minuteOf a_standsAt i_lampMany i_people i_minute a_tape a_letter a_letterAt a_told i_taped i_at i_statements a_kept i_hasImage i_isKeeping i_cursor j184.1 j184.2.1 j184.2.2.1 j184.2.2.2.1 a_litBy j184.2.2.2.2 a_row i_rowMany g0) H → va_S (gA b) s.heap H locs → lv_has ls 7 [(0, .ref h0), (1, .int v1), (2, .int v2), (4, .int v4), (5, .int v5)] → W p l e rm_X12_findWhere s m args below meth c H locs 0 0 Q (F0 m 194 ls []) := by
        intro H locs ls hG hS hl
        refine lv_iinc (v := v5 + 1) (lv' := [(5, .int (v5 + 1)), (0, .ref h0), (1, .int v1), (2, .int v2), (4, .int v4)]) hx hb dX12_findWhere_194 hl (k := 4) rfl rfl (by decide) rfl (fun ls hl => ?_)
        refine lv_goto (tgt := 158) hx hb dX12_findWhere_197 (by decide) ?_
        exact ih _ _ _ _ _ _ hf hk200 _ _ _ hG hS (lv_sub hl [1, 2, 3, 4, 0] rfl)
      refine lv_icmp_ne (tgt := 194) hx hb dX12_findWhere_184 (by decide) (fun c184 => ?_) (fun c184 => ?_)
      · have hj184 := gb_f c184 hj184
        have hj184 := Option.some.inj hj184
        subst hj184
        exact hJ184 H locs ls hG hS (lv_sub hl [0, 1, 2, 3, 4] rfl)
      · have hj184 := gb_t c184 hj184
        refine lv_aload_n hx hb dX12_findWhere_187 rfl (lv_at hl 0 rfl) ?_
        refine lv_iload hx hb dX12_findWhere_188 (lv_at hl 4 rfl) ?_
        refine lv_iload_n hx hb dX12_findWhere_190 rfl (lv_at hl 2 rfl) ?_
        obtain ⟨o191, hc191, hj184⟩ := gb_b hj184
        refine gp_callV (va_runV (As := [.int v5, .int v2]) (rest := []) ⟨hx, hb, hml, hown, hts⟩ (c_X12_barsBy (l := l) (D := D) (b := b) (M := M) (cI := cI) (cL := cL) hc191) (cwV 2 hts gX12_findWhere_X12_barsBy rfl rfl rfl (by decide +kernel) ⟨Nat.le_of_ble_eq_true rfl, Nat.le_of_ble_eq_true rfl⟩) (gp_preV hKn hG mg_o rfl) rfl rfl hl.1 rfl (lv_room (Nat.le_of_ble_eq_true rfl)) dX12_findWhere_191 ⟨Nat.le_of_ble_eq_true rfl, Nat.le_of_ble_eq_true rfl⟩) hS (fun H locs hG hS => ?_)
        have hj184 := Option.some.inj hj184
        subst hj184
        exact hJ184 H locs ls hG hS (lv_sub hl [0, 1, 2, 3, 4] rfl)
set_option maxHeartbeats 4000000 in
set_option maxRecDepth 100000 in
theorem w_X12_findWhere_142 {α : Type} {R : α} {K206 : ((Nat → Int32) × (Nat → Int32) × (Nat → Int32) × Int32 × (Nat → Int32)) → Option α} {v1 : Int32} {v2 : Int32} (X : gC p s m args meth c cX12_findWhere 7 none wsX12_findWhere RX12 D b (gTy cI cL)) : ∀ (n : Nat) (v4 : Int32) (a_far : Nat → Int32) (a_shut : Nat → Int32) (a_queue : Nat → Int32) (i_queued : Int32) (a_may : Nat → Int32), L_X12_findWhere_142 K206 a_isWall a_scenes a_who a_cell a_minuteOf i_lampMany v1 v2 n v4 a_far a_shut a_queue i_queued a_may = some R → (∀ (x : (Nat → Int32) × (Nat → Int32) × (Nat → Int32) × Int32 × (Nat → Int32)), K206 x = some R → ∀ (H : Heap) (locs : List Loc) (ls : Array Slot), GP D b M (mg cI h0 a_refused a_isWall a_kind a_lampCell a_range a_lit a_scenes a_who a_cell a_minuteOf a_standsAt i_lampMany i_people i_minute a_tape a_letter a_letterAt a_told i_taped i_at i_statements a_kept i_hasImage i_isKeeping i_cursor x.1 x.2.1 x.2.2.1 x.2.2.2.1 a_litBy x.2.2.2.2 a_row i_rowMany g0) H → va_S (gA b) s.heap H locs → lv_has ls 7 [] → W p l e rm_X12_findWhere s m args below meth c H locs 0 0 Q (F0 m 206 ls [])) → ∀ (H : Heap) (locs : List Loc) (ls : Array Slot), GP D b M (mg cI h0 a_refused a_isWall a_kind a_lampCell a_range a_lit a_scenes a_who a_cell a_minuteOf a_standsAt i_lampMany i_people i_minute a_tape a_letter a_letterAt a_told i_taped i_at i_statements a_kept i_hasImage i_isKeeping i_cursor a_far a_shut a_queue i_queued a_litBy a_may a_row i_rowMany g0) H → va_S (gA b) s.heap H locs → lv_has ls 7 [(0, .ref h0), (1, .int v1), (2, .int v2), (4, .int v4)] → W p l e rm_X12_findWhere s m args below meth c H locs 0 0 Q (F0 m 142 ls []) := by
  obtain ⟨hx, hb, hr, hml, hown, hts, hlocks, hKn, hBs⟩ := id X
  have hK := hKn.1
  have hin : ∀ w ∈ wsX120, w ∈ wsX12_findWhere := fun w h => List.mem_cons_of_mem _ (List.mem_append_right _ h)
  intro n
  induction n with
  | zero =>
    intro v4 a_far a_shut a_queue i_queued a_may hf
    cases hf
  | succ n ih =>
    intro v4 a_far a_shut a_queue i_queued a_may hf hk206 H locs ls hG hS hl
    rw [L_X12_findWhere_142.eq_2] at hf
    refine lv_iload hx hb dX12_findWhere_142 (lv_at hl 3 rfl) ?_
    refine lv_aload_n hx hb dX12_findWhere_144 rfl (lv_at hl 0 rfl) ?_
    refine gp_get (v := .int i_lampMany) (C := RX12) (T := TX12) (N := 33) (ci := 10) hx hb hts hin hown hK hG mg_o rfl 11 (by decide) (hts _ (List.mem_of_getElem? (i := 1) rfl)) (fun _ h9 => h9) rfl dX12_findWhere_145 ?_
    refine lv_icmp_ge (tgt := 206) hx hb dX12_findWhere_148 (by decide) (fun c148 => ?_) (fun c148 => ?_)
    · have hf := gb_t c148 hf
      exact hk206 _ hf _ _ _ hG hS (lv_sub hl [] rfl)
    · have hf := gb_f c148 hf
      refine lv_bipush (v := 9) hx hb dX12_findWhere_151 (by decide) ?_
      refine lv_iload hx hb dX12_findWhere_153 (lv_at hl 3 rfl) ?_
      refine lv_imul hx hb dX12_findWhere_155 ?_
      refine lv_istore (lv' := [(5, .int (9 * v4)), (0, .ref h0), (1, .int v1), (2, .int v2), (4, .int v4)]) hx hb dX12_findWhere_156 hl (by decide) rfl (fun ls hl => ?_)
      refine w_X12_findWhere_158 X _ _ _ _ _ _ _ hf (fun x158_200 hf H locs ls hG hS hl => ?_) _ _ _ hG hS (lv_sub hl [1, 2, 3, 4, 0] rfl)
      · refine lv_iinc (v := v4 + 1) (lv' := [(4, .int (v4 + 1)), (0, .ref h0), (1, .int v1), (2, .int v2)]) hx hb dX12_findWhere_200 hl (k := 3) rfl rfl (by decide) rfl (fun ls hl => ?_)
        refine lv_goto (tgt := 142) hx hb dX12_findWhere_203 (by decide) ?_
        exact ih _ _ _ _ _ _ hf hk206 _ _ _ hG hS (lv_sub hl [1, 2, 3, 0] rfl)
set_option maxHeartbeats 4000000 in
set_option maxRecDepth 100000 in
theorem c_X12_findWhere {v1 : Int32} {v2 : Int32} {R : (Nat → Int32) × (Nat → Int32) × (Nat → Int32) × Int32 × (Nat → Int32) × (Nat → Int32)} (hf : f_X12_findWhere a_isWall a_kind a_lampCell a_range a_lit a_scenes a_who a_cell a_minuteOf a_standsAt i_lampMany i_people a_far a_shut a_queue i_queued a_litBy a_may v1 v2 = some R) : Met l yX12_findWhere wsX12_findWhere rm_X12_findWhere (va_Pc [.ref h0, .int v1, .int v2] (gPre D b M (mg cI h0 a_refused a_isWall a_kind a_lampCell a_range a_lit a_scenes a_who a_cell a_minuteOf a_standsAt i_lampMany i_people i_minute a_tape a_letter a_letterAt a_told i_taped i_at i_statements a_kept i_hasImage i_isKeeping i_cursor a_far a_shut a_queue i_queued a_litBy a_may a_row i_rowMany g0) (gTy cI cL))) (gQ D b none M (mg cI h0 a_refused a_isWall a_kind a_lampCell a_range a_lit a_scenes a_who a_cell a_minuteOf a_standsAt i_lampMany i_people i_minute a_tape a_letter a_letterAt a_told i_taped i_at i_statements a_kept i_hasImage i_isKeeping i_cursor R.1 R.2.1 R.2.2.1 R.2.2.2.1 R.2.2.2.2.1 R.2.2.2.2.2 a_row i_rowMany g0)) 0 0 (gA b) := by
  refine gp_met (cc := cX12_findWhere) (maxL := 7) (ret := none) (by decide) rfl (Nat.le_of_ble_eq_true rfl) ?_
  intro p e s m below meth c X ls hG hl
  have hS : va_S (gA b) s.heap s.heap [] := va_S.rf
  obtain ⟨H, hH0⟩ : ∃ H : Heap, H = s.heap := ⟨_, rfl⟩
  rw [← hH0] at hG ⊢
  have hS : va_S (gA b) s.heap H [] := by rw [hH0]; exact va_S.rf
  obtain ⟨locs, hlo⟩ : ∃ z : List Loc, z = [] := ⟨_, rfl⟩
  rw [← hlo] at hS ⊢
  unfold f_X12_findWhere at hf
  obtain ⟨hx, hb, hr, hml, hown, hts, hlocks, hKn, hBs⟩ := id X
  have hK := hKn.1
  have hin : ∀ w ∈ wsX120, w ∈ wsX12_findWhere := fun w h => List.mem_cons_of_mem _ (List.mem_append_right _ h)
  have hl : lv_has ls 7 [(0, .ref h0), (1, .int v1), (2, .int v2)] := hl
  refine lv_aload_n hx hb dX12_findWhere_0 rfl (lv_at hl 0 rfl) ?_
  refine lv_iload_n hx hb dX12_findWhere_1 rfl (lv_at hl 1 rfl) ?_
  refine lv_iload_n hx hb dX12_findWhere_2 rfl (lv_at hl 2 rfl) ?_
  obtain ⟨o3, hc3, hf⟩ := gb_b hf
  refine gp_callI (va_runV (As := [.int v1, .int v2]) (rest := []) ⟨hx, hb, hml, hown, hts⟩ (c_X12_seersOf (l := l) (D := D) (b := b) (M := M) (cI := cI) (cL := cL) hc3) (cwV 2 hts gX12_findWhere_X12_seersOf rfl rfl rfl (by decide +kernel) ⟨Nat.le_of_ble_eq_true rfl, Nat.le_of_ble_eq_true rfl⟩) (gp_preV hKn hG mg_o rfl) rfl rfl hl.1 rfl (lv_room (Nat.le_of_ble_eq_true rfl)) dX12_findWhere_3 ⟨Nat.le_of_ble_eq_true rfl, Nat.le_of_ble_eq_true rfl⟩) hS (fun H locs hG hS => ?_)
  refine lv_istore_n (lv' := [(3, .int o3), (0, .ref h0), (1, .int v1), (2, .int v2)]) hx hb dX12_findWhere_6 rfl hl (by decide) rfl (fun ls hl => ?_)
  refine lv_aload_n hx hb dX12_findWhere_7 rfl (lv_at hl 1 rfl) ?_
  obtain ⟨o8, hc8, hf⟩ := gb_b hf
  refine gp_callV (va_runV (As := []) (rest := []) ⟨hx, hb, hml, hown, hts⟩ (c_X12_findLit (l := l) (D := D) (b := b) (M := M) (cI := cI) (cL := cL) hc8) (cwV 0 hts gX12_findWhere_X12_findLit rfl rfl rfl (by decide +kernel) ⟨Nat.le_of_ble_eq_true rfl, Nat.le_of_ble_eq_true rfl⟩) (gp_preV hKn hG mg_o rfl) rfl rfl hl.1 rfl (lv_room (Nat.le_of_ble_eq_true rfl)) dX12_findWhere_8 ⟨Nat.le_of_ble_eq_true rfl, Nat.le_of_ble_eq_true rfl⟩) hS (fun H locs hG hS => ?_)
  refine lv_iconst (v := 0) hx hb dX12_findWhere_11 (by decide) ?_
  refine lv_istore (lv' := [(4, .int 0), (3, .int o3), (0, .ref h0), (1, .int v1), (2, .int v2)]) hx hb dX12_findWhere_12 hl (by decide) rfl (fun ls hl => ?_)
  refine w_X12_findWhere_14 X _ _ _ hf (fun x14_139 hf H locs ls hG hS hl => ?_) _ _ _ hG hS (lv_sub hl [2, 3, 4, 1, 0] rfl)
  · refine lv_iconst (v := 0) hx hb dX12_findWhere_139 (by decide) ?_
    refine lv_istore (lv' := [(4, .int 0), (0, .ref h0), (1, .int v1), (2, .int v2)]) hx hb dX12_findWhere_140 hl (by decide) rfl (fun ls hl => ?_)
    refine w_X12_findWhere_142 X _ _ _ _ _ _ _ hf (fun x142_206 hf H locs ls hG hS hl => ?_) _ _ _ hG hS (lv_sub hl [1, 2, 3, 0] rfl)
    · have hf := Option.some.inj hf
      subst hf
      exact gp_retV hx hb hr hlocks hG hS (Nat.le_refl _) (Nat.le_refl _) dX12_findWhere_206
-- X12_notWhere
abbrev rm_X12_notWhere : Room := { frames := 1, cells := 0, slots := 0, locals := 21 }
set_option maxHeartbeats 4000000 in
set_option maxRecDepth 100000 in
theorem c_X12_notWhere {v1 : Int32} {v2 : Int32} {v3 : Int32} {R : Int32} (hf : f_X12_notWhere i_people v1 v2 v3 = some R) : Met l yX12_notWhere wsX12_notWhere rm_X12_notWhere (va_Pc [.ref h0, .int v1, .int v2, .int v3] (gPre D b M (mg cI h0 a_refused a_isWall a_kind a_lampCell a_range a_lit a_scenes a_who a_cell a_minuteOf a_standsAt i_lampMany i_people i_minute a_tape a_letter a_letterAt a_told i_taped i_at i_statements a_kept i_hasImage i_isKeeping i_cursor a_far a_shut a_queue i_queued a_litBy a_may a_row i_rowMany g0) (gTy cI cL))) (gQ D b (some (.int R)) M (mg cI h0 a_refused a_isWall a_kind a_lampCell a_range a_lit a_scenes a_who a_cell a_minuteOf a_standsAt i_lampMany i_people i_minute a_tape a_letter a_letterAt a_told i_taped i_at i_statements a_kept i_hasImage i_isKeeping i_cursor a_far a_shut a_queue i_queued a_litBy a_may a_row i_rowMany g0)) 0 0 (gA b) := by
  refine gp_met (cc := cX12_notWhere) (maxL := 4) (ret := (some .int)) (by decide) rfl (Nat.le_of_ble_eq_true rfl) ?_
  intro p e s m below meth c X ls hG hl
  have hS : va_S (gA b) s.heap s.heap [] := va_S.rf
  obtain ⟨H, hH0⟩ : ∃ H : Heap, H = s.heap := ⟨_, rfl⟩
  rw [← hH0] at hG ⊢
  have hS : va_S (gA b) s.heap H [] := by rw [hH0]; exact va_S.rf
  obtain ⟨locs, hlo⟩ : ∃ z : List Loc, z = [] := ⟨_, rfl⟩
  rw [← hlo] at hS ⊢
  unfold f_X12_notWhere at hf
  obtain ⟨hx, hb, hr, hml, hown, hts, hlocks, hKn, hBs⟩ := id X
  have hK := hKn.1
  have hin : ∀ w ∈ wsX120, w ∈ wsX12_notWhere := fun w h => List.mem_cons_of_mem _ (List.mem_append_right _ h)
  have hl : lv_has ls 4 [(0, .ref h0), (1, .int v1), (2, .int v2), (3, .int v3)] := hl
  refine lv_aload_n hx hb dX12_notWhere_0 rfl (lv_at hl 0 rfl) ?_
  refine lv_iload_n hx hb dX12_notWhere_1 rfl (lv_at hl 1 rfl) ?_
  obtain ⟨o2, hc2, hf⟩ := gb_b hf
  refine gp_callI (va_runV (As := [.int v1]) (rest := []) ⟨hx, hb, hml, hown, hts⟩ (c_X12_isPerson (l := l) (D := D) (b := b) (M := M) (cI := cI) (cL := cL) hc2) (cwV 1 hts gX12_notWhere_X12_isPerson rfl rfl rfl (by decide +kernel) ⟨Nat.le_of_ble_eq_true rfl, Nat.le_of_ble_eq_true rfl⟩) (gp_preV hKn hG mg_o rfl) rfl rfl hl.1 rfl (lv_room (Nat.le_of_ble_eq_true rfl)) dX12_notWhere_2 ⟨Nat.le_of_ble_eq_true rfl, Nat.le_of_ble_eq_true rfl⟩) hS (fun H locs hG hS => ?_)
  refine lv_if_ne (tgt := 10) hx hb dX12_notWhere_5 (by decide) (fun c5 => ?_) (fun c5 => ?_)
  · have hf := gb_f c5 hf
    refine lv_iload_n hx hb dX12_notWhere_10 rfl (lv_at hl 2 rfl) ?_
    refine lv_if_lt (tgt := 19) hx hb dX12_notWhere_11 (by decide) (fun c11 => ?_) (fun c11 => ?_)
    · have hf := gb_t c11 hf
      refine lv_bipush (v := (-4 : Int32)) hx hb dX12_notWhere_19 (by decide) ?_
      have hf := Option.some.inj hf
      subst hf
      exact gp_retI hx hb hr hlocks hG hS (Nat.le_refl _) (Nat.le_refl _) dX12_notWhere_21
    · have hf := gb_f c11 hf
      refine lv_iload_n hx hb dX12_notWhere_14 rfl (lv_at hl 3 rfl) ?_
      refine lv_iconst (v := (-1 : Int32)) hx hb dX12_notWhere_15 (by decide) ?_
      refine lv_icmp_ge (tgt := 22) hx hb dX12_notWhere_16 (by decide) (fun c16 => ?_) (fun c16 => ?_)
      · have hf := gb_t c16 hf
        refine lv_iload_n hx hb dX12_notWhere_22 rfl (lv_at hl 2 rfl) ?_
        refine lv_sipush (v := 9999) hx hb dX12_notWhere_23 (by decide) ?_
        have hJ26 : ∀ Z : Int32, Z = (if v2 ≤ 9999 then 0 else (-6 : Int32)) → W p l e rm_X12_notWhere s m [.ref h0, .int v1, .int v2, .int v3].toArray below meth c H locs 0 0 (MQ below (gQ D b (some (.int R)) M (mg cI h0 a_refused a_isWall a_kind a_lampCell a_range a_lit a_scenes a_who a_cell a_minuteOf a_standsAt i_lampMany i_people i_minute a_tape a_letter a_letterAt a_told i_taped i_at i_statements a_kept i_hasImage i_isKeeping i_cursor a_far a_shut a_queue i_queued a_litBy a_may a_row i_rowMany g0)) [.ref h0, .int v1, .int v2, .int v3].toArray s 0 0 (gA b)) (F0 m 35 ls (.int Z :: [])) := by
          intro Z hZ
          subst hZ
          have hf := Option.some.inj hf
          subst hf
          exact gp_retI hx hb hr hlocks hG hS (Nat.le_refl _) (Nat.le_refl _) dX12_notWhere_35
        refine lv_icmp_le (tgt := 34) hx hb dX12_notWhere_26 (by decide) (fun c26 => ?_) (fun c26 => ?_)
        · rw [if_pos c26] at hJ26
          refine lv_iconst (v := 0) hx hb dX12_notWhere_34 (by decide) ?_
          exact hJ26 _ rfl
        · rw [if_neg c26] at hJ26
          refine lv_bipush (v := (-6 : Int32)) hx hb dX12_notWhere_29 (by decide) ?_
          refine lv_goto (tgt := 35) hx hb dX12_notWhere_31 (by decide) ?_
          exact hJ26 _ rfl
      · have hf := gb_f c16 hf
        refine lv_bipush (v := (-4 : Int32)) hx hb dX12_notWhere_19 (by decide) ?_
        have hf := Option.some.inj hf
        subst hf
        exact gp_retI hx hb hr hlocks hG hS (Nat.le_refl _) (Nat.le_refl _) dX12_notWhere_21
  · have hf := gb_t c5 hf
    refine lv_iconst (v := (-1 : Int32)) hx hb dX12_notWhere_8 (by decide) ?_
    have hf := Option.some.inj hf
    subst hf
    exact gp_retI hx hb hr hlocks hG hS (Nat.le_refl _) (Nat.le_refl _) dX12_notWhere_9
-- X12_whereAt
abbrev rm_X12_whereAt : Room := { frames := 5, cells := 0, slots := 0, locals := 117 }
set_option maxHeartbeats 4000000 in
set_option maxRecDepth 100000 in
theorem w_X12_whereAt_33 {α : Type} {R : α} {K59 : Int32 → Option α} {K71 : Int32 → Option α} {v3 : Int32} (X : gC p s m args meth c cX12_whereAt 7 (some .int) wsX12_whereAt RX12 D b (gTy cI cL)) : ∀ (n : Nat) (v5 : Int32) (v6 : Int32), L_X12_whereAt_33 K59 K71 a_may v3 n v5 v6 = some R → (∀ (x : Int32), K59 x = some R → ∀ (H : Heap) (locs : List Loc) (ls : Array Slot), GP D b M (mg cI h0 a_refused a_isWall a_kind a_lampCell a_range a_lit a_scenes a_who a_cell a_minuteOf a_standsAt i_lampMany i_people i_minute a_tape a_letter a_letterAt a_told i_taped i_at i_statements a_kept i_hasImage i_isKeeping i_cursor a_far a_shut a_queue i_queued a_litBy a_may a_row i_rowMany g0) H → va_S (gA b) s.heap H locs → lv_has ls 7 [(6, .int x)] → W p l e rm_X12_whereAt s m args below meth c H locs 0 0 Q (F0 m 59 ls [])) → (∀ (x : Int32), K71 x = some R → ∀ (H : Heap) (locs : List Loc) (ls : Array Slot), GP D b M (mg cI h0 a_refused a_isWall a_kind a_lampCell a_range a_lit a_scenes a_who a_cell a_minuteOf a_standsAt i_lampMany i_people i_minute a_tape a_letter a_letterAt a_told i_taped i_at i_statements a_kept i_hasImage i_isKeeping i_cursor a_far a_shut a_queue i_queued a_litBy a_may a_row i_rowMany g0) H → va_S (gA b) s.heap H locs → lv_has ls 7 [(3, .int v3), (5, .int x)] → W p l e rm_X12_whereAt s m args below meth c H locs 0 0 Q (F0 m 71 ls [])) → ∀ (H : Heap) (locs : List Loc) (ls : Array Slot), GP D b M (mg cI h0 a_refused a_isWall a_kind a_lampCell a_range a_lit a_scenes a_who a_cell a_minuteOf a_standsAt i_lampMany i_people i_minute a_tape a_letter a_letterAt a_told i_taped i_at i_statements a_kept i_hasImage i_isKeeping i_cursor a_far a_shut a_queue i_queued a_litBy a_may a_row i_rowMany g0) H → va_S (gA b) s.heap H locs → lv_has ls 7 [(0, .ref h0), (3, .int v3), (5, .int v5), (6, .int v6)] → W p l e rm_X12_whereAt s m args below meth c H locs 0 0 Q (F0 m 33 ls []) := by
  obtain ⟨hx, hb, hr, hml, hown, hts, hlocks, hKn, hBs⟩ := id X
  have hK := hKn.1
  have hin : ∀ w ∈ wsX120, w ∈ wsX12_whereAt := fun w h => List.mem_cons_of_mem _ (List.mem_append_right _ h)
  intro n
  induction n with
  | zero =>
    intro v5 v6 hf
    cases hf
  | succ n ih =>
    intro v5 v6 hf hk59 hk71 H locs ls hG hS hl
    rw [L_X12_whereAt_33.eq_2] at hf
    refine lv_iload hx hb dX12_whereAt_33 (lv_at hl 3 rfl) ?_
    refine lv_bipush (v := 36) hx hb dX12_whereAt_35 (by decide) ?_
    refine lv_icmp_ge (tgt := 71) hx hb dX12_whereAt_37 (by decide) (fun c37 => ?_) (fun c37 => ?_)
    · have hf := gb_t c37 hf
      exact hk71 _ hf _ _ _ hG hS (lv_sub hl [1, 2] rfl)
    · have hf := gb_f c37 hf
      refine lv_aload_n hx hb dX12_whereAt_40 rfl (lv_at hl 0 rfl) ?_
      refine gp_get (v := .ref (h0 + 21)) (C := RX12) (T := TX12) (N := 33) (ci := 10) hx hb hts hin hown hK hG mg_o rfl 30 (by decide) (hts _ (List.mem_of_getElem? (i := 1) rfl)) (fun _ h9 => h9) rfl dX12_whereAt_41 ?_
      refine lv_iload hx hb dX12_whereAt_44 (lv_at hl 3 rfl) ?_
      obtain ⟨b46, hf⟩ := gb_ix hf
      refine gp_iald hx hb hK hG mg_may b46 dX12_whereAt_46 ?_
      refine lv_if_ne (tgt := 53) hx hb dX12_whereAt_47 (by decide) (fun c47 => ?_) (fun c47 => ?_)
      · have hf := gb_f c47 hf
        refine lv_iload hx hb dX12_whereAt_53 (lv_at hl 2 rfl) ?_
        refine lv_iload_n hx hb dX12_whereAt_55 rfl (lv_at hl 1 rfl) ?_
        refine lv_icmp_ne (tgt := 62) hx hb dX12_whereAt_56 (by decide) (fun c56 => ?_) (fun c56 => ?_)
        · have hf := gb_f c56 hf
          refine lv_iinc (v := v5 + 1) (lv' := [(5, .int (v5 + 1)), (0, .ref h0), (3, .int v3), (6, .int v6)]) hx hb dX12_whereAt_62 hl (k := 2) rfl rfl (by decide) rfl (fun ls hl => ?_)
          refine lv_iinc (v := v6 + 1) (lv' := [(6, .int (v6 + 1)), (5, .int (v5 + 1)), (0, .ref h0), (3, .int v3)]) hx hb dX12_whereAt_65 hl (k := 3) rfl rfl (by decide) rfl (fun ls hl => ?_)
          refine lv_goto (tgt := 33) hx hb dX12_whereAt_68 (by decide) ?_
          exact ih _ _ hf hk59 hk71 _ _ _ hG hS (lv_sub hl [2, 3, 1, 0] rfl)
        · have hf := gb_t c56 hf
          exact hk59 _ hf _ _ _ hG hS (lv_sub hl [3] rfl)
      · have hf := gb_t c47 hf
        refine lv_goto (tgt := 65) hx hb dX12_whereAt_50 (by decide) ?_
        refine lv_iinc (v := v6 + 1) (lv' := [(6, .int (v6 + 1)), (0, .ref h0), (3, .int v3), (5, .int v5)]) hx hb dX12_whereAt_65 hl (k := 3) rfl rfl (by decide) rfl (fun ls hl => ?_)
        refine lv_goto (tgt := 33) hx hb dX12_whereAt_68 (by decide) ?_
        exact ih _ _ hf hk59 hk71 _ _ _ hG hS (lv_sub hl [1, 2, 3, 0] rfl)
set_option maxHeartbeats 4000000 in
set_option maxRecDepth 100000 in
theorem c_X12_whereAt {v1 : Int32} {v2 : Int32} {v3 : Int32} {R : Int32 × (Nat → Int32) × (Nat → Int32) × (Nat → Int32) × (Nat → Int32) × Int32 × (Nat → Int32) × (Nat → Int32)} (hf : f_X12_whereAt a_refused a_isWall a_kind a_lampCell a_range a_lit a_scenes a_who a_cell a_minuteOf a_standsAt i_lampMany i_people a_far a_shut a_queue i_queued a_litBy a_may v1 v2 v3 = some R) : Met l yX12_whereAt wsX12_whereAt rm_X12_whereAt (va_Pc [.ref h0, .int v1, .int v2, .int v3] (gPre D b M (mg cI h0 a_refused a_isWall a_kind a_lampCell a_range a_lit a_scenes a_who a_cell a_minuteOf a_standsAt i_lampMany i_people i_minute a_tape a_letter a_letterAt a_told i_taped i_at i_statements a_kept i_hasImage i_isKeeping i_cursor a_far a_shut a_queue i_queued a_litBy a_may a_row i_rowMany g0) (gTy cI cL))) (gQ D b (some (.int R.1)) M (mg cI h0 R.2.1 a_isWall a_kind a_lampCell a_range a_lit a_scenes a_who a_cell a_minuteOf a_standsAt i_lampMany i_people i_minute a_tape a_letter a_letterAt a_told i_taped i_at i_statements a_kept i_hasImage i_isKeeping i_cursor R.2.2.1 R.2.2.2.1 R.2.2.2.2.1 R.2.2.2.2.2.1 R.2.2.2.2.2.2.1 R.2.2.2.2.2.2.2 a_row i_rowMany g0)) 0 0 (gA b) := by
  refine gp_met (cc := cX12_whereAt) (maxL := 7) (ret := (some .int)) (by decide) rfl (Nat.le_of_ble_eq_true rfl) ?_
  intro p e s m below meth c X ls hG hl
  have hS : va_S (gA b) s.heap s.heap [] := va_S.rf
  obtain ⟨H, hH0⟩ : ∃ H : Heap, H = s.heap := ⟨_, rfl⟩
  rw [← hH0] at hG ⊢
  have hS : va_S (gA b) s.heap H [] := by rw [hH0]; exact va_S.rf
  obtain ⟨locs, hlo⟩ : ∃ z : List Loc, z = [] := ⟨_, rfl⟩
  rw [← hlo] at hS ⊢
  unfold f_X12_whereAt at hf
  obtain ⟨hx, hb, hr, hml, hown, hts, hlocks, hKn, hBs⟩ := id X
  have hK := hKn.1
  have hin : ∀ w ∈ wsX120, w ∈ wsX12_whereAt := fun w h => List.mem_cons_of_mem _ (List.mem_append_right _ h)
  have hl : lv_has ls 7 [(0, .ref h0), (1, .int v1), (2, .int v2), (3, .int v3)] := hl
  refine lv_aload_n hx hb dX12_whereAt_0 rfl (lv_at hl 0 rfl) ?_
  refine lv_iload_n hx hb dX12_whereAt_1 rfl (lv_at hl 1 rfl) ?_
  refine lv_iload_n hx hb dX12_whereAt_2 rfl (lv_at hl 2 rfl) ?_
  refine lv_iload_n hx hb dX12_whereAt_3 rfl (lv_at hl 3 rfl) ?_
  obtain ⟨o4, hc4, hf⟩ := gb_b hf
  refine gp_callI (va_runV (As := [.int v1, .int v2, .int v3]) (rest := []) ⟨hx, hb, hml, hown, hts⟩ (c_X12_notWhere (l := l) (D := D) (b := b) (M := M) (cI := cI) (cL := cL) hc4) (cwV 3 hts gX12_whereAt_X12_notWhere rfl rfl rfl (by decide +kernel) ⟨Nat.le_of_ble_eq_true rfl, Nat.le_of_ble_eq_true rfl⟩) (gp_preV hKn hG mg_o rfl) rfl rfl hl.1 rfl (lv_room (Nat.le_of_ble_eq_true rfl)) dX12_whereAt_4 ⟨Nat.le_of_ble_eq_true rfl, Nat.le_of_ble_eq_true rfl⟩) hS (fun H locs hG hS => ?_)
  refine lv_istore (lv' := [(4, .int o4), (0, .ref h0), (1, .int v1), (2, .int v2), (3, .int v3)]) hx hb dX12_whereAt_7 hl (by decide) rfl (fun ls hl => ?_)
  refine lv_iload hx hb dX12_whereAt_9 (lv_at hl 0 rfl) ?_
  refine lv_if_eq (tgt := 21) hx hb dX12_whereAt_11 (by decide) (fun c11 => ?_) (fun c11 => ?_)
  · have hf := gb_t c11 hf
    refine lv_aload_n hx hb dX12_whereAt_21 rfl (lv_at hl 1 rfl) ?_
    refine lv_iload_n hx hb dX12_whereAt_22 rfl (lv_at hl 2 rfl) ?_
    refine lv_iload_n hx hb dX12_whereAt_23 rfl (lv_at hl 3 rfl) ?_
    obtain ⟨o24, hc24, hf⟩ := gb_b hf
    refine gp_callV (va_runV (As := [.int v1, .int v2]) (rest := []) ⟨hx, hb, hml, hown, hts⟩ (c_X12_findWhere (l := l) (D := D) (b := b) (M := M) (cI := cI) (cL := cL) hc24) (cwV 2 hts gX12_whereAt_X12_findWhere rfl rfl rfl (by decide +kernel) ⟨Nat.le_of_ble_eq_true rfl, Nat.le_of_ble_eq_true rfl⟩) (gp_preV hKn hG mg_o rfl) rfl rfl hl.1 rfl (lv_room (Nat.le_of_ble_eq_true rfl)) dX12_whereAt_24 ⟨Nat.le_of_ble_eq_true rfl, Nat.le_of_ble_eq_true rfl⟩) hS (fun H locs hG hS => ?_)
    refine lv_iconst (v := 0) hx hb dX12_whereAt_27 (by decide) ?_
    refine lv_istore (lv' := [(5, .int 0), (4, .int o4), (0, .ref h0), (1, .int v1), (2, .int v2), (3, .int v3)]) hx hb dX12_whereAt_28 hl (by decide) rfl (fun ls hl => ?_)
    refine lv_iconst (v := 0) hx hb dX12_whereAt_30 (by decide) ?_
    refine lv_istore (lv' := [(6, .int 0), (5, .int 0), (4, .int o4), (0, .ref h0), (1, .int v1), (2, .int v2), (3, .int v3)]) hx hb dX12_whereAt_31 hl (by decide) rfl (fun ls hl => ?_)
    refine w_X12_whereAt_33 X _ _ _ hf (fun x33_59 hf H locs ls hG hS hl => ?_) (fun x33_71 hf H locs ls hG hS hl => ?_) _ _ _ hG hS (lv_sub hl [3, 6, 1, 0] rfl)
    · refine lv_iload hx hb dX12_whereAt_59 (lv_at hl 0 rfl) ?_
      have hf := Option.some.inj hf
      subst hf
      exact gp_retI hx hb hr hlocks hG hS (Nat.le_refl _) (Nat.le_refl _) dX12_whereAt_61
    · refine lv_iload_n hx hb dX12_whereAt_71 rfl (lv_at hl 0 rfl) ?_
      have hJ72 : ∀ Z : Int32, Z = (if 0 ≤ v3 then (-9 : Int32) else x33_71) → W p l e rm_X12_whereAt s m [.ref h0, .int v1, .int v2, .int v3].toArray below meth c H locs 0 0 (MQ below (gQ D b (some (.int R.1)) M (mg cI h0 R.2.1 a_isWall a_kind a_lampCell a_range a_lit a_scenes a_who a_cell a_minuteOf a_standsAt i_lampMany i_people i_minute a_tape a_letter a_letterAt a_told i_taped i_at i_statements a_kept i_hasImage i_isKeeping i_cursor R.2.2.1 R.2.2.2.1 R.2.2.2.2.1 R.2.2.2.2.2.1 R.2.2.2.2.2.2.1 R.2.2.2.2.2.2.2 a_row i_rowMany g0)) [.ref h0, .int v1, .int v2, .int v3].toArray s 0 0 (gA b)) (F0 m 82 ls (.int Z :: [])) := by
        intro Z hZ
        subst hZ
        have hf := Option.some.inj hf
        subst hf
        exact gp_retI hx hb hr hlocks hG hS (Nat.le_refl _) (Nat.le_refl _) dX12_whereAt_82
      refine lv_if_ge (tgt := 80) hx hb dX12_whereAt_72 (by decide) (fun c72 => ?_) (fun c72 => ?_)
      · rw [if_pos c72] at hJ72
        refine lv_bipush (v := (-9 : Int32)) hx hb dX12_whereAt_80 (by decide) ?_
        exact hJ72 _ rfl
      · rw [if_neg c72] at hJ72
        refine lv_iload hx hb dX12_whereAt_75 (lv_at hl 1 rfl) ?_
        refine lv_goto (tgt := 82) hx hb dX12_whereAt_77 (by decide) ?_
        exact hJ72 _ rfl
  · have hf := gb_f c11 hf
    refine lv_aload_n hx hb dX12_whereAt_14 rfl (lv_at hl 1 rfl) ?_
    refine lv_iload hx hb dX12_whereAt_15 (lv_at hl 0 rfl) ?_
    obtain ⟨o17, hc17, hf⟩ := gb_b hf
    refine gp_callI (va_runV (As := [.int o4]) (rest := []) ⟨hx, hb, hml, hown, hts⟩ (c_X12_no (l := l) (D := D) (b := b) (M := M) (cI := cI) (cL := cL) hc17) (cwV 1 hts gX12_whereAt_X12_no rfl rfl rfl (by decide +kernel) ⟨Nat.le_of_ble_eq_true rfl, Nat.le_of_ble_eq_true rfl⟩) (gp_preV hKn hG mg_o rfl) rfl rfl hl.1 rfl (lv_room (Nat.le_of_ble_eq_true rfl)) dX12_whereAt_17 ⟨Nat.le_of_ble_eq_true rfl, Nat.le_of_ble_eq_true rfl⟩) hS (fun H locs hG hS => ?_)
    have hf := Option.some.inj hf
    subst hf
    exact gp_retI hx hb hr hlocks hG hS (Nat.le_refl _) (Nat.le_refl _) dX12_whereAt_20
-- X12_next
abbrev rm_X12_next : Room := { frames := 5, cells := 0, slots := 0, locals := 117 }
set_option maxHeartbeats 4000000 in
set_option maxRecDepth 100000 in
theorem w_X12_next_34 {α : Type} {R : α} {K59 : Int32 → Option α} (X : gC p s m args meth c cX12_next 10 (some .int) wsX12_next RX12 D b (gTy cI cL)) : ∀ (n : Nat) (v4 : Int32) (v5 : Int32), L_X12_next_34 K59 a_may n v4 v5 = some R → (∀ (x : Int32), K59 x = some R → ∀ (H : Heap) (locs : List Loc) (ls : Array Slot), GP D b M (mg cI h0 a_refused a_isWall a_kind a_lampCell a_range a_lit a_scenes a_who a_cell a_minuteOf a_standsAt i_lampMany i_people i_minute a_tape a_letter a_letterAt a_told i_taped i_at i_statements a_kept i_hasImage i_isKeeping i_cursor a_far a_shut a_queue i_queued a_litBy a_may a_row i_rowMany g0) H → va_S (gA b) s.heap H locs → lv_has ls 10 [(0, .ref h0), (4, .int x)] → W p l e rm_X12_next s m args below meth c H locs 0 0 Q (F0 m 59 ls [])) → ∀ (H : Heap) (locs : List Loc) (ls : Array Slot), GP D b M (mg cI h0 a_refused a_isWall a_kind a_lampCell a_range a_lit a_scenes a_who a_cell a_minuteOf a_standsAt i_lampMany i_people i_minute a_tape a_letter a_letterAt a_told i_taped i_at i_statements a_kept i_hasImage i_isKeeping i_cursor a_far a_shut a_queue i_queued a_litBy a_may a_row i_rowMany g0) H → va_S (gA b) s.heap H locs → lv_has ls 10 [(0, .ref h0), (4, .int v4), (5, .int v5)] → W p l e rm_X12_next s m args below meth c H locs 0 0 Q (F0 m 34 ls []) := by
  obtain ⟨hx, hb, hr, hml, hown, hts, hlocks, hKn, hBs⟩ := id X
  have hK := hKn.1
  have hin : ∀ w ∈ wsX120, w ∈ wsX12_next := fun w h => List.mem_cons_of_mem _ (List.mem_append_right _ h)
  intro n
  induction n with
  | zero =>
    intro v4 v5 hf
    cases hf
  | succ n ih =>
    intro v4 v5 hf hk59 H locs ls hG hS hl
    rw [L_X12_next_34.eq_2] at hf
    refine lv_iload hx hb dX12_next_34 (lv_at hl 2 rfl) ?_
    refine lv_bipush (v := 36) hx hb dX12_next_36 (by decide) ?_
    refine lv_icmp_ge (tgt := 59) hx hb dX12_next_38 (by decide) (fun c38 => ?_) (fun c38 => ?_)
    · have hf := gb_t c38 hf
      exact hk59 _ hf _ _ _ hG hS (lv_sub hl [0, 1] rfl)
    · have hf := gb_f c38 hf
      refine lv_iload hx hb dX12_next_41 (lv_at hl 1 rfl) ?_
      refine lv_aload_n hx hb dX12_next_43 rfl (lv_at hl 0 rfl) ?_
      refine gp_get (v := .ref (h0 + 21)) (C := RX12) (T := TX12) (N := 33) (ci := 10) hx hb hts hin hown hK hG mg_o rfl 30 (by decide) (hts _ (List.mem_of_getElem? (i := 1) rfl)) (fun _ h9 => h9) rfl dX12_next_44 ?_
      refine lv_iload hx hb dX12_next_47 (lv_at hl 2 rfl) ?_
      obtain ⟨b49, hf⟩ := gb_ix hf
      refine gp_iald hx hb hK hG mg_may b49 dX12_next_49 ?_
      refine lv_iadd hx hb dX12_next_50 ?_
      refine lv_istore (lv' := [(4, .int (v4 + (a_may v5.toNatClampNeg))), (0, .ref h0), (5, .int v5)]) hx hb dX12_next_51 hl (by decide) rfl (fun ls hl => ?_)
      refine lv_iinc (v := v5 + 1) (lv' := [(5, .int (v5 + 1)), (4, .int (v4 + (a_may v5.toNatClampNeg))), (0, .ref h0)]) hx hb dX12_next_53 hl (k := 2) rfl rfl (by decide) rfl (fun ls hl => ?_)
      refine lv_goto (tgt := 34) hx hb dX12_next_56 (by decide) ?_
      exact ih _ _ hf hk59 _ _ _ hG hS (lv_sub hl [2, 1, 0] rfl)
set_option maxHeartbeats 4000000 in
set_option maxRecDepth 100000 in
theorem w_X12_next_89 {α : Type} {R : α} {K138 : Int32 → Option α} {v4 : Int32} {v5 : Int32} {v6 : Int32} {v7 : Int32} (X : gC p s m args meth c cX12_next 10 (some .int) wsX12_next RX12 D b (gTy cI cL)) : ∀ (n : Nat) (v8 : Int32) (v9 : Int32), L_X12_next_89 K138 a_litBy a_may v4 v5 v6 v7 n v8 v9 = some R → (∀ (x : Int32), K138 x = some R → ∀ (H : Heap) (locs : List Loc) (ls : Array Slot), GP D b M (mg cI h0 a_refused a_isWall a_kind a_lampCell a_range a_lit a_scenes a_who a_cell a_minuteOf a_standsAt i_lampMany i_people i_minute a_tape a_letter a_letterAt a_told i_taped i_at i_statements a_kept i_hasImage i_isKeeping i_cursor a_far a_shut a_queue i_queued a_litBy a_may a_row i_rowMany g0) H → va_S (gA b) s.heap H locs → lv_has ls 10 [(0, .ref h0), (4, .int v4), (5, .int v5), (6, .int v6), (7, .int v7), (8, .int x)] → W p l e rm_X12_next s m args below meth c H locs 0 0 Q (F0 m 138 ls [])) → ∀ (H : Heap) (locs : List Loc) (ls : Array Slot), GP D b M (mg cI h0 a_refused a_isWall a_kind a_lampCell a_range a_lit a_scenes a_who a_cell a_minuteOf a_standsAt i_lampMany i_people i_minute a_tape a_letter a_letterAt a_told i_taped i_at i_statements a_kept i_hasImage i_isKeeping i_cursor a_far a_shut a_queue i_queued a_litBy a_may a_row i_rowMany g0) H → va_S (gA b) s.heap H locs → lv_has ls 10 [(0, .ref h0), (4, .int v4), (5, .int v5), (6, .int v6), (7, .int v7), (8, .int v8), (9, .int v9)] → W p l e rm_X12_next s m args below meth c H locs 0 0 Q (F0 m 89 ls []) := by
  obtain ⟨hx, hb, hr, hml, hown, hts, hlocks, hKn, hBs⟩ := id X
  have hK := hKn.1
  have hin : ∀ w ∈ wsX120, w ∈ wsX12_next := fun w h => List.mem_cons_of_mem _ (List.mem_append_right _ h)
  intro n
  induction n with
  | zero =>
    intro v8 v9 hf
    cases hf
  | succ n ih =>
    intro v8 v9 hf hk138 H locs ls hG hS hl
    rw [L_X12_next_89.eq_2] at hf
    refine lv_iload hx hb dX12_next_89 (lv_at hl 6 rfl) ?_
    refine lv_bipush (v := 36) hx hb dX12_next_91 (by decide) ?_
    refine lv_icmp_ge (tgt := 138) hx hb dX12_next_93 (by decide) (fun c93 => ?_) (fun c93 => ?_)
    · have hf := gb_t c93 hf
      exact hk138 _ hf _ _ _ hG hS (lv_sub hl [0, 1, 2, 3, 4, 5] rfl)
    · have hf := gb_f c93 hf
      refine lv_iload hx hb dX12_next_96 (lv_at hl 5 rfl) ?_
      refine lv_aload_n hx hb dX12_next_98 rfl (lv_at hl 0 rfl) ?_
      refine gp_get (v := .ref (h0 + 21)) (C := RX12) (T := TX12) (N := 33) (ci := 10) hx hb hts hin hown hK hG mg_o rfl 30 (by decide) (hts _ (List.mem_of_getElem? (i := 1) rfl)) (fun _ h9 => h9) rfl dX12_next_99 ?_
      refine lv_iload hx hb dX12_next_102 (lv_at hl 6 rfl) ?_
      obtain ⟨b104, hf⟩ := gb_ix hf
      refine gp_iald hx hb hK hG mg_may b104 dX12_next_104 ?_
      refine lv_iconst (v := 1) hx hb dX12_next_105 (by decide) ?_
      obtain ⟨j106, hj106, hf⟩ := gb_b hf
      have hJ106 : ∀ (H : Heap) (locs : List Loc) (ls : Array Slot), GP D b M (mg cI h0 a_refused a_isWall a_kind a_lampCell a_range a_lit a_scenes a_who a_cell a_minuteOf a_standsAt i_lampMany i_people i_minute a_tape a_letter a_letterAt a_told i_taped i_at i_statements a_kept i_hasImage i_isKeeping i_cursor a_far a_shut a_queue i_queued a_litBy a_may a_row i_rowMany g0) H → va_S (gA b) s.heap H locs → lv_has ls 10 [(0, .ref h0), (4, .int v4), (5, .int v5), (6, .int v6), (7, .int v7), (9, .int v9)] → W p l e rm_X12_next s m args below meth c H locs 0 0 Q (F0 m 129 ls [.int j106, .int v8]) := by
        intro H locs ls hG hS hl
        refine lv_iadd hx hb dX12_next_129 ?_
        refine lv_istore (lv' := [(8, .int (v8 + j106)), (0, .ref h0), (4, .int v4), (5, .int v5), (6, .int v6), (7, .int v7), (9, .int v9)]) hx hb dX12_next_130 hl (by decide) rfl (fun ls hl => ?_)
        refine lv_iinc (v := v9 + 1) (lv' := [(9, .int (v9 + 1)), (8, .int (v8 + j106)), (0, .ref h0), (4, .int v4), (5, .int v5), (6, .int v6), (7, .int v7)]) hx hb dX12_next_132 hl (k := 6) rfl rfl (by decide) rfl (fun ls hl => ?_)
        refine lv_goto (tgt := 89) hx hb dX12_next_135 (by decide) ?_
        exact ih _ _ hf hk138 _ _ _ hG hS (lv_sub hl [2, 3, 4, 5, 6, 1, 0] rfl)
      refine lv_icmp_ne (tgt := 128) hx hb dX12_next_106 (by decide) (fun c106 => ?_) (fun c106 => ?_)
      · have hj106 := gb_f c106 hj106
        refine lv_iconst (v := 0) hx hb dX12_next_128 (by decide) ?_
        have hj106 := Option.some.inj hj106
        subst hj106
        exact hJ106 H locs ls hG hS (lv_sub hl [0, 1, 2, 3, 4, 6] rfl)
      · have hj106 := gb_t c106 hj106
        refine lv_aload_n hx hb dX12_next_109 rfl (lv_at hl 0 rfl) ?_
        refine gp_get (v := .ref (h0 + 20)) (C := RX12) (T := TX12) (N := 33) (ci := 10) hx hb hts hin hown hK hG mg_o rfl 29 (by decide) (hts _ (List.mem_of_getElem? (i := 3) rfl)) (fun _ h9 => h9) rfl dX12_next_110 ?_
        refine lv_iload hx hb dX12_next_113 (lv_at hl 6 rfl) ?_
        obtain ⟨b115, hj106⟩ := gb_ix hj106
        refine gp_iald hx hb hK hG mg_litBy b115 dX12_next_115 ?_
        refine lv_iload hx hb dX12_next_116 (lv_at hl 4 rfl) ?_
        obtain ⟨o118, hc118, hj106⟩ := gb_b hj106
        refine gp_callI (va_runS (As := [.int (a_litBy v9.toNatClampNeg), .int v7]) (rest := [.int v8]) ⟨hx, hb, hml, hown, hts⟩ (c_X12_has (l := l) (D := D) (b := b) (M := M) (cI := cI) (cL := cL) hc118) (va_cwS 2 hts gX12_next_X12_has rfl rfl rfl (by decide +kernel) ⟨Nat.le_of_ble_eq_true rfl, Nat.le_of_ble_eq_true rfl⟩) (gp_preS hKn hG) rfl rfl hl.1 rfl (lv_room (Nat.le_of_ble_eq_true rfl)) dX12_next_118 ⟨Nat.le_of_ble_eq_true rfl, Nat.le_of_ble_eq_true rfl⟩) hS (fun H locs hG hS => ?_)
        refine lv_if_eq (tgt := 128) hx hb dX12_next_121 (by decide) (fun c121 => ?_) (fun c121 => ?_)
        · have hj106 := gb_t c121 hj106
          refine lv_iconst (v := 0) hx hb dX12_next_128 (by decide) ?_
          have hj106 := Option.some.inj hj106
          subst hj106
          exact hJ106 H locs ls hG hS (lv_sub hl [0, 1, 2, 3, 4, 6] rfl)
        · have hj106 := gb_f c121 hj106
          refine lv_iconst (v := 1) hx hb dX12_next_124 (by decide) ?_
          refine lv_goto (tgt := 129) hx hb dX12_next_125 (by decide) ?_
          have hj106 := Option.some.inj hj106
          subst hj106
          exact hJ106 H locs ls hG hS (lv_sub hl [0, 1, 2, 3, 4, 6] rfl)
set_option maxHeartbeats 4000000 in
set_option maxRecDepth 100000 in
theorem w_X12_next_69 {α : Type} {R : α} {K184 : Int32 → Option α} {v4 : Int32} (X : gC p s m args meth c cX12_next 10 (some .int) wsX12_next RX12 D b (gTy cI cL)) : ∀ (n : Nat) (v5 : Int32) (v6 : Int32) (v7 : Int32), L_X12_next_69 K184 i_lampMany a_litBy a_may v4 n v5 v6 v7 = some R → (∀ (x : Int32), K184 x = some R → ∀ (H : Heap) (locs : List Loc) (ls : Array Slot), GP D b M (mg cI h0 a_refused a_isWall a_kind a_lampCell a_range a_lit a_scenes a_who a_cell a_minuteOf a_standsAt i_lampMany i_people i_minute a_tape a_letter a_letterAt a_told i_taped i_at i_statements a_kept i_hasImage i_isKeeping i_cursor a_far a_shut a_queue i_queued a_litBy a_may a_row i_rowMany g0) H → va_S (gA b) s.heap H locs → lv_has ls 10 [(5, .int x)] → W p l e rm_X12_next s m args below meth c H locs 0 0 Q (F0 m 184 ls [])) → ∀ (H : Heap) (locs : List Loc) (ls : Array Slot), GP D b M (mg cI h0 a_refused a_isWall a_kind a_lampCell a_range a_lit a_scenes a_who a_cell a_minuteOf a_standsAt i_lampMany i_people i_minute a_tape a_letter a_letterAt a_told i_taped i_at i_statements a_kept i_hasImage i_isKeeping i_cursor a_far a_shut a_queue i_queued a_litBy a_may a_row i_rowMany g0) H → va_S (gA b) s.heap H locs → lv_has ls 10 [(0, .ref h0), (4, .int v4), (5, .int v5), (6, .int v6), (7, .int v7)] → W p l e rm_X12_next s m args below meth c H locs 0 0 Q (F0 m 69 ls []) := by
  obtain ⟨hx, hb, hr, hml, hown, hts, hlocks, hKn, hBs⟩ := id X
  have hK := hKn.1
  have hin : ∀ w ∈ wsX120, w ∈ wsX12_next := fun w h => List.mem_cons_of_mem _ (List.mem_append_right _ h)
  intro n
  induction n with
  | zero =>
    intro v5 v6 v7 hf
    cases hf
  | succ n ih =>
    intro v5 v6 v7 hf hk184 H locs ls hG hS hl
    rw [L_X12_next_69.eq_2] at hf
    refine lv_iload hx hb dX12_next_69 (lv_at hl 4 rfl) ?_
    refine lv_aload_n hx hb dX12_next_71 rfl (lv_at hl 0 rfl) ?_
    refine gp_get (v := .int i_lampMany) (C := RX12) (T := TX12) (N := 33) (ci := 10) hx hb hts hin hown hK hG mg_o rfl 11 (by decide) (hts _ (List.mem_of_getElem? (i := 2) rfl)) (fun _ h9 => h9) rfl dX12_next_72 ?_
    refine lv_icmp_ge (tgt := 184) hx hb dX12_next_75 (by decide) (fun c75 => ?_) (fun c75 => ?_)
    · have hf := gb_t c75 hf
      exact hk184 _ hf _ _ _ hG hS (lv_sub hl [2] rfl)
    · have hf := gb_f c75 hf
      refine lv_iload hx hb dX12_next_78 (lv_at hl 1 rfl) ?_
      refine lv_if_le (tgt := 184) hx hb dX12_next_80 (by decide) (fun c80 => ?_) (fun c80 => ?_)
      · have hf := gb_t c80 hf
        exact hk184 _ hf _ _ _ hG hS (lv_sub hl [2] rfl)
      · have hf := gb_f c80 hf
        refine lv_iconst (v := 0) hx hb dX12_next_83 (by decide) ?_
        refine lv_istore (lv' := [(8, .int 0), (0, .ref h0), (4, .int v4), (5, .int v5), (6, .int v6), (7, .int v7)]) hx hb dX12_next_84 hl (by decide) rfl (fun ls hl => ?_)
        refine lv_iconst (v := 0) hx hb dX12_next_86 (by decide) ?_
        refine lv_istore (lv' := [(9, .int 0), (8, .int 0), (0, .ref h0), (4, .int v4), (5, .int v5), (6, .int v6), (7, .int v7)]) hx hb dX12_next_87 hl (by decide) rfl (fun ls hl => ?_)
        refine w_X12_next_89 X _ _ _ hf (fun x89_138 hf H locs ls hG hS hl => ?_) _ _ _ hG hS (lv_sub hl [2, 3, 4, 5, 6, 1, 0] rfl)
        · refine lv_iload hx hb dX12_next_138 (lv_at hl 5 rfl) ?_
          refine lv_iload hx hb dX12_next_140 (lv_at hl 1 rfl) ?_
          refine lv_iload hx hb dX12_next_142 (lv_at hl 5 rfl) ?_
          refine lv_isub hx hb dX12_next_144 ?_
          have hJ145 : ∀ Z : Int32, Z = (if (v4 - x89_138) ≤ x89_138 then v4 - x89_138 else x89_138) → W p l e rm_X12_next s m args below meth c H locs 0 0 Q (F0 m 158 ls (.int Z :: [])) := by
            intro Z hZ
            subst hZ
            refine lv_istore (lv' := [(8, .int (if (v4 - x89_138) ≤ x89_138 then v4 - x89_138 else x89_138)), (0, .ref h0), (4, .int v4), (5, .int v5), (6, .int v6), (7, .int v7)]) hx hb dX12_next_158 hl (by decide) rfl (fun ls hl => ?_)
            refine lv_iload hx hb dX12_next_160 (lv_at hl 0 rfl) ?_
            refine lv_iload hx hb dX12_next_162 (lv_at hl 4 rfl) ?_
            obtain ⟨j164, hj164, hf⟩ := gb_b hf
            have hJ164 : ∀ (H : Heap) (locs : List Loc) (ls : Array Slot), GP D b M (mg cI h0 a_refused a_isWall a_kind a_lampCell a_range a_lit a_scenes a_who a_cell a_minuteOf a_standsAt i_lampMany i_people i_minute a_tape a_letter a_letterAt a_told i_taped i_at i_statements a_kept i_hasImage i_isKeeping i_cursor a_far a_shut a_queue i_queued a_litBy a_may a_row i_rowMany g0) H → va_S (gA b) s.heap H locs → lv_has ls 10 [(0, .ref h0), (4, .int v4), (5, .int j164.1), (6, .int j164.2), (7, .int v7)] → W p l e rm_X12_next s m args below meth c H locs 0 0 Q (F0 m 178 ls []) := by
              intro H locs ls hG hS hl
              refine lv_iinc (v := v7 + 1) (lv' := [(7, .int (v7 + 1)), (0, .ref h0), (4, .int v4), (5, .int j164.1), (6, .int j164.2)]) hx hb dX12_next_178 hl (k := 4) rfl rfl (by decide) rfl (fun ls hl => ?_)
              refine lv_goto (tgt := 69) hx hb dX12_next_181 (by decide) ?_
              exact ih _ _ _ hf hk184 _ _ _ hG hS (lv_sub hl [1, 2, 3, 4, 0] rfl)
            refine lv_icmp_gt (tgt := 170) hx hb dX12_next_164 (by decide) (fun c164 => ?_) (fun c164 => ?_)
            · have hj164 := gb_t c164 hj164
              refine lv_iload hx hb dX12_next_170 (lv_at hl 5 rfl) ?_
              refine lv_istore (lv' := [(5, .int v7), (8, .int (if (v4 - x89_138) ≤ x89_138 then v4 - x89_138 else x89_138)), (0, .ref h0), (4, .int v4), (6, .int v6), (7, .int v7)]) hx hb dX12_next_172 hl (by decide) rfl (fun ls hl => ?_)
              refine lv_iload hx hb dX12_next_174 (lv_at hl 1 rfl) ?_
              refine lv_istore (lv' := [(6, .int (if (v4 - x89_138) ≤ x89_138 then v4 - x89_138 else x89_138)), (5, .int v7), (8, .int (if (v4 - x89_138) ≤ x89_138 then v4 - x89_138 else x89_138)), (0, .ref h0), (4, .int v4), (7, .int v7)]) hx hb dX12_next_176 hl (by decide) rfl (fun ls hl => ?_)
              have hj164 := Option.some.inj hj164
              subst hj164
              exact hJ164 H locs ls hG hS (lv_sub hl [3, 4, 1, 0, 5] rfl)
            · have hj164 := gb_f c164 hj164
              refine lv_goto (tgt := 178) hx hb dX12_next_167 (by decide) ?_
              have hj164 := Option.some.inj hj164
              subst hj164
              exact hJ164 H locs ls hG hS (lv_sub hl [1, 2, 3, 4, 5] rfl)
          refine lv_icmp_ge (tgt := 153) hx hb dX12_next_145 (by decide) (fun c145 => ?_) (fun c145 => ?_)
          · rw [if_pos c145] at hJ145
            refine lv_iload hx hb dX12_next_153 (lv_at hl 1 rfl) ?_
            refine lv_iload hx hb dX12_next_155 (lv_at hl 5 rfl) ?_
            refine lv_isub hx hb dX12_next_157 ?_
            exact hJ145 _ rfl
          · rw [if_neg c145] at hJ145
            refine lv_iload hx hb dX12_next_148 (lv_at hl 5 rfl) ?_
            refine lv_goto (tgt := 158) hx hb dX12_next_150 (by decide) ?_
            exact hJ145 _ rfl
set_option maxHeartbeats 4000000 in
set_option maxRecDepth 100000 in
theorem c_X12_next {v1 : Int32} {v2 : Int32} {R : Int32 × (Nat → Int32) × (Nat → Int32) × (Nat → Int32) × (Nat → Int32) × Int32 × (Nat → Int32) × (Nat → Int32)} (hf : f_X12_next a_refused a_isWall a_kind a_lampCell a_range a_lit a_scenes a_who a_cell a_minuteOf a_standsAt i_lampMany i_people a_far a_shut a_queue i_queued a_litBy a_may v1 v2 = some R) : Met l yX12_next wsX12_next rm_X12_next (va_Pc [.ref h0, .int v1, .int v2] (gPre D b M (mg cI h0 a_refused a_isWall a_kind a_lampCell a_range a_lit a_scenes a_who a_cell a_minuteOf a_standsAt i_lampMany i_people i_minute a_tape a_letter a_letterAt a_told i_taped i_at i_statements a_kept i_hasImage i_isKeeping i_cursor a_far a_shut a_queue i_queued a_litBy a_may a_row i_rowMany g0) (gTy cI cL))) (gQ D b (some (.int R.1)) M (mg cI h0 R.2.1 a_isWall a_kind a_lampCell a_range a_lit a_scenes a_who a_cell a_minuteOf a_standsAt i_lampMany i_people i_minute a_tape a_letter a_letterAt a_told i_taped i_at i_statements a_kept i_hasImage i_isKeeping i_cursor R.2.2.1 R.2.2.2.1 R.2.2.2.2.1 R.2.2.2.2.2.1 R.2.2.2.2.2.2.1 R.2.2.2.2.2.2.2 a_row i_rowMany g0)) 0 0 (gA b) := by
  refine gp_met (cc := cX12_next) (maxL := 10) (ret := (some .int)) (by decide) rfl (Nat.le_of_ble_eq_true rfl) ?_
  intro p e s m below meth c X ls hG hl
  have hS : va_S (gA b) s.heap s.heap [] := va_S.rf
  obtain ⟨H, hH0⟩ : ∃ H : Heap, H = s.heap := ⟨_, rfl⟩
  rw [← hH0] at hG ⊢
  have hS : va_S (gA b) s.heap H [] := by rw [hH0]; exact va_S.rf
  obtain ⟨locs, hlo⟩ : ∃ z : List Loc, z = [] := ⟨_, rfl⟩
  rw [← hlo] at hS ⊢
  unfold f_X12_next at hf
  obtain ⟨hx, hb, hr, hml, hown, hts, hlocks, hKn, hBs⟩ := id X
  have hK := hKn.1
  have hin : ∀ w ∈ wsX120, w ∈ wsX12_next := fun w h => List.mem_cons_of_mem _ (List.mem_append_right _ h)
  have hl : lv_has ls 10 [(0, .ref h0), (1, .int v1), (2, .int v2)] := hl
  refine lv_aload_n hx hb dX12_next_0 rfl (lv_at hl 0 rfl) ?_
  refine lv_iload_n hx hb dX12_next_1 rfl (lv_at hl 1 rfl) ?_
  refine lv_iload_n hx hb dX12_next_2 rfl (lv_at hl 2 rfl) ?_
  refine lv_iconst (v := 0) hx hb dX12_next_3 (by decide) ?_
  obtain ⟨o4, hc4, hf⟩ := gb_b hf
  refine gp_callI (va_runV (As := [.int v1, .int v2, .int 0]) (rest := []) ⟨hx, hb, hml, hown, hts⟩ (c_X12_notWhere (l := l) (D := D) (b := b) (M := M) (cI := cI) (cL := cL) hc4) (cwV 3 hts gX12_next_X12_notWhere rfl rfl rfl (by decide +kernel) ⟨Nat.le_of_ble_eq_true rfl, Nat.le_of_ble_eq_true rfl⟩) (gp_preV hKn hG mg_o rfl) rfl rfl hl.1 rfl (lv_room (Nat.le_of_ble_eq_true rfl)) dX12_next_4 ⟨Nat.le_of_ble_eq_true rfl, Nat.le_of_ble_eq_true rfl⟩) hS (fun H locs hG hS => ?_)
  refine lv_istore_n (lv' := [(3, .int o4), (0, .ref h0), (1, .int v1), (2, .int v2)]) hx hb dX12_next_7 rfl hl (by decide) rfl (fun ls hl => ?_)
  refine lv_iload_n hx hb dX12_next_8 rfl (lv_at hl 0 rfl) ?_
  refine lv_if_eq (tgt := 18) hx hb dX12_next_9 (by decide) (fun c9 => ?_) (fun c9 => ?_)
  · have hf := gb_t c9 hf
    refine lv_aload_n hx hb dX12_next_18 rfl (lv_at hl 1 rfl) ?_
    refine lv_iload_n hx hb dX12_next_19 rfl (lv_at hl 2 rfl) ?_
    refine lv_iload_n hx hb dX12_next_20 rfl (lv_at hl 3 rfl) ?_
    obtain ⟨o21, hc21, hf⟩ := gb_b hf
    refine gp_callV (va_runV (As := [.int v1, .int v2]) (rest := []) ⟨hx, hb, hml, hown, hts⟩ (c_X12_findWhere (l := l) (D := D) (b := b) (M := M) (cI := cI) (cL := cL) hc21) (cwV 2 hts gX12_next_X12_findWhere rfl rfl rfl (by decide +kernel) ⟨Nat.le_of_ble_eq_true rfl, Nat.le_of_ble_eq_true rfl⟩) (gp_preV hKn hG mg_o rfl) rfl rfl hl.1 rfl (lv_room (Nat.le_of_ble_eq_true rfl)) dX12_next_21 ⟨Nat.le_of_ble_eq_true rfl, Nat.le_of_ble_eq_true rfl⟩) hS (fun H locs hG hS => ?_)
    refine lv_aload_n hx hb dX12_next_24 rfl (lv_at hl 1 rfl) ?_
    obtain ⟨o25, hc25, hf⟩ := gb_b hf
    refine gp_callV (va_runV (As := []) (rest := []) ⟨hx, hb, hml, hown, hts⟩ (c_X12_findLit (l := l) (D := D) (b := b) (M := M) (cI := cI) (cL := cL) hc25) (cwV 0 hts gX12_next_X12_findLit rfl rfl rfl (by decide +kernel) ⟨Nat.le_of_ble_eq_true rfl, Nat.le_of_ble_eq_true rfl⟩) (gp_preV hKn hG mg_o rfl) rfl rfl hl.1 rfl (lv_room (Nat.le_of_ble_eq_true rfl)) dX12_next_25 ⟨Nat.le_of_ble_eq_true rfl, Nat.le_of_ble_eq_true rfl⟩) hS (fun H locs hG hS => ?_)
    refine lv_iconst (v := 0) hx hb dX12_next_28 (by decide) ?_
    refine lv_istore (lv' := [(4, .int 0), (3, .int o4), (0, .ref h0), (1, .int v1), (2, .int v2)]) hx hb dX12_next_29 hl (by decide) rfl (fun ls hl => ?_)
    refine lv_iconst (v := 0) hx hb dX12_next_31 (by decide) ?_
    refine lv_istore (lv' := [(5, .int 0), (4, .int 0), (3, .int o4), (0, .ref h0), (1, .int v1), (2, .int v2)]) hx hb dX12_next_32 hl (by decide) rfl (fun ls hl => ?_)
    refine w_X12_next_34 X _ _ _ hf (fun x34_59 hf H locs ls hG hS hl => ?_) _ _ _ hG hS (lv_sub hl [3, 1, 0] rfl)
    · refine lv_bipush (v := (-9 : Int32)) hx hb dX12_next_59 (by decide) ?_
      refine lv_istore (lv' := [(5, .int (-9 : Int32)), (0, .ref h0), (4, .int x34_59)]) hx hb dX12_next_61 hl (by decide) rfl (fun ls hl => ?_)
      refine lv_iconst (v := (-1 : Int32)) hx hb dX12_next_63 (by decide) ?_
      refine lv_istore (lv' := [(6, .int (-1 : Int32)), (5, .int (-9 : Int32)), (0, .ref h0), (4, .int x34_59)]) hx hb dX12_next_64 hl (by decide) rfl (fun ls hl => ?_)
      refine lv_iconst (v := 0) hx hb dX12_next_66 (by decide) ?_
      refine lv_istore (lv' := [(7, .int 0), (6, .int (-1 : Int32)), (5, .int (-9 : Int32)), (0, .ref h0), (4, .int x34_59)]) hx hb dX12_next_67 hl (by decide) rfl (fun ls hl => ?_)
      refine w_X12_next_69 X _ _ _ _ hf (fun x69_184 hf H locs ls hG hS hl => ?_) _ _ _ hG hS (lv_sub hl [3, 4, 2, 1, 0] rfl)
      · refine lv_iload hx hb dX12_next_184 (lv_at hl 0 rfl) ?_
        have hf := Option.some.inj hf
        subst hf
        exact gp_retI hx hb hr hlocks hG hS (Nat.le_refl _) (Nat.le_refl _) dX12_next_186
  · have hf := gb_f c9 hf
    refine lv_aload_n hx hb dX12_next_12 rfl (lv_at hl 1 rfl) ?_
    refine lv_iload_n hx hb dX12_next_13 rfl (lv_at hl 0 rfl) ?_
    obtain ⟨o14, hc14, hf⟩ := gb_b hf
    refine gp_callI (va_runV (As := [.int o4]) (rest := []) ⟨hx, hb, hml, hown, hts⟩ (c_X12_no (l := l) (D := D) (b := b) (M := M) (cI := cI) (cL := cL) hc14) (cwV 1 hts gX12_next_X12_no rfl rfl rfl (by decide +kernel) ⟨Nat.le_of_ble_eq_true rfl, Nat.le_of_ble_eq_true rfl⟩) (gp_preV hKn hG mg_o rfl) rfl rfl hl.1 rfl (lv_room (Nat.le_of_ble_eq_true rfl)) dX12_next_14 ⟨Nat.le_of_ble_eq_true rfl, Nat.le_of_ble_eq_true rfl⟩) hS (fun H locs hG hS => ?_)
    have hf := Option.some.inj hf
    subst hf
    exact gp_retI hx hb hr hlocks hG hS (Nat.le_refl _) (Nat.le_refl _) dX12_next_17
end
