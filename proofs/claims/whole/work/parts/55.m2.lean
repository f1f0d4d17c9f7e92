section
variable {p : Program} {l : Launch} {e : Env} {s : State} {m : MethodId} {args : Array Value} {below : List Frame} {meth : Method} {c : Code} {D : va_G} {b : GB} {M : Nat} {cI cL : ClassId} {h0 : Nat} {g0 gh : Nat → va_E} {Q : State → Prop}
variable {a_refused : Nat → Int32} {a_isWall : Nat → Int32} {a_kind : Nat → Int32} {a_lampCell : Nat → Int32} {a_range : Nat → Int32} {a_lit : Nat → Int32} {a_scenes : Nat → Int32} {a_who : Nat → Int32} {a_cell : Nat → Int32} {a_minuteOf : Nat → Int32} {a_standsAt : Nat → Int32} {i_lampMany : Int32} {i_people : Int32} {i_minute : Int32} {a_tape : Nat → Int32} {a_letter : Nat → Int32} {a_letterAt : Nat → Int32} {a_told : Nat → Int32} {i_taped : Int32} {i_at : Int32} {i_statements : Int32} {a_kept : Nat → Int32} {i_hasImage : Int32} {i_isKeeping : Int32} {i_cursor : Int32} {a_far : Nat → Int32} {a_shut : Nat → Int32} {a_queue : Nat → Int32} {i_queued : Int32} {a_litBy : Nat → Int32} {a_may : Nat → Int32} {a_row : Nat → Int32} {i_rowMany : Int32}
-- X12_notPerson
abbrev rm_X12_notPerson : Room := { frames := 1, cells := 0, slots := 0, locals := 20 }
set_option maxHeartbeats 4000000 in
set_option maxRecDepth 100000 in
theorem c_X12_notPerson {v1 : Int32} {R : Int32} (hf : f_X12_notPerson a_isWall i_people v1 = some R) : Met l yX12_notPerson wsX12_notPerson rm_X12_notPerson (va_Pc [.ref h0, .int v1] (gPre D b M (mg cI h0 a_refused a_isWall a_kind a_lampCell a_range a_lit a_scenes a_who a_cell a_minuteOf a_standsAt i_lampMany i_people i_minute a_tape a_letter a_letterAt a_told i_taped i_at i_statements a_kept i_hasImage i_isKeeping i_cursor a_far a_shut a_queue i_queued a_litBy a_may a_row i_rowMany g0) (gTy cI cL))) (gQ D b (some (.int R)) M (mg cI h0 a_refused a_isWall a_kind a_lampCell a_range a_lit a_scenes a_who a_cell a_minuteOf a_standsAt i_lampMany i_people i_minute a_tape a_letter a_letterAt a_told i_taped i_at i_statements a_kept i_hasImage i_isKeeping i_cursor a_far a_shut a_queue i_queued a_litBy a_may a_row i_rowMany g0)) 0 0 (gA b) := by
  refine gp_met (cc := cX12_notPerson) (maxL := 2) (ret := (some .int)) (by decide) rfl (Nat.le_of_ble_eq_true rfl) ?_
  intro p e s m below meth c X ls hG hl
  have hS : va_S (gA b) s.heap s.heap [] := va_S.rf
  obtain ⟨H, hH0⟩ : ∃ H : Heap, H = s.heap := ⟨_, rfl⟩
  rw [← hH0] at hG ⊢
  have hS : va_S (gA b) s.heap H [] := by rw [hH0]; exact va_S.rf
  obtain ⟨locs, hlo⟩ : ∃ z : List Loc, z = [] := ⟨_, rfl⟩
  rw [← hlo] at hS ⊢
  unfold f_X12_notPerson at hf
  obtain ⟨hx, hb, hr, hml, hown, hts, hlocks, hKn, hBs⟩ := id X
  have hK := hKn.1
  have hin : ∀ w ∈ wsX120, w ∈ wsX12_notPerson := fun w h => List.mem_cons_of_mem _ (List.mem_append_right _ h)
  have hl : lv_has ls 2 [(0, .ref h0), (1, .int v1)] := hl
  refine lv_iload_n hx hb dX12_notPerson_0 rfl (lv_at hl 1 rfl) ?_
  obtain ⟨o1, hc1, hf⟩ := gb_b hf
  refine gp_callI (va_runS (As := [.int v1]) (rest := []) ⟨hx, hb, hml, hown, hts⟩ (c_X12_isCell (l := l) (D := D) (b := b) (M := M) (cI := cI) (cL := cL) hc1) (va_cwS 1 hts gX12_notPerson_X12_isCell rfl rfl rfl (by decide +kernel) ⟨Nat.le_of_ble_eq_true rfl, Nat.le_of_ble_eq_true rfl⟩) (gp_preS hKn hG) rfl rfl hl.1 rfl (lv_room (Nat.le_of_ble_eq_true rfl)) dX12_notPerson_1 ⟨Nat.le_of_ble_eq_true rfl, Nat.le_of_ble_eq_true rfl⟩) hS (fun H locs hG hS => ?_)
  obtain ⟨j4, hj4, hf⟩ := gb_b hf
  have hJ4 : ∀ (H : Heap) (locs : List Loc) (ls : Array Slot), GP D b M (mg cI h0 a_refused a_isWall a_kind a_lampCell a_range a_lit a_scenes a_who a_cell a_minuteOf a_standsAt i_lampMany i_people i_minute a_tape a_letter a_letterAt a_told i_taped i_at i_statements a_kept i_hasImage i_isKeeping i_cursor a_far a_shut a_queue i_queued a_litBy a_may a_row i_rowMany g0) H → va_S (gA b) s.heap H locs → lv_has ls 2 [] → W p l e rm_X12_notPerson s m [.ref h0, .int v1].toArray below meth c H locs 0 0 (MQ below (gQ D b (some (.int R)) M (mg cI h0 a_refused a_isWall a_kind a_lampCell a_range a_lit a_scenes a_who a_cell a_minuteOf a_standsAt i_lampMany i_people i_minute a_tape a_letter a_letterAt a_told i_taped i_at i_statements a_kept i_hasImage i_isKeeping i_cursor a_far a_shut a_queue i_queued a_litBy a_may a_row i_rowMany g0)) [.ref h0, .int v1].toArray s 0 0 (gA b)) (F0 m 40 ls [.int j4]) := by
    intro H locs ls hG hS hl
    have hf := Option.some.inj hf
    subst hf
    exact gp_retI hx hb hr hlocks hG hS (Nat.le_refl _) (Nat.le_refl _) dX12_notPerson_40
  refine lv_if_ne (tgt := 11) hx hb dX12_notPerson_4 (by decide) (fun c4 => ?_) (fun c4 => ?_)
  · have hj4 := gb_f c4 hj4
    refine lv_aload_n hx hb dX12_notPerson_11 rfl (lv_at hl 0 rfl) ?_
    refine gp_get (v := .ref (h0 + 2)) (C := RX12) (T := TX12) (N := 33) (ci := 10) hx hb hts hin hown hK hG mg_o rfl 1 (by decide) (hts _ (List.mem_of_getElem? (i := 1) rfl)) (fun _ h9 => h9) rfl dX12_notPerson_12 ?_
    refine lv_iload_n hx hb dX12_notPerson_15 rfl (lv_at hl 1 rfl) ?_
    obtain ⟨b16, hj4⟩ := gb_ix hj4
    refine gp_iald hx hb hK hG mg_isWall b16 dX12_notPerson_16 ?_
    refine lv_iconst (v := 1) hx hb dX12_notPerson_17 (by decide) ?_
    refine lv_icmp_ne (tgt := 26) hx hb dX12_notPerson_18 (by decide) (fun c18 => ?_) (fun c18 => ?_)
    · have hj4 := gb_f c18 hj4
      refine lv_aload_n hx hb dX12_notPerson_26 rfl (lv_at hl 0 rfl) ?_
      refine gp_get (v := .int i_people) (C := RX12) (T := TX12) (N := 33) (ci := 10) hx hb hts hin hown hK hG mg_o rfl 12 (by decide) (hts _ (List.mem_of_getElem? (i := 2) rfl)) (fun _ h9 => h9) rfl dX12_notPerson_27 ?_
      refine lv_iconst (v := 4) hx hb dX12_notPerson_30 (by decide) ?_
      refine lv_icmp_ne (tgt := 39) hx hb dX12_notPerson_31 (by decide) (fun c31 => ?_) (fun c31 => ?_)
      · have hj4 := gb_f c31 hj4
        refine lv_iconst (v := 0) hx hb dX12_notPerson_39 (by decide) ?_
        have hj4 := Option.some.inj hj4
        subst hj4
        exact hJ4 H locs ls hG hS (lv_sub hl [] rfl)
      · have hj4 := gb_t c31 hj4
        refine lv_bipush (v := (-6 : Int32)) hx hb dX12_notPerson_34 (by decide) ?_
        refine lv_goto (tgt := 40) hx hb dX12_notPerson_36 (by decide) ?_
        have hj4 := Option.some.inj hj4
        subst hj4
        exact hJ4 H locs ls hG hS (lv_sub hl [] rfl)
    · have hj4 := gb_t c18 hj4
      refine lv_bipush (v := (-3 : Int32)) hx hb dX12_notPerson_21 (by decide) ?_
      refine lv_goto (tgt := 40) hx hb dX12_notPerson_23 (by decide) ?_
      have hj4 := Option.some.inj hj4
      subst hj4
      exact hJ4 H locs ls hG hS (lv_sub hl [] rfl)
  · have hj4 := gb_t c4 hj4
    refine lv_iconst (v := (-1 : Int32)) hx hb dX12_notPerson_7 (by decide) ?_
    refine lv_goto (tgt := 40) hx hb dX12_notPerson_8 (by decide) ?_
    have hj4 := Option.some.inj hj4
    subst hj4
    exact hJ4 H locs ls hG hS (lv_sub hl [] rfl)
-- X12_beside
abbrev rm_X12_beside : Room := { frames := 0, cells := 0, slots := 0, locals := 0 }
set_option maxHeartbeats 4000000 in
set_option maxRecDepth 100000 in
theorem c_X12_beside {v0 : Int32} {v1 : Int32} {R : Int32} (hf : f_X12_beside v0 v1 = some R) : Met l yX12_beside wsX12_beside rm_X12_beside (va_Pc [.int v0, .int v1] (gPre D b M (gh) (gTy cI cL))) (gQ D b (some (.int R)) M (gh)) 0 0 (gA b) := by
  refine gp_met (cc := cX12_beside) (maxL := 2) (ret := (some .int)) (by decide) rfl (Nat.le_of_ble_eq_true rfl) ?_
  intro p e s m below meth c X ls hG hl
  have hS : va_S (gA b) s.heap s.heap [] := va_S.rf
  obtain ⟨H, hH0⟩ : ∃ H : Heap, H = s.heap := ⟨_, rfl⟩
  rw [← hH0] at hG ⊢
  have hS : va_S (gA b) s.heap H [] := by rw [hH0]; exact va_S.rf
  obtain ⟨locs, hlo⟩ : ∃ z : List Loc, z = [] := ⟨_, rfl⟩
  rw [← hlo] at hS ⊢
  unfold f_X12_beside at hf
  obtain ⟨hx, hb, hr, hml, hown, hts, hlocks, hKn, hBs⟩ := id X
  have hK := hKn.1
  skip
  have hl : lv_has ls 2 [(0, .int v0), (1, .int v1)] := hl
  refine lv_iload_n hx hb dX12_beside_0 rfl (lv_at hl 1 rfl) ?_
  by_cases c1_0 : v1 = 0
  · have hf := gb_t c1_0 hf
    refine lv_tableIn (tgt := 28) (off := 27) hx hb dX12_beside_1 (by rw [c1_0]; decide) (by rw [c1_0]; decide) (by rw [c1_0]; rfl) (by decide) ?_
    refine lv_iload_n hx hb dX12_beside_28 rfl (lv_at hl 0 rfl) ?_
    refine lv_bipush (v := 6) hx hb dX12_beside_29 (by decide) ?_
    have hJ31 : ∀ Z : Int32, Z = (if v0 < 6 then (-9 : Int32) else v0 - 6) → W p l e rm_X12_beside s m [.int v0, .int v1].toArray below meth c H locs 0 0 (MQ below (gQ D b (some (.int R)) M (gh)) [.int v0, .int v1].toArray s 0 0 (gA b)) (F0 m 43 ls (.int Z :: [])) := by
      intro Z hZ
      subst hZ
      have hf := Option.some.inj hf
      subst hf
      exact gp_retI hx hb hr hlocks hG hS (Nat.le_refl _) (Nat.le_refl _) dX12_beside_43
    refine lv_icmp_lt (tgt := 41) hx hb dX12_beside_31 (by decide) (fun c31 => ?_) (fun c31 => ?_)
    · rw [if_pos c31] at hJ31
      refine lv_bipush (v := (-9 : Int32)) hx hb dX12_beside_41 (by decide) ?_
      exact hJ31 _ rfl
    · rw [if_neg c31] at hJ31
      refine lv_iload_n hx hb dX12_beside_34 rfl (lv_at hl 0 rfl) ?_
      refine lv_bipush (v := 6) hx hb dX12_beside_35 (by decide) ?_
      refine lv_isub hx hb dX12_beside_37 ?_
      refine lv_goto (tgt := 43) hx hb dX12_beside_38 (by decide) ?_
      exact hJ31 _ rfl
  · have hf := gb_f c1_0 hf
    by_cases c1_1 : v1 = 1
    · have hf := gb_t c1_1 hf
      refine lv_tableIn (tgt := 44) (off := 43) hx hb dX12_beside_1 (by rw [c1_1]; decide) (by rw [c1_1]; decide) (by rw [c1_1]; rfl) (by decide) ?_
      refine lv_iload_n hx hb dX12_beside_44 rfl (lv_at hl 0 rfl) ?_
      refine lv_bipush (v := 6) hx hb dX12_beside_45 (by decide) ?_
      refine lv_irem hx hb dX12_beside_47 (by decide) ?_
      have hJ48 : ∀ Z : Int32, Z = (if (v0 - v0 / 6 * 6) ≤ 0 then (-9 : Int32) else v0 - 1) → W p l e rm_X12_beside s m [.int v0, .int v1].toArray below meth c H locs 0 0 (MQ below (gQ D b (some (.int R)) M (gh)) [.int v0, .int v1].toArray s 0 0 (gA b)) (F0 m 59 ls (.int Z :: [])) := by
        intro Z hZ
        subst hZ
        have hf := Option.some.inj hf
        subst hf
        exact gp_retI hx hb hr hlocks hG hS (Nat.le_refl _) (Nat.le_refl _) dX12_beside_59
      refine lv_if_le (tgt := 57) hx hb dX12_beside_48 (by decide) (fun c48 => ?_) (fun c48 => ?_)
      · rw [if_pos c48] at hJ48
        refine lv_bipush (v := (-9 : Int32)) hx hb dX12_beside_57 (by decide) ?_
        exact hJ48 _ rfl
      · rw [if_neg c48] at hJ48
        refine lv_iload_n hx hb dX12_beside_51 rfl (lv_at hl 0 rfl) ?_
        refine lv_iconst (v := 1) hx hb dX12_beside_52 (by decide) ?_
        refine lv_isub hx hb dX12_beside_53 ?_
        refine lv_goto (tgt := 59) hx hb dX12_beside_54 (by decide) ?_
        exact hJ48 _ rfl
    · have hf := gb_f c1_1 hf
      by_cases c1_2 : v1 = 2
      · have hf := gb_t c1_2 hf
        refine lv_tableIn (tgt := 60) (off := 59) hx hb dX12_beside_1 (by rw [c1_2]; decide) (by rw [c1_2]; decide) (by rw [c1_2]; rfl) (by decide) ?_
        refine lv_iload_n hx hb dX12_beside_60 rfl (lv_at hl 0 rfl) ?_
        refine lv_bipush (v := 6) hx hb dX12_beside_61 (by decide) ?_
        refine lv_irem hx hb dX12_beside_63 (by decide) ?_
        refine lv_iconst (v := 5) hx hb dX12_beside_64 (by decide) ?_
        have hJ65 : ∀ Z : Int32, Z = (if 5 ≤ (v0 - v0 / 6 * 6) then (-9 : Int32) else v0 + 1) → W p l e rm_X12_beside s m [.int v0, .int v1].toArray below meth c H locs 0 0 (MQ below (gQ D b (some (.int R)) M (gh)) [.int v0, .int v1].toArray s 0 0 (gA b)) (F0 m 76 ls (.int Z :: [])) := by
          intro Z hZ
          subst hZ
          have hf := Option.some.inj hf
          subst hf
          exact gp_retI hx hb hr hlocks hG hS (Nat.le_refl _) (Nat.le_refl _) dX12_beside_76
        refine lv_icmp_ge (tgt := 74) hx hb dX12_beside_65 (by decide) (fun c65 => ?_) (fun c65 => ?_)
        · rw [if_pos c65] at hJ65
          refine lv_bipush (v := (-9 : Int32)) hx hb dX12_beside_74 (by decide) ?_
          exact hJ65 _ rfl
        · rw [if_neg c65] at hJ65
          refine lv_iload_n hx hb dX12_beside_68 rfl (lv_at hl 0 rfl) ?_
          refine lv_iconst (v := 1) hx hb dX12_beside_69 (by decide) ?_
          refine lv_iadd hx hb dX12_beside_70 ?_
          refine lv_goto (tgt := 76) hx hb dX12_beside_71 (by decide) ?_
          exact hJ65 _ rfl
      · have hf := gb_f c1_2 hf
        have ho1 : (v1).toInt < 0 ∨ 2 < (v1).toInt := by
          have q : ∀ k : Int32, ¬ v1 = k → ¬ (v1).toInt = k.toInt := fun k hk h => hk (Int32.toInt_inj.mp h)
          have q0 := q 0 c1_0; rw [show (0 : Int32).toInt = 0 from rfl] at q0
          have q1 := q 1 c1_1; rw [show (1 : Int32).toInt = 1 from rfl] at q1
          have q2 := q 2 c1_2; rw [show (2 : Int32).toInt = 2 from rfl] at q2
          omega
        refine lv_tableOut (tgt := 77) hx hb dX12_beside_1 ho1 (by decide) ?_
        refine lv_iload_n hx hb dX12_beside_77 rfl (lv_at hl 0 rfl) ?_
        refine lv_bipush (v := 6) hx hb dX12_beside_78 (by decide) ?_
        refine lv_iadd hx hb dX12_beside_80 ?_
        refine lv_bipush (v := 36) hx hb dX12_beside_81 (by decide) ?_
        have hJ83 : ∀ Z : Int32, Z = (if 36 ≤ (v0 + 6) then (-9 : Int32) else v0 + 6) → W p l e rm_X12_beside s m [.int v0, .int v1].toArray below meth c H locs 0 0 (MQ below (gQ D b (some (.int R)) M (gh)) [.int v0, .int v1].toArray s 0 0 (gA b)) (F0 m 95 ls (.int Z :: [])) := by
          intro Z hZ
          subst hZ
          have hf := Option.some.inj hf
          subst hf
          exact gp_retI hx hb hr hlocks hG hS (Nat.le_refl _) (Nat.le_refl _) dX12_beside_95
        refine lv_icmp_ge (tgt := 93) hx hb dX12_beside_83 (by decide) (fun c83 => ?_) (fun c83 => ?_)
        · rw [if_pos c83] at hJ83
          refine lv_bipush (v := (-9 : Int32)) hx hb dX12_beside_93 (by decide) ?_
          exact hJ83 _ rfl
        · rw [if_neg c83] at hJ83
          refine lv_iload_n hx hb dX12_beside_86 rfl (lv_at hl 0 rfl) ?_
          refine lv_bipush (v := 6) hx hb dX12_beside_87 (by decide) ?_
          refine lv_iadd hx hb dX12_beside_89 ?_
          refine lv_goto (tgt := 95) hx hb dX12_beside_90 (by decide) ?_
          exact hJ83 _ rfl
-- X12_reaches
abbrev rm_X12_reaches : Room := { frames := 0, cells := 0, slots := 0, locals := 0 }
set_option maxHeartbeats 4000000 in
set_option maxRecDepth 100000 in
theorem c_X12_reaches {v1 : Int32} {v2 : Int32} {R : (Nat → Int32) × (Nat → Int32) × Int32} (hf : f_X12_reaches a_far a_shut a_queue i_queued v1 v2 = some R) : Met l yX12_reaches wsX12_reaches rm_X12_reaches (va_Pc [.ref h0, .int v1, .int v2] (gPre D b M (mg cI h0 a_refused a_isWall a_kind a_lampCell a_range a_lit a_scenes a_who a_cell a_minuteOf a_standsAt i_lampMany i_people i_minute a_tape a_letter a_letterAt a_told i_taped i_at i_statements a_kept i_hasImage i_isKeeping i_cursor a_far a_shut a_queue i_queued a_litBy a_may a_row i_rowMany g0) (gTy cI cL))) (gQ D b none M (mg cI h0 a_refused a_isWall a_kind a_lampCell a_range a_lit a_scenes a_who a_cell a_minuteOf a_standsAt i_lampMany i_people i_minute a_tape a_letter a_letterAt a_told i_taped i_at i_statements a_kept i_hasImage i_isKeeping i_cursor R.1 a_shut R.2.1 R.2.2 a_litBy a_may a_row i_rowMany g0)) 0 0 (gA b) := by
  refine gp_met (cc := cX12_reaches) (maxL := 3) (ret := none) (by decide) rfl (Nat.le_of_ble_eq_true rfl) ?_
  intro p e s m below meth c X ls hG hl
  have hS : va_S (gA b) s.heap s.heap [] := va_S.rf
  obtain ⟨H, hH0⟩ : ∃ H : Heap, H = s.heap := ⟨_, rfl⟩
  rw [← hH0] at hG ⊢
  have hS : va_S (gA b) s.heap H [] := by rw [hH0]; exact va_S.rf
  obtain ⟨locs, hlo⟩ : ∃ z : List Loc, z = [] := ⟨_, rfl⟩
  rw [← hlo] at hS ⊢
  unfold f_X12_reaches at hf
  obtain ⟨hx, hb, hr, hml, hown, hts, hlocks, hKn, hBs⟩ := id X
  have hK := hKn.1
  have hin : ∀ w ∈ wsX120, w ∈ wsX12_reaches := fun w h => List.mem_cons_of_mem _ (List.mem_append_right _ h)
  have hl : lv_has ls 3 [(0, .ref h0), (1, .int v1), (2, .int v2)] := hl
  refine lv_iload_n hx hb dX12_reaches_0 rfl (lv_at hl 1 rfl) ?_
  refine lv_if_lt (tgt := 23) hx hb dX12_reaches_1 (by decide) (fun c1 => ?_) (fun c1 => ?_)
  · have hf := gb_t c1 hf
    have hf := Option.some.inj hf
    subst hf
    exact gp_retV hx hb hr hlocks hG hS (Nat.le_refl _) (Nat.le_refl _) dX12_reaches_23
  · have hf := gb_f c1 hf
    refine lv_aload_n hx hb dX12_reaches_4 rfl (lv_at hl 0 rfl) ?_
    refine gp_get (v := .ref (h0 + 18)) (C := RX12) (T := TX12) (N := 33) (ci := 10) hx hb hts hin hown hK hG mg_o rfl 26 (by decide) (hts _ (List.mem_of_getElem? (i := 1) rfl)) (fun _ h9 => h9) rfl dX12_reaches_5 ?_
    refine lv_iload_n hx hb dX12_reaches_8 rfl (lv_at hl 1 rfl) ?_
    obtain ⟨b9, hf⟩ := gb_ix hf
    refine gp_iald hx hb hK hG mg_shut b9 dX12_reaches_9 ?_
    refine lv_iconst (v := 1) hx hb dX12_reaches_10 (by decide) ?_
    refine lv_icmp_eq (tgt := 23) hx hb dX12_reaches_11 (by decide) (fun c11 => ?_) (fun c11 => ?_)
    · have hf := gb_t c11 hf
      have hf := Option.some.inj hf
      subst hf
      exact gp_retV hx hb hr hlocks hG hS (Nat.le_refl _) (Nat.le_refl _) dX12_reaches_23
    · have hf := gb_f c11 hf
      refine lv_aload_n hx hb dX12_reaches_14 rfl (lv_at hl 0 rfl) ?_
      refine gp_get (v := .ref (h0 + 17)) (C := RX12) (T := TX12) (N := 33) (ci := 10) hx hb hts hin hown hK hG mg_o rfl 25 (by decide) (hts _ (List.mem_of_getElem? (i := 2) rfl)) (fun _ h9 => h9) rfl dX12_reaches_15 ?_
      refine lv_iload_n hx hb dX12_reaches_18 rfl (lv_at hl 1 rfl) ?_
      obtain ⟨b19, hf⟩ := gb_ix hf
      refine gp_iald hx hb hK hG mg_far b19 dX12_reaches_19 ?_
      refine lv_if_lt (tgt := 24) hx hb dX12_reaches_20 (by decide) (fun c20 => ?_) (fun c20 => ?_)
      · have hf := gb_t c20 hf
        refine lv_aload_n hx hb dX12_reaches_24 rfl (lv_at hl 0 rfl) ?_
        refine gp_get (v := .ref (h0 + 17)) (C := RX12) (T := TX12) (N := 33) (ci := 10) hx hb hts hin hown hK hG mg_o rfl 25 (by decide) (hts _ (List.mem_of_getElem? (i := 2) rfl)) (fun _ h9 => h9) rfl dX12_reaches_25 ?_
        refine lv_iload_n hx hb dX12_reaches_28 rfl (lv_at hl 1 rfl) ?_
        refine lv_iload_n hx hb dX12_reaches_29 rfl (lv_at hl 2 rfl) ?_
        obtain ⟨b30, hf⟩ := gb_ix hf
        refine gp_iast hx hb hK hG hS mg_far b30 mu_far dX12_reaches_30 (fun H locs hG hS => ?_)
        refine lv_aload_n hx hb dX12_reaches_31 rfl (lv_at hl 0 rfl) ?_
        refine gp_get (v := .ref (h0 + 19)) (C := RX12) (T := TX12) (N := 33) (ci := 10) hx hb hts hin hown hK hG mg_o rfl 27 (by decide) (hts _ (List.mem_of_getElem? (i := 3) rfl)) (fun _ h9 => h9) rfl dX12_reaches_32 ?_
        refine lv_aload_n hx hb dX12_reaches_35 rfl (lv_at hl 0 rfl) ?_
        refine gp_get (v := .int i_queued) (C := RX12) (T := TX12) (N := 33) (ci := 10) hx hb hts hin hown hK hG mg_o rfl 28 (by decide) (hts _ (List.mem_of_getElem? (i := 4) rfl)) (fun _ h9 => h9) rfl dX12_reaches_36 ?_
        refine lv_iload_n hx hb dX12_reaches_39 rfl (lv_at hl 1 rfl) ?_
        obtain ⟨b40, hf⟩ := gb_ix hf
        refine gp_iast hx hb hK hG hS mg_queue b40 mu_queue dX12_reaches_40 (fun H locs hG hS => ?_)
        refine lv_aload_n hx hb dX12_reaches_41 rfl (lv_at hl 0 rfl) ?_
        refine lv_dup hx hb dX12_reaches_42 rfl ?_
        refine gp_get (v := .int i_queued) (C := RX12) (T := TX12) (N := 33) (ci := 10) hx hb hts hin hown hK hG mg_o rfl 28 (by decide) (hts _ (List.mem_of_getElem? (i := 4) rfl)) (fun _ h9 => h9) rfl dX12_reaches_43 ?_
        refine lv_iconst (v := 1) hx hb dX12_reaches_46 (by decide) ?_
        refine lv_iadd hx hb dX12_reaches_47 ?_
        refine gp_put (v := .int (i_queued + 1)) (tyk := .int) (C := RX12) (T := TX12) (N := 33) (ci := 10) hx hb hts hin tyX12 tyX12_ok nmX12 hown hK hG hS mg_o rfl 28 (by decide) (hts _ (List.mem_of_getElem? (i := 4) rfl)) (fun _ h9 => h9) rfl rfl rfl rfl (Nat.le_of_ble_eq_true rfl) mu_queued dX12_reaches_48 (fun H locs hG hS => ?_)
        have hf := Option.some.inj hf
        subst hf
        exact gp_retV hx hb hr hlocks hG hS (Nat.le_refl _) (Nat.le_refl _) dX12_reaches_51
      · have hf := gb_f c20 hf
        have hf := Option.some.inj hf
        subst hf
        exact gp_retV hx hb hr hlocks hG hS (Nat.le_refl _) (Nat.le_refl _) dX12_reaches_23
-- X12_findFar
abbrev rm_X12_findFar : Room := { frames := 1, cells := 0, slots := 0, locals := 22 }
set_option maxHeartbeats 4000000 in
set_option maxRecDepth 100000 in
theorem w_X12_findFar_2 {α : Type} {R : α} {K22 : (Nat → Int32) → Option α} {v1 : Int32} (X : gC p s m args meth c cX12_findFar 4 none wsX12_findFar RX12 D b (gTy cI cL)) : ∀ (n : Nat) (v2 : Int32) (a_far : Nat → Int32), L_X12_findFar_2 K22 v1 n v2 a_far = some R → (∀ (x : (Nat → Int32)), K22 x = some R → ∀ (H : Heap) (locs : List Loc) (ls : Array Slot), GP D b M (mg cI h0 a_refused a_isWall a_kind a_lampCell a_range a_lit a_scenes a_who a_cell a_minuteOf a_standsAt i_lampMany i_people i_minute a_tape a_letter a_letterAt a_told i_taped i_at i_statements a_kept i_hasImage i_isKeeping i_cursor x a_shut a_queue i_queued a_litBy a_may a_row i_rowMany g0) H → va_S (gA b) s.heap H locs → lv_has ls 4 [(0, .ref h0), (1, .int v1)] → W p l e rm_X12_findFar s m args below meth c H locs 0 0 Q (F0 m 22 ls [])) → ∀ (H : Heap) (locs : List Loc) (ls : Array Slot), GP D b M (mg cI h0 a_refused a_isWall a_kind a_lampCell a_range a_lit a_scenes a_who a_cell a_minuteOf a_standsAt i_lampMany i_people i_minute a_tape a_letter a_letterAt a_told i_taped i_at i_statements a_kept i_hasImage i_isKeeping i_cursor a_far a_shut a_queue i_queued a_litBy a_may a_row i_rowMany g0) H → va_S (gA b) s.heap H locs → lv_has ls 4 [(0, .ref h0), (1, .int v1), (2, .int v2)] → W p l e rm_X12_findFar s m args below meth c H locs 0 0 Q (F0 m 2 ls []) := by
  obtain ⟨hx, hb, hr, hml, hown, hts, hlocks, hKn, hBs⟩ := id X
  have hK := hKn.1
  have hin : ∀ w ∈ wsX120, w ∈ wsX12_findFar := fun w h => List.mem_cons_of_mem _ (List.mem_append_right _ h)
  intro n
  induction n with
  | zero =>
    intro v2 a_far hf
    cases hf
  | succ n ih =>
    intro v2 a_far hf hk22 H locs ls hG hS hl
    rw [L_X12_findFar_2.eq_2] at hf
    refine lv_iload_n hx hb dX12_findFar_2 rfl (lv_at hl 2 rfl) ?_
    refine lv_bipush (v := 36) hx hb dX12_findFar_3 (by decide) ?_
    refine lv_icmp_ge (tgt := 22) hx hb dX12_findFar_5 (by decide) (fun c5 => ?_) (fun c5 => ?_)
    · have hf := gb_t c5 hf
      exact hk22 _ hf _ _ _ hG hS (lv_sub hl [0, 1] rfl)
    · have hf := gb_f c5 hf
      refine lv_aload_n hx hb dX12_findFar_8 rfl (lv_at hl 0 rfl) ?_
      refine gp_get (v := .ref (h0 + 17)) (C := RX12) (T := TX12) (N := 33) (ci := 10) hx hb hts hin hown hK hG mg_o rfl 25 (by decide) (hts _ (List.mem_of_getElem? (i := 1) rfl)) (fun _ h9 => h9) rfl dX12_findFar_9 ?_
      refine lv_iload_n hx hb dX12_findFar_12 rfl (lv_at hl 2 rfl) ?_
      refine lv_bipush (v := (-9 : Int32)) hx hb dX12_findFar_13 (by decide) ?_
      obtain ⟨b15, hf⟩ := gb_ix hf
      refine gp_iast hx hb hK hG hS mg_far b15 mu_far dX12_findFar_15 (fun H locs hG hS => ?_)
      refine lv_iinc (v := v2 + 1) (lv' := [(2, .int (v2 + 1)), (0, .ref h0), (1, .int v1)]) hx hb dX12_findFar_16 hl (k := 2) rfl rfl (by decide) rfl (fun ls hl => ?_)
      refine lv_goto (tgt := 2) hx hb dX12_findFar_19 (by decide) ?_
      exact ih _ _ hf hk22 _ _ _ hG hS (lv_sub hl [1, 2, 0] rfl)
set_option maxHeartbeats 4000000 in
set_option maxRecDepth 100000 in
theorem w_X12_findFar_45 {α : Type} {R : α} {K83 : ((Nat → Int32) × (Nat → Int32) × Int32) → Option α} {v2 : Int32} (X : gC p s m args meth c cX12_findFar 4 none wsX12_findFar RX12 D b (gTy cI cL)) : ∀ (n : Nat) (v3 : Int32) (a_far : Nat → Int32) (a_queue : Nat → Int32) (i_queued : Int32), L_X12_findFar_45 K83 a_shut v2 n v3 a_far a_queue i_queued = some R → (∀ (x : (Nat → Int32) × (Nat → Int32) × Int32), K83 x = some R → ∀ (H : Heap) (locs : List Loc) (ls : Array Slot), GP D b M (mg cI h0 a_refused a_isWall a_kind a_lampCell a_range a_lit a_scenes a_who a_cell a_minuteOf a_standsAt i_lampMany i_people i_minute a_tape a_letter a_letterAt a_told i_taped i_at i_statements a_kept i_hasImage i_isKeeping i_cursor x.1 a_shut x.2.1 x.2.2 a_litBy a_may a_row i_rowMany g0) H → va_S (gA b) s.heap H locs → lv_has ls 4 [(0, .ref h0), (2, .int v2)] → W p l e rm_X12_findFar s m args below meth c H locs 0 0 Q (F0 m 83 ls [])) → ∀ (H : Heap) (locs : List Loc) (ls : Array Slot), GP D b M (mg cI h0 a_refused a_isWall a_kind a_lampCell a_range a_lit a_scenes a_who a_cell a_minuteOf a_standsAt i_lampMany i_people i_minute a_tape a_letter a_letterAt a_told i_taped i_at i_statements a_kept i_hasImage i_isKeeping i_cursor a_far a_shut a_queue i_queued a_litBy a_may a_row i_rowMany g0) H → va_S (gA b) s.heap H locs → lv_has ls 4 [(0, .ref h0), (2, .int v2), (3, .int v3)] → W p l e rm_X12_findFar s m args below meth c H locs 0 0 Q (F0 m 45 ls []) := by
  obtain ⟨hx, hb, hr, hml, hown, hts, hlocks, hKn, hBs⟩ := id X
  have hK := hKn.1
  have hin : ∀ w ∈ wsX120, w ∈ wsX12_findFar := fun w h => List.mem_cons_of_mem _ (List.mem_append_right _ h)
  intro n
  induction n with
  | zero =>
    intro v3 a_far a_queue i_queued hf
    cases hf
  | succ n ih =>
    intro v3 a_far a_queue i_queued hf hk83 H locs ls hG hS hl
    rw [L_X12_findFar_45.eq_2] at hf
    refine lv_iload_n hx hb dX12_findFar_45 rfl (lv_at hl 2 rfl) ?_
    refine lv_iconst (v := 4) hx hb dX12_findFar_46 (by decide) ?_
    refine lv_icmp_ge (tgt := 83) hx hb dX12_findFar_47 (by decide) (fun c47 => ?_) (fun c47 => ?_)
    · have hf := gb_t c47 hf
      exact hk83 _ hf _ _ _ hG hS (lv_sub hl [0, 1] rfl)
    · have hf := gb_f c47 hf
      refine lv_aload_n hx hb dX12_findFar_50 rfl (lv_at hl 0 rfl) ?_
      refine lv_aload_n hx hb dX12_findFar_51 rfl (lv_at hl 0 rfl) ?_
      refine gp_get (v := .ref (h0 + 19)) (C := RX12) (T := TX12) (N := 33) (ci := 10) hx hb hts hin hown hK hG mg_o rfl 27 (by decide) (hts _ (List.mem_of_getElem? (i := 3) rfl)) (fun _ h9 => h9) rfl dX12_findFar_52 ?_
      refine lv_iload_n hx hb dX12_findFar_55 rfl (lv_at hl 1 rfl) ?_
      obtain ⟨b56, hf⟩ := gb_ix hf
      refine gp_iald hx hb hK hG mg_queue b56 dX12_findFar_56 ?_
      refine lv_iload_n hx hb dX12_findFar_57 rfl (lv_at hl 2 rfl) ?_
      obtain ⟨o58, hc58, hf⟩ := gb_b hf
      refine gp_callI (va_runS (As := [.int (a_queue v2.toNatClampNeg), .int v3]) (rest := [.ref h0]) ⟨hx, hb, hml, hown, hts⟩ (c_X12_beside (l := l) (D := D) (b := b) (M := M) (cI := cI) (cL := cL) hc58) (va_cwS 2 hts gX12_findFar_X12_beside rfl rfl rfl (by decide +kernel) ⟨Nat.le_of_ble_eq_true rfl, Nat.le_of_ble_eq_true rfl⟩) (gp_preS hKn hG) rfl rfl hl.1 rfl (lv_room (Nat.le_of_ble_eq_true rfl)) dX12_findFar_58 ⟨Nat.le_of_ble_eq_true rfl, Nat.le_of_ble_eq_true rfl⟩) hS (fun H locs hG hS => ?_)
      refine lv_aload_n hx hb dX12_findFar_61 rfl (lv_at hl 0 rfl) ?_
      refine gp_get (v := .ref (h0 + 17)) (C := RX12) (T := TX12) (N := 33) (ci := 10) hx hb hts hin hown hK hG mg_o rfl 25 (by decide) (hts _ (List.mem_of_getElem? (i := 1) rfl)) (fun _ h9 => h9) rfl dX12_findFar_62 ?_
      refine lv_aload_n hx hb dX12_findFar_65 rfl (lv_at hl 0 rfl) ?_
      refine gp_get (v := .ref (h0 + 19)) (C := RX12) (T := TX12) (N := 33) (ci := 10) hx hb hts hin hown hK hG mg_o rfl 27 (by decide) (hts _ (List.mem_of_getElem? (i := 3) rfl)) (fun _ h9 => h9) rfl dX12_findFar_66 ?_
      refine lv_iload_n hx hb dX12_findFar_69 rfl (lv_at hl 1 rfl) ?_
      obtain ⟨b70, hf⟩ := gb_ix hf
      refine gp_iald hx hb hK hG mg_queue b70 dX12_findFar_70 ?_
      obtain ⟨b71, hf⟩ := gb_ix hf
      refine gp_iald hx hb hK hG mg_far b71 dX12_findFar_71 ?_
      refine lv_iconst (v := 1) hx hb dX12_findFar_72 (by decide) ?_
      refine lv_iadd hx hb dX12_findFar_73 ?_
      obtain ⟨o74, hc74, hf⟩ := gb_b hf
      refine gp_callV (va_runV (As := [.int o58, .int ((a_far (a_queue v2.toNatClampNeg).toNatClampNeg) + 1)]) (rest := []) ⟨hx, hb, hml, hown, hts⟩ (c_X12_reaches (l := l) (D := D) (b := b) (M := M) (cI := cI) (cL := cL) hc74) (cwV 2 hts gX12_findFar_X12_reaches rfl rfl rfl (by decide +kernel) ⟨Nat.le_of_ble_eq_true rfl, Nat.le_of_ble_eq_true rfl⟩) (gp_preV hKn hG mg_o rfl) rfl rfl hl.1 rfl (lv_room (Nat.le_of_ble_eq_true rfl)) dX12_findFar_74 ⟨Nat.le_of_ble_eq_true rfl, Nat.le_of_ble_eq_true rfl⟩) hS (fun H locs hG hS => ?_)
      refine lv_iinc (v := v3 + 1) (lv' := [(3, .int (v3 + 1)), (0, .ref h0), (2, .int v2)]) hx hb dX12_findFar_77 hl (k := 2) rfl rfl (by decide) rfl (fun ls hl => ?_)
      refine lv_goto (tgt := 45) hx hb dX12_findFar_80 (by decide) ?_
      exact ih _ _ _ _ hf hk83 _ _ _ hG hS (lv_sub hl [1, 2, 0] rfl)
set_option maxHeartbeats 4000000 in
set_option maxRecDepth 100000 in
theorem w_X12_findFar_35 {α : Type} {R : α} {K89 : ((Nat → Int32) × (Nat → Int32) × Int32) → Option α} (X : gC p s m args meth c cX12_findFar 4 none wsX12_findFar RX12 D b (gTy cI cL)) : ∀ (n : Nat) (v2 : Int32) (a_far : Nat → Int32) (a_queue : Nat → Int32) (i_queued : Int32), L_X12_findFar_35 K89 a_shut n v2 a_far a_queue i_queued = some R → (∀ (x : (Nat → Int32) × (Nat → Int32) × Int32), K89 x = some R → ∀ (H : Heap) (locs : List Loc) (ls : Array Slot), GP D b M (mg cI h0 a_refused a_isWall a_kind a_lampCell a_range a_lit a_scenes a_who a_cell a_minuteOf a_standsAt i_lampMany i_people i_minute a_tape a_letter a_letterAt a_told i_taped i_at i_statements a_kept i_hasImage i_isKeeping i_cursor x.1 a_shut x.2.1 x.2.2 a_litBy a_may a_row i_rowMany g0) H → va_S (gA b) s.heap H locs → lv_has ls 4 [] → W p l e rm_X12_findFar s m args below meth c H locs 0 0 Q (F0 m 89 ls [])) → ∀ (H : Heap) (locs : List Loc) (ls : Array Slot), GP D b M (mg cI h0 a_refused a_isWall a_kind a_lampCell a_range a_lit a_scenes a_who a_cell a_minuteOf a_standsAt i_lampMany i_people i_minute a_tape a_letter a_letterAt a_told i_taped i_at i_statements a_kept i_hasImage i_isKeeping i_cursor a_far a_shut a_queue i_queued a_litBy a_may a_row i_rowMany g0) H → va_S (gA b) s.heap H locs → lv_has ls 4 [(0, .ref h0), (2, .int v2)] → W p l e rm_X12_findFar s m args below meth c H locs 0 0 Q (F0 m 35 ls []) := by
  obtain ⟨hx, hb, hr, hml, hown, hts, hlocks, hKn, hBs⟩ := id X
  have hK := hKn.1
  have hin : ∀ w ∈ wsX120, w ∈ wsX12_findFar := fun w h => List.mem_cons_of_mem _ (List.mem_append_right _ h)
  intro n
  induction n with
  | zero =>
    intro v2 a_far a_queue i_queued hf
    cases hf
  | succ n ih =>
    intro v2 a_far a_queue i_queued hf hk89 H locs ls hG hS hl
    rw [L_X12_findFar_35.eq_2] at hf
    refine lv_iload_n hx hb dX12_findFar_35 rfl (lv_at hl 1 rfl) ?_
    refine lv_aload_n hx hb dX12_findFar_36 rfl (lv_at hl 0 rfl) ?_
    refine gp_get (v := .int i_queued) (C := RX12) (T := TX12) (N := 33) (ci := 10) hx hb hts hin hown hK hG mg_o rfl 28 (by decide) (hts _ (List.mem_of_getElem? (i := 2) rfl)) (fun _ h9 => h9) rfl dX12_findFar_37 ?_
    refine lv_icmp_ge (tgt := 89) hx hb dX12_findFar_40 (by decide) (fun c40 => ?_) (fun c40 => ?_)
    · have hf := gb_t c40 hf
      exact hk89 _ hf _ _ _ hG hS (lv_sub hl [] rfl)
    · have hf := gb_f c40 hf
      refine lv_iconst (v := 0) hx hb dX12_findFar_43 (by decide) ?_
      refine lv_istore_n (lv' := [(3, .int 0), (0, .ref h0), (2, .int v2)]) hx hb dX12_findFar_44 rfl hl (by decide) rfl (fun ls hl => ?_)
      refine w_X12_findFar_45 X _ _ _ _ _ hf (fun x45_83 hf H locs ls hG hS hl => ?_) _ _ _ hG hS (lv_sub hl [1, 2, 0] rfl)
      · refine lv_iinc (v := v2 + 1) (lv' := [(2, .int (v2 + 1)), (0, .ref h0)]) hx hb dX12_findFar_83 hl (k := 1) rfl rfl (by decide) rfl (fun ls hl => ?_)
        refine lv_goto (tgt := 35) hx hb dX12_findFar_86 (by decide) ?_
        exact ih _ _ _ _ hf hk89 _ _ _ hG hS (lv_sub hl [1, 0] rfl)
set_option maxHeartbeats 4000000 in
set_option maxRecDepth 100000 in
theorem c_X12_findFar {v1 : Int32} {R : (Nat → Int32) × (Nat → Int32) × Int32} (hf : f_X12_findFar a_far a_shut a_queue i_queued v1 = some R) : Met l yX12_findFar wsX12_findFar rm_X12_findFar (va_Pc [.ref h0, .int v1] (gPre D b M (mg cI h0 a_refused a_isWall a_kind a_lampCell a_range a_lit a_scenes a_who a_cell a_minuteOf a_standsAt i_lampMany i_people i_minute a_tape a_letter a_letterAt a_told i_taped i_at i_statements a_kept i_hasImage i_isKeeping i_cursor a_far a_shut a_queue i_queued a_litBy a_may a_row i_rowMany g0) (gTy cI cL))) (gQ D b none M (mg cI h0 a_refused a_isWall a_kind a_lampCell a_range a_lit a_scenes a_who a_cell a_minuteOf a_standsAt i_lampMany i_people i_minute a_tape a_letter a_letterAt a_told i_taped i_at i_statements a_kept i_hasImage i_isKeeping i_cursor R.1 a_shut R.2.1 R.2.2 a_litBy a_may a_row i_rowMany g0)) 0 0 (gA b) := by
  refine gp_met (cc := cX12_findFar) (maxL := 4) (ret := none) (by decide) rfl (Nat.le_of_ble_eq_true rfl) ?_
  intro p e s m below meth c X ls hG hl
  have hS : va_S (gA b) s.heap s.heap [] := va_S.rf
  obtain ⟨H, hH0⟩ : ∃ H : Heap, H = s.heap := ⟨_, rfl⟩
  rw [← hH0] at hG ⊢
  have hS : va_S (gA b) s.heap H [] := by rw [hH0]; exact va_S.rf
  obtain ⟨locs, hlo⟩ : ∃ z : List Loc, z = [] := ⟨_, rfl⟩
  rw [← hlo] at hS ⊢
  unfold f_X12_findFar at hf
  obtain ⟨hx, hb, hr, hml, hown, hts, hlocks, hKn, hBs⟩ := id X
  have hK := hKn.1
  have hin : ∀ w ∈ wsX120, w ∈ wsX12_findFar := fun w h => List.mem_cons_of_mem _ (List.mem_append_right _ h)
  have hl : lv_has ls 4 [(0, .ref h0), (1, .int v1)] := hl
  refine lv_iconst (v := 0) hx hb dX12_findFar_0 (by decide) ?_
  refine lv_istore_n (lv' := [(2, .int 0), (0, .ref h0), (1, .int v1)]) hx hb dX12_findFar_1 rfl hl (by decide) rfl (fun ls hl => ?_)
  refine w_X12_findFar_2 X _ _ _ hf (fun x2_22 hf H locs ls hG hS hl => ?_) _ _ _ hG hS (lv_sub hl [1, 2, 0] rfl)
  · refine lv_aload_n hx hb dX12_findFar_22 rfl (lv_at hl 0 rfl) ?_
    refine lv_iconst (v := 0) hx hb dX12_findFar_23 (by decide) ?_
    refine gp_put (v := .int 0) (tyk := .int) (C := RX12) (T := TX12) (N := 33) (ci := 10) hx hb hts hin tyX12 tyX12_ok nmX12 hown hK hG hS mg_o rfl 28 (by decide) (hts _ (List.mem_of_getElem? (i := 2) rfl)) (fun _ h9 => h9) rfl rfl rfl rfl (Nat.le_of_ble_eq_true rfl) mu_queued dX12_findFar_24 (fun H locs hG hS => ?_)
    refine lv_aload_n hx hb dX12_findFar_27 rfl (lv_at hl 0 rfl) ?_
    refine lv_iload_n hx hb dX12_findFar_28 rfl (lv_at hl 1 rfl) ?_
    refine lv_iconst (v := 0) hx hb dX12_findFar_29 (by decide) ?_
    obtain ⟨o30, hc30, hf⟩ := gb_b hf
    refine gp_callV (va_runV (As := [.int v1, .int 0]) (rest := []) ⟨hx, hb, hml, hown, hts⟩ (c_X12_reaches (l := l) (D := D) (b := b) (M := M) (cI := cI) (cL := cL) hc30) (cwV 2 hts gX12_findFar_X12_reaches rfl rfl rfl (by decide +kernel) ⟨Nat.le_of_ble_eq_true rfl, Nat.le_of_ble_eq_true rfl⟩) (gp_preV hKn hG mg_o rfl) rfl rfl hl.1 rfl (lv_room (Nat.le_of_ble_eq_true rfl)) dX12_findFar_30 ⟨Nat.le_of_ble_eq_true rfl, Nat.le_of_ble_eq_true rfl⟩) hS (fun H locs hG hS => ?_)
    refine lv_iconst (v := 0) hx hb dX12_findFar_33 (by decide) ?_
    refine lv_istore_n (lv' := [(2, .int 0), (0, .ref h0), (1, .int v1)]) hx hb dX12_findFar_34 rfl hl (by decide) rfl (fun ls hl => ?_)
    refine w_X12_findFar_35 X _ _ _ _ _ hf (fun x35_89 hf H locs ls hG hS hl => ?_) _ _ _ hG hS (lv_sub hl [1, 0] rfl)
    · have hf := Option.some.inj hf
      subst hf
      exact gp_retV hx hb hr hlocks hG hS (Nat.le_refl _) (Nat.le_refl _) dX12_findFar_89
-- X12_shutsWalls
abbrev rm_X12_shutsWalls : Room := { frames := 0, cells := 0, slots := 0, locals := 0 }
set_option maxHeartbeats 4000000 in
set_option maxRecDepth 100000 in
theorem w_X12_shutsWalls_2 {α : Type} {R : α} {K26 : (Nat → Int32) → Option α} (X : gC p s m args meth c cX12_shutsWalls 2 none wsX12_shutsWalls RX12 D b (gTy cI cL)) : ∀ (n : Nat) (v1 : Int32) (a_shut : Nat → Int32), L_X12_shutsWalls_2 K26 a_isWall n v1 a_shut = some R → (∀ (x : (Nat → Int32)), K26 x = some R → ∀ (H : Heap) (locs : List Loc) (ls : Array Slot), GP D b M (mg cI h0 a_refused a_isWall a_kind a_lampCell a_range a_lit a_scenes a_who a_cell a_minuteOf a_standsAt i_lampMany i_people i_minute a_tape a_letter a_letterAt a_told i_taped i_at i_statements a_kept i_hasImage i_isKeeping i_cursor a_far x a_queue i_queued a_litBy a_may a_row i_rowMany g0) H → va_S (gA b) s.heap H locs → lv_has ls 2 [] → W p l e rm_X12_shutsWalls s m args below meth c H locs 0 0 Q (F0 m 26 ls [])) → ∀ (H : Heap) (locs : List Loc) (ls : Array Slot), GP D b M (mg cI h0 a_refused a_isWall a_kind a_lampCell a_range a_lit a_scenes a_who a_cell a_minuteOf a_standsAt i_lampMany i_people i_minute a_tape a_letter a_letterAt a_told i_taped i_at i_statements a_kept i_hasImage i_isKeeping i_cursor a_far a_shut a_queue i_queued a_litBy a_may a_row i_rowMany g0) H → va_S (gA b) s.heap H locs → lv_has ls 2 [(0, .ref h0), (1, .int v1)] → W p l e rm_X12_shutsWalls s m args below meth c H locs 0 0 Q (F0 m 2 ls []) := by
  obtain ⟨hx, hb, hr, hml, hown, hts, hlocks, hKn, hBs⟩ := id X
  have hK := hKn.1
  have hin : ∀ w ∈ wsX120, w ∈ wsX12_shutsWalls := fun w h => List.mem_cons_of_mem _ (List.mem_append_right _ h)
  intro n
  induction n with
  | zero =>
    intro v1 a_shut hf
    cases hf
  | succ n ih =>
    intro v1 a_shut hf hk26 H locs ls hG hS hl
    rw [L_X12_shutsWalls_2.eq_2] at hf
    refine lv_iload_n hx hb dX12_shutsWalls_2 rfl (lv_at hl 1 rfl) ?_
    refine lv_bipush (v := 36) hx hb dX12_shutsWalls_3 (by decide) ?_
    refine lv_icmp_ge (tgt := 26) hx hb dX12_shutsWalls_5 (by decide) (fun c5 => ?_) (fun c5 => ?_)
    · have hf := gb_t c5 hf
      exact hk26 _ hf _ _ _ hG hS (lv_sub hl [] rfl)
    · have hf := gb_f c5 hf
      refine lv_aload_n hx hb dX12_shutsWalls_8 rfl (lv_at hl 0 rfl) ?_
      refine gp_get (v := .ref (h0 + 18)) (C := RX12) (T := TX12) (N := 33) (ci := 10) hx hb hts hin hown hK hG mg_o rfl 26 (by decide) (hts _ (List.mem_of_getElem? (i := 1) rfl)) (fun _ h9 => h9) rfl dX12_shutsWalls_9 ?_
      refine lv_iload_n hx hb dX12_shutsWalls_12 rfl (lv_at hl 1 rfl) ?_
      refine lv_aload_n hx hb dX12_shutsWalls_13 rfl (lv_at hl 0 rfl) ?_
      refine gp_get (v := .ref (h0 + 2)) (C := RX12) (T := TX12) (N := 33) (ci := 10) hx hb hts hin hown hK hG mg_o rfl 1 (by decide) (hts _ (List.mem_of_getElem? (i := 2) rfl)) (fun _ h9 => h9) rfl dX12_shutsWalls_14 ?_
      refine lv_iload_n hx hb dX12_shutsWalls_17 rfl (lv_at hl 1 rfl) ?_
      obtain ⟨b18, hf⟩ := gb_ix hf
      refine gp_iald hx hb hK hG mg_isWall b18 dX12_shutsWalls_18 ?_
      obtain ⟨b19, hf⟩ := gb_ix hf
      refine gp_iast hx hb hK hG hS mg_shut b19 mu_shut dX12_shutsWalls_19 (fun H locs hG hS => ?_)
      refine lv_iinc (v := v1 + 1) (lv' := [(1, .int (v1 + 1)), (0, .ref h0)]) hx hb dX12_shutsWalls_20 hl (k := 1) rfl rfl (by decide) rfl (fun ls hl => ?_)
      refine lv_goto (tgt := 2) hx hb dX12_shutsWalls_23 (by decide) ?_
      exact ih _ _ hf hk26 _ _ _ hG hS (lv_sub hl [1, 0] rfl)
set_option maxHeartbeats 4000000 in
set_option maxRecDepth 100000 in
theorem c_X12_shutsWalls {R : (Nat → Int32)} (hf : f_X12_shutsWalls a_isWall a_shut = some R) : Met l yX12_shutsWalls wsX12_shutsWalls rm_X12_shutsWalls (va_Pc [.ref h0] (gPre D b M (mg cI h0 a_refused a_isWall a_kind a_lampCell a_range a_lit a_scenes a_who a_cell a_minuteOf a_standsAt i_lampMany i_people i_minute a_tape a_letter a_letterAt a_told i_taped i_at i_statements a_kept i_hasImage i_isKeeping i_cursor a_far a_shut a_queue i_queued a_litBy a_may a_row i_rowMany g0) (gTy cI cL))) (gQ D b none M (mg cI h0 a_refused a_isWall a_kind a_lampCell a_range a_lit a_scenes a_who a_cell a_minuteOf a_standsAt i_lampMany i_people i_minute a_tape a_letter a_letterAt a_told i_taped i_at i_statements a_kept i_hasImage i_isKeeping i_cursor a_far R a_queue i_queued a_litBy a_may a_row i_rowMany g0)) 0 0 (gA b) := by
  refine gp_met (cc := cX12_shutsWalls) (maxL := 2) (ret := none) (by decide) rfl (Nat.le_of_ble_eq_true rfl) ?_
  intro p e s m below meth c X ls hG hl
  have hS : va_S (gA b) s.heap s.heap [] := va_S.rf
  obtain ⟨H, hH0⟩ : ∃ H : Heap, H = s.heap := ⟨_, rfl⟩
  rw [← hH0] at hG ⊢
  have hS : va_S (gA b) s.heap H [] := by rw [hH0]; exact va_S.rf
  obtain ⟨locs, hlo⟩ : ∃ z : List Loc, z = [] := ⟨_, rfl⟩
  rw [← hlo] at hS ⊢
  unfold f_X12_shutsWalls at hf
  obtain ⟨hx, hb, hr, hml, hown, hts, hlocks, hKn, hBs⟩ := id X
  have hK := hKn.1
  have hin : ∀ w ∈ wsX120, w ∈ wsX12_shutsWalls := fun w h => List.mem_cons_of_mem _ (List.mem_append_right _ h)
  have hl : lv_has ls 2 [(0, .ref h0)] := hl
  refine lv_iconst (v := 0) hx hb dX12_shutsWalls_0 (by decide) ?_
  refine lv_istore_n (lv' := [(1, .int 0), (0, .ref h0)]) hx hb dX12_shutsWalls_1 rfl hl (by decide) rfl (fun ls hl => ?_)
  refine w_X12_shutsWalls_2 X _ _ _ hf (fun x2_26 hf H locs ls hG hS hl => ?_) _ _ _ hG hS (lv_sub hl [1, 0] rfl)
  · have hf := Option.some.inj hf
    subst hf
    exact gp_retV hx hb hr hlocks hG hS (Nat.le_refl _) (Nat.le_refl _) dX12_shutsWalls_26
-- X12_stepsOf
abbrev rm_X12_stepsOf : Room := { frames := 2, cells := 0, slots := 0, locals := 45 }
set_option maxHeartbeats 4000000 in
set_option maxRecDepth 100000 in
theorem c_X12_stepsOf {v1 : Int32} {v2 : Int32} {R : Int32 × (Nat → Int32) × (Nat → Int32) × (Nat → Int32) × Int32} (hf : f_X12_stepsOf a_isWall a_far a_shut a_queue i_queued v1 v2 = some R) : Met l yX12_stepsOf wsX12_stepsOf rm_X12_stepsOf (va_Pc [.ref h0, .int v1, .int v2] (gPre D b M (mg cI h0 a_refused a_isWall a_kind a_lampCell a_range a_lit a_scenes a_who a_cell a_minuteOf a_standsAt i_lampMany i_people i_minute a_tape a_letter a_letterAt a_told i_taped i_at i_statements a_kept i_hasImage i_isKeeping i_cursor a_far a_shut a_queue i_queued a_litBy a_may a_row i_rowMany g0) (gTy cI cL))) (gQ D b (some (.int R.1)) M (mg cI h0 a_refused a_isWall a_kind a_lampCell a_range a_lit a_scenes a_who a_cell a_minuteOf a_standsAt i_lampMany i_people i_minute a_tape a_letter a_letterAt a_told i_taped i_at i_statements a_kept i_hasImage i_isKeeping i_cursor R.2.1 R.2.2.1 R.2.2.2.1 R.2.2.2.2 a_litBy a_may a_row i_rowMany g0)) 0 0 (gA b) := by
  refine gp_met (cc := cX12_stepsOf) (maxL := 3) (ret := (some .int)) (by decide) rfl (Nat.le_of_ble_eq_true rfl) ?_
  intro p e s m below meth c X ls hG hl
  have hS : va_S (gA b) s.heap s.heap [] := va_S.rf
  obtain ⟨H, hH0⟩ : ∃ H : Heap, H = s.heap := ⟨_, rfl⟩
  rw [← hH0] at hG ⊢
  have hS : va_S (gA b) s.heap H [] := by rw [hH0]; exact va_S.rf
  obtain ⟨locs, hlo⟩ : ∃ z : List Loc, z = [] := ⟨_, rfl⟩
  rw [← hlo] at hS ⊢
  unfold f_X12_stepsOf at hf
  obtain ⟨hx, hb, hr, hml, hown, hts, hlocks, hKn, hBs⟩ := id X
  have hK := hKn.1
  have hin : ∀ w ∈ wsX120, w ∈ wsX12_stepsOf := fun w h => List.mem_cons_of_mem _ (List.mem_append_right _ h)
  have hl : lv_has ls 3 [(0, .ref h0), (1, .int v1), (2, .int v2)] := hl
  refine lv_aload_n hx hb dX12_stepsOf_0 rfl (lv_at hl 0 rfl) ?_
  obtain ⟨o1, hc1, hf⟩ := gb_b hf
  refine gp_callV (va_runV (As := []) (rest := []) ⟨hx, hb, hml, hown, hts⟩ (c_X12_shutsWalls (l := l) (D := D) (b := b) (M := M) (cI := cI) (cL := cL) hc1) (cwV 0 hts gX12_stepsOf_X12_shutsWalls rfl rfl rfl (by decide +kernel) ⟨Nat.le_of_ble_eq_true rfl, Nat.le_of_ble_eq_true rfl⟩) (gp_preV hKn hG mg_o rfl) rfl rfl hl.1 rfl (lv_room (Nat.le_of_ble_eq_true rfl)) dX12_stepsOf_1 ⟨Nat.le_of_ble_eq_true rfl, Nat.le_of_ble_eq_true rfl⟩) hS (fun H locs hG hS => ?_)
  refine lv_aload_n hx hb dX12_stepsOf_4 rfl (lv_at hl 0 rfl) ?_
  refine lv_iload_n hx hb dX12_stepsOf_5 rfl (lv_at hl 1 rfl) ?_
  obtain ⟨o6, hc6, hf⟩ := gb_b hf
  refine gp_callV (va_runV (As := [.int v1]) (rest := []) ⟨hx, hb, hml, hown, hts⟩ (c_X12_findFar (l := l) (D := D) (b := b) (M := M) (cI := cI) (cL := cL) hc6) (cwV 1 hts gX12_stepsOf_X12_findFar rfl rfl rfl (by decide +kernel) ⟨Nat.le_of_ble_eq_true rfl, Nat.le_of_ble_eq_true rfl⟩) (gp_preV hKn hG mg_o rfl) rfl rfl hl.1 rfl (lv_room (Nat.le_of_ble_eq_true rfl)) dX12_stepsOf_6 ⟨Nat.le_of_ble_eq_true rfl, Nat.le_of_ble_eq_true rfl⟩) hS (fun H locs hG hS => ?_)
  refine lv_aload_n hx hb dX12_stepsOf_9 rfl (lv_at hl 0 rfl) ?_
  refine gp_get (v := .ref (h0 + 17)) (C := RX12) (T := TX12) (N := 33) (ci := 10) hx hb hts hin hown hK hG mg_o rfl 25 (by decide) (hts _ (List.mem_of_getElem? (i := 1) rfl)) (fun _ h9 => h9) rfl dX12_stepsOf_10 ?_
  refine lv_iload_n hx hb dX12_stepsOf_13 rfl (lv_at hl 2 rfl) ?_
  obtain ⟨b14, hf⟩ := gb_ix hf
  refine gp_iald hx hb hK hG mg_far b14 dX12_stepsOf_14 ?_
  have hf := Option.some.inj hf
  subst hf
  exact gp_retI hx hb hr hlocks hG hS (Nat.le_refl _) (Nat.le_refl _) dX12_stepsOf_15
-- X12_notGo
abbrev rm_X12_notGo : Room := { frames := 3, cells := 0, slots := 0, locals := 67 }
set_option maxHeartbeats 4000000 in
set_option maxRecDepth 100000 in
theorem c_X12_notGo {v1 : Int32} {v2 : Int32} {R : Int32 × (Nat → Int32) × (Nat → Int32) × (Nat → Int32) × Int32} (hf : f_X12_notGo a_isWall a_standsAt i_people i_minute a_far a_shut a_queue i_queued v1 v2 = some R) : Met l yX12_notGo wsX12_notGo rm_X12_notGo (va_Pc [.ref h0, .int v1, .int v2] (gPre D b M (mg cI h0 a_refused a_isWall a_kind a_lampCell a_range a_lit a_scenes a_who a_cell a_minuteOf a_standsAt i_lampMany i_people i_minute a_tape a_letter a_letterAt a_told i_taped i_at i_statements a_kept i_hasImage i_isKeeping i_cursor a_far a_shut a_queue i_queued a_litBy a_may a_row i_rowMany g0) (gTy cI cL))) (gQ D b (some (.int R.1)) M (mg cI h0 a_refused a_isWall a_kind a_lampCell a_range a_lit a_scenes a_who a_cell a_minuteOf a_standsAt i_lampMany i_people i_minute a_tape a_letter a_letterAt a_told i_taped i_at i_statements a_kept i_hasImage i_isKeeping i_cursor R.2.1 R.2.2.1 R.2.2.2.1 R.2.2.2.2 a_litBy a_may a_row i_rowMany g0)) 0 0 (gA b) := by
  refine gp_met (cc := cX12_notGo) (maxL := 4) (ret := (some .int)) (by decide) rfl (Nat.le_of_ble_eq_true rfl) ?_
  intro p e s m below meth c X ls hG hl
  have hS : va_S (gA b) s.heap s.heap [] := va_S.rf
  obtain ⟨H, hH0⟩ : ∃ H : Heap, H = s.heap := ⟨_, rfl⟩
  rw [← hH0] at hG ⊢
  have hS : va_S (gA b) s.heap H [] := by rw [hH0]; exact va_S.rf
  obtain ⟨locs, hlo⟩ : ∃ z : List Loc, z = [] := ⟨_, rfl⟩
  rw [← hlo] at hS ⊢
  unfold f_X12_notGo at hf
  obtain ⟨hx, hb, hr, hml, hown, hts, hlocks, hKn, hBs⟩ := id X
  have hK := hKn.1
  have hin : ∀ w ∈ wsX120, w ∈ wsX12_notGo := fun w h => List.mem_cons_of_mem _ (List.mem_append_right _ h)
  have hl : lv_has ls 4 [(0, .ref h0), (1, .int v1), (2, .int v2)] := hl
  refine lv_aload_n hx hb dX12_notGo_0 rfl (lv_at hl 0 rfl) ?_
  refine lv_iload_n hx hb dX12_notGo_1 rfl (lv_at hl 1 rfl) ?_
  obtain ⟨o2, hc2, hf⟩ := gb_b hf
  refine gp_callI (va_runV (As := [.int v1]) (rest := []) ⟨hx, hb, hml, hown, hts⟩ (c_X12_isPerson (l := l) (D := D) (b := b) (M := M) (cI := cI) (cL := cL) hc2) (cwV 1 hts gX12_notGo_X12_isPerson rfl rfl rfl (by decide +kernel) ⟨Nat.le_of_ble_eq_true rfl, Nat.le_of_ble_eq_true rfl⟩) (gp_preV hKn hG mg_o rfl) rfl rfl hl.1 rfl (lv_room (Nat.le_of_ble_eq_true rfl)) dX12_notGo_2 ⟨Nat.le_of_ble_eq_true rfl, Nat.le_of_ble_eq_true rfl⟩) hS (fun H locs hG hS => ?_)
  refine lv_if_eq (tgt := 15) hx hb dX12_notGo_5 (by decide) (fun c5 => ?_) (fun c5 => ?_)
  · have hf := gb_t c5 hf
    refine lv_iconst (v := (-1 : Int32)) hx hb dX12_notGo_15 (by decide) ?_
    have hf := Option.some.inj hf
    subst hf
    exact gp_retI hx hb hr hlocks hG hS (Nat.le_refl _) (Nat.le_refl _) dX12_notGo_16
  · have hf := gb_f c5 hf
    refine lv_iload_n hx hb dX12_notGo_8 rfl (lv_at hl 2 rfl) ?_
    obtain ⟨o9, hc9, hf⟩ := gb_b hf
    refine gp_callI (va_runS (As := [.int v2]) (rest := []) ⟨hx, hb, hml, hown, hts⟩ (c_X12_isCell (l := l) (D := D) (b := b) (M := M) (cI := cI) (cL := cL) hc9) (va_cwS 1 hts gX12_notGo_X12_isCell rfl rfl rfl (by decide +kernel) ⟨Nat.le_of_ble_eq_true rfl, Nat.le_of_ble_eq_true rfl⟩) (gp_preS hKn hG) rfl rfl hl.1 rfl (lv_room (Nat.le_of_ble_eq_true rfl)) dX12_notGo_9 ⟨Nat.le_of_ble_eq_true rfl, Nat.le_of_ble_eq_true rfl⟩) hS (fun H locs hG hS => ?_)
    refine lv_if_ne (tgt := 17) hx hb dX12_notGo_12 (by decide) (fun c12 => ?_) (fun c12 => ?_)
    · have hf := gb_f c12 hf
      refine lv_aload_n hx hb dX12_notGo_17 rfl (lv_at hl 0 rfl) ?_
      refine lv_aload_n hx hb dX12_notGo_18 rfl (lv_at hl 0 rfl) ?_
      refine gp_get (v := .ref (h0 + 11)) (C := RX12) (T := TX12) (N := 33) (ci := 10) hx hb hts hin hown hK hG mg_o rfl 10 (by decide) (hts _ (List.mem_of_getElem? (i := 1) rfl)) (fun _ h9 => h9) rfl dX12_notGo_19 ?_
      refine lv_iload_n hx hb dX12_notGo_22 rfl (lv_at hl 1 rfl) ?_
      obtain ⟨b23, hf⟩ := gb_ix hf
      refine gp_iald hx hb hK hG mg_standsAt b23 dX12_notGo_23 ?_
      refine lv_iload_n hx hb dX12_notGo_24 rfl (lv_at hl 2 rfl) ?_
      obtain ⟨o25, hc25, hf⟩ := gb_b hf
      refine gp_callI (va_runV (As := [.int (a_standsAt v1.toNatClampNeg), .int v2]) (rest := []) ⟨hx, hb, hml, hown, hts⟩ (c_X12_stepsOf (l := l) (D := D) (b := b) (M := M) (cI := cI) (cL := cL) hc25) (cwV 2 hts gX12_notGo_X12_stepsOf rfl rfl rfl (by decide +kernel) ⟨Nat.le_of_ble_eq_true rfl, Nat.le_of_ble_eq_true rfl⟩) (gp_preV hKn hG mg_o rfl) rfl rfl hl.1 rfl (lv_room (Nat.le_of_ble_eq_true rfl)) dX12_notGo_25 ⟨Nat.le_of_ble_eq_true rfl, Nat.le_of_ble_eq_true rfl⟩) hS (fun H locs hG hS => ?_)
      refine lv_istore_n (lv' := [(3, .int o25.1), (0, .ref h0), (1, .int v1), (2, .int v2)]) hx hb dX12_notGo_28 rfl hl (by decide) rfl (fun ls hl => ?_)
      refine lv_iload_n hx hb dX12_notGo_29 rfl (lv_at hl 0 rfl) ?_
      have hJ30 : ∀ Z : Int32, Z = (if 0 ≤ o25.1 then if (i_minute + o25.1) ≤ 9999 then 0 else (-6 : Int32) else (-3 : Int32)) → W p l e rm_X12_notGo s m [.ref h0, .int v1, .int v2].toArray below meth c H locs 0 0 (MQ below (gQ D b (some (.int R.1)) M (mg cI h0 a_refused a_isWall a_kind a_lampCell a_range a_lit a_scenes a_who a_cell a_minuteOf a_standsAt i_lampMany i_people i_minute a_tape a_letter a_letterAt a_told i_taped i_at i_statements a_kept i_hasImage i_isKeeping i_cursor R.2.1 R.2.2.1 R.2.2.2.1 R.2.2.2.2 a_litBy a_may a_row i_rowMany g0)) [.ref h0, .int v1, .int v2].toArray s 0 0 (gA b)) (F0 m 56 ls (.int Z :: [])) := by
        intro Z hZ
        subst hZ
        have hf := Option.some.inj hf
        subst hf
        exact gp_retI hx hb hr hlocks hG hS (Nat.le_refl _) (Nat.le_refl _) dX12_notGo_56
      refine lv_if_ge (tgt := 38) hx hb dX12_notGo_30 (by decide) (fun c30 => ?_) (fun c30 => ?_)
      · rw [if_pos c30] at hJ30
        refine lv_aload_n hx hb dX12_notGo_38 rfl (lv_at hl 1 rfl) ?_
        refine gp_get (v := .int i_minute) (C := RX12) (T := TX12) (N := 33) (ci := 10) hx hb hts hin hown hK hG mg_o rfl 13 (by decide) (hts _ (List.mem_of_getElem? (i := 2) rfl)) (fun _ h9 => h9) rfl dX12_notGo_39 ?_
        refine lv_iload_n hx hb dX12_notGo_42 rfl (lv_at hl 0 rfl) ?_
        refine lv_iadd hx hb dX12_notGo_43 ?_
        refine lv_sipush (v := 9999) hx hb dX12_notGo_44 (by decide) ?_
        refine lv_icmp_le (tgt := 55) hx hb dX12_notGo_47 (by decide) (fun c47 => ?_) (fun c47 => ?_)
        · rw [if_pos c47] at hJ30
          refine lv_iconst (v := 0) hx hb dX12_notGo_55 (by decide) ?_
          exact hJ30 _ rfl
        · rw [if_neg c47] at hJ30
          refine lv_bipush (v := (-6 : Int32)) hx hb dX12_notGo_50 (by decide) ?_
          refine lv_goto (tgt := 56) hx hb dX12_notGo_52 (by decide) ?_
          exact hJ30 _ rfl
      · rw [if_neg c30] at hJ30
        refine lv_bipush (v := (-3 : Int32)) hx hb dX12_notGo_33 (by decide) ?_
        refine lv_goto (tgt := 56) hx hb dX12_notGo_35 (by decide) ?_
        exact hJ30 _ rfl
    · have hf := gb_t c12 hf
      refine lv_iconst (v := (-1 : Int32)) hx hb dX12_notGo_15 (by decide) ?_
      have hf := Option.some.inj hf
      subst hf
      exact gp_retI hx hb hr hlocks hG hS (Nat.le_refl _) (Nat.le_refl _) dX12_notGo_16
-- X12_cellOf
abbrev rm_X12_cellOf : Room := { frames := 0, cells := 0, slots := 0, locals := 0 }
set_option maxHeartbeats 4000000 in
set_option maxRecDepth 100000 in
theorem c_X12_cellOf {v1 : Int32} {R : Int32} (hf : f_X12_cellOf a_kind a_lampCell a_standsAt i_people v1 = some R) : Met l yX12_cellOf wsX12_cellOf rm_X12_cellOf (va_Pc [.ref h0, .int v1] (gPre D b M (mg cI h0 a_refused a_isWall a_kind a_lampCell a_range a_lit a_scenes a_who a_cell a_minuteOf a_standsAt i_lampMany i_people i_minute a_tape a_letter a_letterAt a_told i_taped i_at i_statements a_kept i_hasImage i_isKeeping i_cursor a_far a_shut a_queue i_queued a_litBy a_may a_row i_rowMany g0) (gTy cI cL))) (gQ D b (some (.int R)) M (mg cI h0 a_refused a_isWall a_kind a_lampCell a_range a_lit a_scenes a_who a_cell a_minuteOf a_standsAt i_lampMany i_people i_minute a_tape a_letter a_letterAt a_told i_taped i_at i_statements a_kept i_hasImage i_isKeeping i_cursor a_far a_shut a_queue i_queued a_litBy a_may a_row i_rowMany g0)) 0 0 (gA b) := by
  refine gp_met (cc := cX12_cellOf) (maxL := 3) (ret := (some .int)) (by decide) rfl (Nat.le_of_ble_eq_true rfl) ?_
  intro p e s m below meth c X ls hG hl
  have hS : va_S (gA b) s.heap s.heap [] := va_S.rf
  obtain ⟨H, hH0⟩ : ∃ H : Heap, H = s.heap := ⟨_, rfl⟩
  rw [← hH0] at hG ⊢
  have hS : va_S (gA b) s.heap H [] := by rw [hH0]; exact va_S.rf
  obtain ⟨locs, hlo⟩ : ∃ z : List Loc, z = [] := ⟨_, rfl⟩
  rw [← hlo] at hS ⊢
  unfold f_X12_cellOf at hf
  obtain ⟨hx, hb, hr, hml, hown, hts, hlocks, hKn, hBs⟩ := id X
  have hK := hKn.1
  have hin : ∀ w ∈ wsX120, w ∈ wsX12_cellOf := fun w h => List.mem_cons_of_mem _ (List.mem_append_right _ h)
  have hl : lv_has ls 3 [(0, .ref h0), (1, .int v1)] := hl
  refine lv_aload_n hx hb dX12_cellOf_0 rfl (lv_at hl 0 rfl) ?_
  refine gp_get (v := .ref (h0 + 4)) (C := RX12) (T := TX12) (N := 33) (ci := 10) hx hb hts hin hown hK hG mg_o rfl 3 (by decide) (hts _ (List.mem_of_getElem? (i := 1) rfl)) (fun _ h9 => h9) rfl dX12_cellOf_1 ?_
  refine lv_iload_n hx hb dX12_cellOf_4 rfl (lv_at hl 1 rfl) ?_
  obtain ⟨b5, hf⟩ := gb_ix hf
  refine gp_iald hx hb hK hG mg_lampCell b5 dX12_cellOf_5 ?_
  refine lv_iconst (v := 4) hx hb dX12_cellOf_6 (by decide) ?_
  refine lv_irem hx hb dX12_cellOf_7 (by decide) ?_
  refine lv_istore_n (lv' := [(2, .int ((a_lampCell v1.toNatClampNeg) - (a_lampCell v1.toNatClampNeg) / 4 * 4)), (0, .ref h0), (1, .int v1)]) hx hb dX12_cellOf_8 rfl hl (by decide) rfl (fun ls hl => ?_)
  refine lv_aload_n hx hb dX12_cellOf_9 rfl (lv_at hl 1 rfl) ?_
  refine gp_get (v := .ref (h0 + 3)) (C := RX12) (T := TX12) (N := 33) (ci := 10) hx hb hts hin hown hK hG mg_o rfl 2 (by decide) (hts _ (List.mem_of_getElem? (i := 2) rfl)) (fun _ h9 => h9) rfl dX12_cellOf_10 ?_
  refine lv_iload_n hx hb dX12_cellOf_13 rfl (lv_at hl 2 rfl) ?_
  obtain ⟨b14, hf⟩ := gb_ix hf
  refine gp_iald hx hb hK hG mg_kind b14 dX12_cellOf_14 ?_
  refine lv_iconst (v := 3) hx hb dX12_cellOf_15 (by decide) ?_
  obtain ⟨j16, hj16, hf⟩ := gb_b hf
  have hJ16 : ∀ (H : Heap) (locs : List Loc) (ls : Array Slot), GP D b M (mg cI h0 a_refused a_isWall a_kind a_lampCell a_range a_lit a_scenes a_who a_cell a_minuteOf a_standsAt i_lampMany i_people i_minute a_tape a_letter a_letterAt a_told i_taped i_at i_statements a_kept i_hasImage i_isKeeping i_cursor a_far a_shut a_queue i_queued a_litBy a_may a_row i_rowMany g0) H → va_S (gA b) s.heap H locs → lv_has ls 3 [] → W p l e rm_X12_cellOf s m [.ref h0, .int v1].toArray below meth c H locs 0 0 (MQ below (gQ D b (some (.int R)) M (mg cI h0 a_refused a_isWall a_kind a_lampCell a_range a_lit a_scenes a_who a_cell a_minuteOf a_standsAt i_lampMany i_people i_minute a_tape a_letter a_letterAt a_told i_taped i_at i_statements a_kept i_hasImage i_isKeeping i_cursor a_far a_shut a_queue i_queued a_litBy a_may a_row i_rowMany g0)) [.ref h0, .int v1].toArray s 0 0 (gA b)) (F0 m 42 ls [.int j16]) := by
    intro H locs ls hG hS hl
    have hf := Option.some.inj hf
    subst hf
    exact gp_retI hx hb hr hlocks hG hS (Nat.le_refl _) (Nat.le_refl _) dX12_cellOf_42
  refine lv_icmp_ne (tgt := 36) hx hb dX12_cellOf_16 (by decide) (fun c16 => ?_) (fun c16 => ?_)
  · have hj16 := gb_f c16 hj16
    refine lv_aload_n hx hb dX12_cellOf_36 rfl (lv_at hl 1 rfl) ?_
    refine gp_get (v := .ref (h0 + 4)) (C := RX12) (T := TX12) (N := 33) (ci := 10) hx hb hts hin hown hK hG mg_o rfl 3 (by decide) (hts _ (List.mem_of_getElem? (i := 1) rfl)) (fun _ h9 => h9) rfl dX12_cellOf_37 ?_
    refine lv_iload_n hx hb dX12_cellOf_40 rfl (lv_at hl 2 rfl) ?_
    obtain ⟨b41, hj16⟩ := gb_ix hj16
    refine gp_iald hx hb hK hG mg_lampCell b41 dX12_cellOf_41 ?_
    have hj16 := Option.some.inj hj16
    subst hj16
    exact hJ16 H locs ls hG hS (lv_sub hl [] rfl)
  · have hj16 := gb_t c16 hj16
    refine lv_iload_n hx hb dX12_cellOf_19 rfl (lv_at hl 0 rfl) ?_
    refine lv_aload_n hx hb dX12_cellOf_20 rfl (lv_at hl 1 rfl) ?_
    refine gp_get (v := .int i_people) (C := RX12) (T := TX12) (N := 33) (ci := 10) hx hb hts hin hown hK hG mg_o rfl 12 (by decide) (hts _ (List.mem_of_getElem? (i := 3) rfl)) (fun _ h9 => h9) rfl dX12_cellOf_21 ?_
    refine lv_icmp_ge (tgt := 36) hx hb dX12_cellOf_24 (by decide) (fun c24 => ?_) (fun c24 => ?_)
    · have hj16 := gb_t c24 hj16
      refine lv_aload_n hx hb dX12_cellOf_36 rfl (lv_at hl 1 rfl) ?_
      refine gp_get (v := .ref (h0 + 4)) (C := RX12) (T := TX12) (N := 33) (ci := 10) hx hb hts hin hown hK hG mg_o rfl 3 (by decide) (hts _ (List.mem_of_getElem? (i := 1) rfl)) (fun _ h9 => h9) rfl dX12_cellOf_37 ?_
      refine lv_iload_n hx hb dX12_cellOf_40 rfl (lv_at hl 2 rfl) ?_
      obtain ⟨b41, hj16⟩ := gb_ix hj16
      refine gp_iald hx hb hK hG mg_lampCell b41 dX12_cellOf_41 ?_
      have hj16 := Option.some.inj hj16
      subst hj16
      exact hJ16 H locs ls hG hS (lv_sub hl [] rfl)
    · have hj16 := gb_f c24 hj16
      refine lv_aload_n hx hb dX12_cellOf_27 rfl (lv_at hl 1 rfl) ?_
      refine gp_get (v := .ref (h0 + 11)) (C := RX12) (T := TX12) (N := 33) (ci := 10) hx hb hts hin hown hK hG mg_o rfl 10 (by decide) (hts _ (List.mem_of_getElem? (i := 4) rfl)) (fun _ h9 => h9) rfl dX12_cellOf_28 ?_
      refine lv_iload_n hx hb dX12_cellOf_31 rfl (lv_at hl 0 rfl) ?_
      obtain ⟨b32, hj16⟩ := gb_ix hj16
      refine gp_iald hx hb hK hG mg_standsAt b32 dX12_cellOf_32 ?_
      refine lv_goto (tgt := 42) hx hb dX12_cellOf_33 (by decide) ?_
      have hj16 := Option.some.inj hj16
      subst hj16
      exact hJ16 H locs ls hG hS (lv_sub hl [] rfl)
-- X12_findLight
abbrev rm_X12_findLight : Room := { frames := 2, cells := 0, slots := 0, locals := 45 }
set_option maxHeartbeats 4000000 in
set_option maxRecDepth 100000 in
theorem w_X12_findLight_11 {α : Type} {R : α} {K74 : (Nat → Int32) → Option α} {v1 : Int32} {v2 : Int32} (X : gC p s m args meth c cX12_findLight 4 none wsX12_findLight RX12 D b (gTy cI cL)) : ∀ (n : Nat) (v3 : Int32) (a_far : Nat → Int32), L_X12_findLight_11 K74 a_isWall v1 v2 n v3 a_far = some R → (∀ (x : (Nat → Int32)), K74 x = some R → ∀ (H : Heap) (locs : List Loc) (ls : Array Slot), GP D b M (mg cI h0 a_refused a_isWall a_kind a_lampCell a_range a_lit a_scenes a_who a_cell a_minuteOf a_standsAt i_lampMany i_people i_minute a_tape a_letter a_letterAt a_told i_taped i_at i_statements a_kept i_hasImage i_isKeeping i_cursor x a_shut a_queue i_queued a_litBy a_may a_row i_rowMany g0) H → va_S (gA b) s.heap H locs → lv_has ls 4 [] → W p l e rm_X12_findLight s m args below meth c H locs 0 0 Q (F0 m 74 ls [])) → ∀ (H : Heap) (locs : List Loc) (ls : Array Slot), GP D b M (mg cI h0 a_refused a_isWall a_kind a_lampCell a_range a_lit a_scenes a_who a_cell a_minuteOf a_standsAt i_lampMany i_people i_minute a_tape a_letter a_letterAt a_told i_taped i_at i_statements a_kept i_hasImage i_isKeeping i_cursor a_far a_shut a_queue i_queued a_litBy a_may a_row i_rowMany g0) H → va_S (gA b) s.heap H locs → lv_has ls 4 [(0, .ref h0), (1, .int v1), (2, .int v2), (3, .int v3)] → W p l e rm_X12_findLight s m args below meth c H locs 0 0 Q (F0 m 11 ls []) := by
  obtain ⟨hx, hb, hr, hml, hown, hts, hlocks, hKn, hBs⟩ := id X
  have hK := hKn.1
  have hin : ∀ w ∈ wsX120, w ∈ wsX12_findLight := fun w h => List.mem_cons_of_mem _ (List.mem_append_right _ h)
  intro n
  induction n with
  | zero =>
    intro v3 a_far hf
    cases hf
  | succ n ih =>
    intro v3 a_far hf hk74 H locs ls hG hS hl
    rw [L_X12_findLight_11.eq_2] at hf
    refine lv_iload_n hx hb dX12_findLight_11 rfl (lv_at hl 3 rfl) ?_
    refine lv_bipush (v := 36) hx hb dX12_findLight_12 (by decide) ?_
    refine lv_icmp_ge (tgt := 74) hx hb dX12_findLight_14 (by decide) (fun c14 => ?_) (fun c14 => ?_)
    · have hf := gb_t c14 hf
      exact hk74 _ hf _ _ _ hG hS (lv_sub hl [] rfl)
    · have hf := gb_f c14 hf
      refine lv_aload_n hx hb dX12_findLight_17 rfl (lv_at hl 0 rfl) ?_
      refine gp_get (v := .ref (h0 + 17)) (C := RX12) (T := TX12) (N := 33) (ci := 10) hx hb hts hin hown hK hG mg_o rfl 25 (by decide) (hts _ (List.mem_of_getElem? (i := 1) rfl)) (fun _ h9 => h9) rfl dX12_findLight_18 ?_
      refine lv_iload_n hx hb dX12_findLight_21 rfl (lv_at hl 3 rfl) ?_
      refine lv_aload_n hx hb dX12_findLight_22 rfl (lv_at hl 0 rfl) ?_
      refine gp_get (v := .ref (h0 + 2)) (C := RX12) (T := TX12) (N := 33) (ci := 10) hx hb hts hin hown hK hG mg_o rfl 1 (by decide) (hts _ (List.mem_of_getElem? (i := 2) rfl)) (fun _ h9 => h9) rfl dX12_findLight_23 ?_
      refine lv_iload_n hx hb dX12_findLight_26 rfl (lv_at hl 1 rfl) ?_
      obtain ⟨b27, hf⟩ := gb_ix hf
      refine gp_iald hx hb hK hG mg_isWall b27 dX12_findLight_27 ?_
      refine lv_iconst (v := 1) hx hb dX12_findLight_28 (by decide) ?_
      obtain ⟨j29, hj29, hf⟩ := gb_b hf
      have hJ29 : ∀ (H : Heap) (locs : List Loc) (ls : Array Slot), GP D b M (mg cI h0 a_refused a_isWall a_kind a_lampCell a_range a_lit a_scenes a_who a_cell a_minuteOf a_standsAt i_lampMany i_people i_minute a_tape a_letter a_letterAt a_told i_taped i_at i_statements a_kept i_hasImage i_isKeeping i_cursor a_far a_shut a_queue i_queued a_litBy a_may a_row i_rowMany g0) H → va_S (gA b) s.heap H locs → lv_has ls 4 [(0, .ref h0), (1, .int v1), (2, .int v2), (3, .int v3)] → W p l e rm_X12_findLight s m args below meth c H locs 0 0 Q (F0 m 67 ls [.int j29, .int v3, .ref (h0 + 17)]) := by
        intro H locs ls hG hS hl
        obtain ⟨b67, hf⟩ := gb_ix hf
        refine gp_iast hx hb hK hG hS mg_far b67 mu_far dX12_findLight_67 (fun H locs hG hS => ?_)
        refine lv_iinc (v := v3 + 1) (lv' := [(3, .int (v3 + 1)), (0, .ref h0), (1, .int v1), (2, .int v2)]) hx hb dX12_findLight_68 hl (k := 3) rfl rfl (by decide) rfl (fun ls hl => ?_)
        refine lv_goto (tgt := 11) hx hb dX12_findLight_71 (by decide) ?_
        exact ih _ _ hf hk74 _ _ _ hG hS (lv_sub hl [1, 2, 3, 0] rfl)
      refine lv_icmp_ne (tgt := 46) hx hb dX12_findLight_29 (by decide) (fun c29 => ?_) (fun c29 => ?_)
      · have hj29 := gb_f c29 hj29
        refine lv_aload_n hx hb dX12_findLight_46 rfl (lv_at hl 0 rfl) ?_
        refine gp_get (v := .ref (h0 + 17)) (C := RX12) (T := TX12) (N := 33) (ci := 10) hx hb hts hin hown hK hG mg_o rfl 25 (by decide) (hts _ (List.mem_of_getElem? (i := 1) rfl)) (fun _ h9 => h9) rfl dX12_findLight_47 ?_
        refine lv_iload_n hx hb dX12_findLight_50 rfl (lv_at hl 3 rfl) ?_
        obtain ⟨b51, hj29⟩ := gb_ix hj29
        refine gp_iald hx hb hK hG mg_far b51 dX12_findLight_51 ?_
        refine lv_iload_n hx hb dX12_findLight_52 rfl (lv_at hl 2 rfl) ?_
        refine lv_icmp_le (tgt := 61) hx hb dX12_findLight_53 (by decide) (fun c53 => ?_) (fun c53 => ?_)
        · have hj29 := gb_t c53 hj29
          refine lv_aload_n hx hb dX12_findLight_61 rfl (lv_at hl 0 rfl) ?_
          refine gp_get (v := .ref (h0 + 17)) (C := RX12) (T := TX12) (N := 33) (ci := 10) hx hb hts hin hown hK hG mg_o rfl 25 (by decide) (hts _ (List.mem_of_getElem? (i := 1) rfl)) (fun _ h9 => h9) rfl dX12_findLight_62 ?_
          refine lv_iload_n hx hb dX12_findLight_65 rfl (lv_at hl 3 rfl) ?_
          obtain ⟨b66, hj29⟩ := gb_ix hj29
          refine gp_iald hx hb hK hG mg_far b66 dX12_findLight_66 ?_
          have hj29 := Option.some.inj hj29
          subst hj29
          exact hJ29 H locs ls hG hS (lv_sub hl [0, 1, 2, 3] rfl)
        · have hj29 := gb_f c53 hj29
          refine lv_bipush (v := (-9 : Int32)) hx hb dX12_findLight_56 (by decide) ?_
          refine lv_goto (tgt := 67) hx hb dX12_findLight_58 (by decide) ?_
          have hj29 := Option.some.inj hj29
          subst hj29
          exact hJ29 H locs ls hG hS (lv_sub hl [0, 1, 2, 3] rfl)
      · have hj29 := gb_t c29 hj29
        refine lv_iload_n hx hb dX12_findLight_32 rfl (lv_at hl 3 rfl) ?_
        refine lv_iload_n hx hb dX12_findLight_33 rfl (lv_at hl 1 rfl) ?_
        refine lv_icmp_ne (tgt := 41) hx hb dX12_findLight_34 (by decide) (fun c34 => ?_) (fun c34 => ?_)
        · have hj29 := gb_f c34 hj29
          refine lv_bipush (v := (-9 : Int32)) hx hb dX12_findLight_41 (by decide) ?_
          refine lv_goto (tgt := 67) hx hb dX12_findLight_43 (by decide) ?_
          have hj29 := Option.some.inj hj29
          subst hj29
          exact hJ29 H locs ls hG hS (lv_sub hl [0, 1, 2, 3] rfl)
        · have hj29 := gb_t c34 hj29
          refine lv_iconst (v := 0) hx hb dX12_findLight_37 (by decide) ?_
          refine lv_goto (tgt := 67) hx hb dX12_findLight_38 (by decide) ?_
          have hj29 := Option.some.inj hj29
          subst hj29
          exact hJ29 H locs ls hG hS (lv_sub hl [0, 1, 2, 3] rfl)
set_option maxHeartbeats 4000000 in
set_option maxRecDepth 100000 in
theorem c_X12_findLight {v1 : Int32} {v2 : Int32} {R : (Nat → Int32) × (Nat → Int32) × (Nat → Int32) × Int32} (hf : f_X12_findLight a_isWall a_far a_shut a_queue i_queued v1 v2 = some R) : Met l yX12_findLight wsX12_findLight rm_X12_findLight (va_Pc [.ref h0, .int v1, .int v2] (gPre D b M (mg cI h0 a_refused a_isWall a_kind a_lampCell a_range a_lit a_scenes a_who a_cell a_minuteOf a_standsAt i_lampMany i_people i_minute a_tape a_letter a_letterAt a_told i_taped i_at i_statements a_kept i_hasImage i_isKeeping i_cursor a_far a_shut a_queue i_queued a_litBy a_may a_row i_rowMany g0) (gTy cI cL))) (gQ D b none M (mg cI h0 a_refused a_isWall a_kind a_lampCell a_range a_lit a_scenes a_who a_cell a_minuteOf a_standsAt i_lampMany i_people i_minute a_tape a_letter a_letterAt a_told i_taped i_at i_statements a_kept i_hasImage i_isKeeping i_cursor R.1 R.2.1 R.2.2.1 R.2.2.2 a_litBy a_may a_row i_rowMany g0)) 0 0 (gA b) := by
  refine gp_met (cc := cX12_findLight) (maxL := 4) (ret := none) (by decide) rfl (Nat.le_of_ble_eq_true rfl) ?_
  intro p e s m below meth c X ls hG hl
  have hS : va_S (gA b) s.heap s.heap [] := va_S.rf
  obtain ⟨H, hH0⟩ : ∃ H : Heap, H = s.heap := ⟨_, rfl⟩
  rw [← hH0] at hG ⊢
  have hS : va_S (gA b) s.heap H [] := by rw [hH0]; exact va_S.rf
  obtain ⟨locs, hlo⟩ : ∃ z : List Loc, z = [] := ⟨_, rfl⟩
  rw [← hlo] at hS ⊢
  unfold f_X12_findLight at hf
  obtain ⟨hx, hb, hr, hml, hown, hts, hlocks, hKn, hBs⟩ := id X
  have hK := hKn.1
  have hin : ∀ w ∈ wsX120, w ∈ wsX12_findLight := fun w h => List.mem_cons_of_mem _ (List.mem_append_right _ h)
  have hl : lv_has ls 4 [(0, .ref h0), (1, .int v1), (2, .int v2)] := hl
  refine lv_aload_n hx hb dX12_findLight_0 rfl (lv_at hl 0 rfl) ?_
  obtain ⟨o1, hc1, hf⟩ := gb_b hf
  refine gp_callV (va_runV (As := []) (rest := []) ⟨hx, hb, hml, hown, hts⟩ (c_X12_shutsWalls (l := l) (D := D) (b := b) (M := M) (cI := cI) (cL := cL) hc1) (cwV 0 hts gX12_findLight_X12_shutsWalls rfl rfl rfl (by decide +kernel) ⟨Nat.le_of_ble_eq_true rfl, Nat.le_of_ble_eq_true rfl⟩) (gp_preV hKn hG mg_o rfl) rfl rfl hl.1 rfl (lv_room (Nat.le_of_ble_eq_true rfl)) dX12_findLight_1 ⟨Nat.le_of_ble_eq_true rfl, Nat.le_of_ble_eq_true rfl⟩) hS (fun H locs hG hS => ?_)
  refine lv_aload_n hx hb dX12_findLight_4 rfl (lv_at hl 0 rfl) ?_
  refine lv_iload_n hx hb dX12_findLight_5 rfl (lv_at hl 1 rfl) ?_
  obtain ⟨o6, hc6, hf⟩ := gb_b hf
  refine gp_callV (va_runV (As := [.int v1]) (rest := []) ⟨hx, hb, hml, hown, hts⟩ (c_X12_findFar (l := l) (D := D) (b := b) (M := M) (cI := cI) (cL := cL) hc6) (cwV 1 hts gX12_findLight_X12_findFar rfl rfl rfl (by decide +kernel) ⟨Nat.le_of_ble_eq_true rfl, Nat.le_of_ble_eq_true rfl⟩) (gp_preV hKn hG mg_o rfl) rfl rfl hl.1 rfl (lv_room (Nat.le_of_ble_eq_true rfl)) dX12_findLight_6 ⟨Nat.le_of_ble_eq_true rfl, Nat.le_of_ble_eq_true rfl⟩) hS (fun H locs hG hS => ?_)
  refine lv_iconst (v := 0) hx hb dX12_findLight_9 (by decide) ?_
  refine lv_istore_n (lv' := [(3, .int 0), (0, .ref h0), (1, .int v1), (2, .int v2)]) hx hb dX12_findLight_10 rfl hl (by decide) rfl (fun ls hl => ?_)
  refine w_X12_findLight_11 X _ _ _ hf (fun x11_74 hf H locs ls hG hS hl => ?_) _ _ _ hG hS (lv_sub hl [1, 2, 3, 0] rfl)
  · have hf := Option.some.inj hf
    subst hf
    exact gp_retV hx hb hr hlocks hG hS (Nat.le_refl _) (Nat.le_refl _) dX12_findLight_74
-- X12_findLit
abbrev rm_X12_findLit : Room := { frames := 3, cells := 0, slots := 0, locals := 68 }
set_option maxHeartbeats 4000000 in
set_option maxRecDepth 100000 in
theorem w_X12_findLit_2 {α : Type} {R : α} {K21 : (Nat → Int32) → Option α} (X : gC p s m args meth c cX12_findLit 3 none wsX12_findLit RX12 D b (gTy cI cL)) : ∀ (n : Nat) (v1 : Int32) (a_litBy : Nat → Int32), L_X12_findLit_2 K21 n v1 a_litBy = some R → (∀ (x : (Nat → Int32)), K21 x = some R → ∀ (H : Heap) (locs : List Loc) (ls : Array Slot), GP D b M (mg cI h0 a_refused a_isWall a_kind a_lampCell a_range a_lit a_scenes a_who a_cell a_minuteOf a_standsAt i_lampMany i_people i_minute a_tape a_letter a_letterAt a_told i_taped i_at i_statements a_kept i_hasImage i_isKeeping i_cursor a_far a_shut a_queue i_queued x a_may a_row i_rowMany g0) H → va_S (gA b) s.heap H locs → lv_has ls 3 [(0, .ref h0)] → W p l e rm_X12_findLit s m args below meth c H locs 0 0 Q (F0 m 21 ls [])) → ∀ (H : Heap) (locs : List Loc) (ls : Array Slot), GP D b M (mg cI h0 a_refused a_isWall a_kind a_lampCell a_range a_lit a_scenes a_who a_cell a_minuteOf a_standsAt i_lampMany i_people i_minute a_tape a_letter a_letterAt a_told i_taped i_at i_statements a_kept i_hasImage i_isKeeping i_cursor a_far a_shut a_queue i_queued a_litBy a_may a_row i_rowMany g0) H → va_S (gA b) s.heap H locs → lv_has ls 3 [(0, .ref h0), (1, .int v1)] → W p l e rm_X12_findLit s m args below meth c H locs 0 0 Q (F0 m 2 ls []) := by
  obtain ⟨hx, hb, hr, hml, hown, hts, hlocks, hKn, hBs⟩ := id X
  have hK := hKn.1
  have hin : ∀ w ∈ wsX120, w ∈ wsX12_findLit := fun w h => List.mem_cons_of_mem _ (List.mem_append_right _ h)
  intro n
  induction n with
  | zero =>
    intro v1 a_litBy hf
    cases hf
  | succ n ih =>
    intro v1 a_litBy hf hk21 H locs ls hG hS hl
    rw [L_X12_findLit_2.eq_2] at hf
    refine lv_iload_n hx hb dX12_findLit_2 rfl (lv_at hl 1 rfl) ?_
    refine lv_bipush (v := 36) hx hb dX12_findLit_3 (by decide) ?_
    refine lv_icmp_ge (tgt := 21) hx hb dX12_findLit_5 (by decide) (fun c5 => ?_) (fun c5 => ?_)
    · have hf := gb_t c5 hf
      exact hk21 _ hf _ _ _ hG hS (lv_sub hl [0] rfl)
    · have hf := gb_f c5 hf
      refine lv_aload_n hx hb dX12_findLit_8 rfl (lv_at hl 0 rfl) ?_
      refine gp_get (v := .ref (h0 + 20)) (C := RX12) (T := TX12) (N := 33) (ci := 10) hx hb hts hin hown hK hG mg_o rfl 29 (by decide) (hts _ (List.mem_of_getElem? (i := 1) rfl)) (fun _ h9 => h9) rfl dX12_findLit_9 ?_
      refine lv_iload_n hx hb dX12_findLit_12 rfl (lv_at hl 1 rfl) ?_
      refine lv_iconst (v := 0) hx hb dX12_findLit_13 (by decide) ?_
      obtain ⟨b14, hf⟩ := gb_ix hf
      refine gp_iast hx hb hK hG hS mg_litBy b14 mu_litBy dX12_findLit_14 (fun H locs hG hS => ?_)
      refine lv_iinc (v := v1 + 1) (lv' := [(1, .int (v1 + 1)), (0, .ref h0)]) hx hb dX12_findLit_15 hl (k := 1) rfl rfl (by decide) rfl (fun ls hl => ?_)
      refine lv_goto (tgt := 2) hx hb dX12_findLit_18 (by decide) ?_
      exact ih _ _ hf hk21 _ _ _ hG hS (lv_sub hl [1, 0] rfl)
set_option maxHeartbeats 4000000 in
set_option maxRecDepth 100000 in
theorem w_X12_findLit_48 {α : Type} {R : α} {K85 : (Nat → Int32) → Option α} {v1 : Int32} (X : gC p s m args meth c cX12_findLit 3 none wsX12_findLit RX12 D b (gTy cI cL)) : ∀ (n : Nat) (v2 : Int32) (a_litBy : Nat → Int32), L_X12_findLit_48 K85 a_far v1 n v2 a_litBy = some R → (∀ (x : (Nat → Int32)), K85 x = some R → ∀ (H : Heap) (locs : List Loc) (ls : Array Slot), GP D b M (mg cI h0 a_refused a_isWall a_kind a_lampCell a_range a_lit a_scenes a_who a_cell a_minuteOf a_standsAt i_lampMany i_people i_minute a_tape a_letter a_letterAt a_told i_taped i_at i_statements a_kept i_hasImage i_isKeeping i_cursor a_far a_shut a_queue i_queued x a_may a_row i_rowMany g0) H → va_S (gA b) s.heap H locs → lv_has ls 3 [(0, .ref h0), (1, .int v1)] → W p l e rm_X12_findLit s m args below meth c H locs 0 0 Q (F0 m 85 ls [])) → ∀ (H : Heap) (locs : List Loc) (ls : Array Slot), GP D b M (mg cI h0 a_refused a_isWall a_kind a_lampCell a_range a_lit a_scenes a_who a_cell a_minuteOf a_standsAt i_lampMany i_people i_minute a_tape a_letter a_letterAt a_told i_taped i_at i_statements a_kept i_hasImage i_isKeeping i_cursor a_far a_shut a_queue i_queued a_litBy a_may a_row i_rowMany g0) H → va_S (gA b) s.heap H locs → lv_has ls 3 [(0, .ref h0), (1, .int v1), (2, .int v2)] → W p l e rm_X12_findLit s m args below meth c H locs 0 0 Q (F0 m 48 ls []) := by
  obtain ⟨hx, hb, hr, hml, hown, hts, hlocks, hKn, hBs⟩ := id X
  have hK := hKn.1
  have hin : ∀ w ∈ wsX120, w ∈ wsX12_findLit := fun w h => List.mem_cons_of_mem _ (List.mem_append_right _ h)
  intro n
  induction n with
  | zero =>
    intro v2 a_litBy hf
    cases hf
  | succ n ih =>
    intro v2 a_litBy hf hk85 H locs ls hG hS hl
    rw [L_X12_findLit_48.eq_2] at hf
    refine lv_iload_n hx hb dX12_findLit_48 rfl (lv_at hl 2 rfl) ?_
    refine lv_bipush (v := 36) hx hb dX12_findLit_49 (by decide) ?_
    refine lv_icmp_ge (tgt := 85) hx hb dX12_findLit_51 (by decide) (fun c51 => ?_) (fun c51 => ?_)
    · have hf := gb_t c51 hf
      exact hk85 _ hf _ _ _ hG hS (lv_sub hl [0, 1] rfl)
    · have hf := gb_f c51 hf
      refine lv_aload_n hx hb dX12_findLit_54 rfl (lv_at hl 0 rfl) ?_
      refine gp_get (v := .ref (h0 + 20)) (C := RX12) (T := TX12) (N := 33) (ci := 10) hx hb hts hin hown hK hG mg_o rfl 29 (by decide) (hts _ (List.mem_of_getElem? (i := 1) rfl)) (fun _ h9 => h9) rfl dX12_findLit_55 ?_
      refine lv_iload_n hx hb dX12_findLit_58 rfl (lv_at hl 2 rfl) ?_
      refine lv_dup2_11 hx hb dX12_findLit_59 rfl rfl ?_
      obtain ⟨b60, hf⟩ := gb_ix hf
      refine gp_iald hx hb hK hG mg_litBy b60 dX12_findLit_60 ?_
      refine lv_aload_n hx hb dX12_findLit_61 rfl (lv_at hl 0 rfl) ?_
      refine gp_get (v := .ref (h0 + 17)) (C := RX12) (T := TX12) (N := 33) (ci := 10) hx hb hts hin hown hK hG mg_o rfl 25 (by decide) (hts _ (List.mem_of_getElem? (i := 4) rfl)) (fun _ h9 => h9) rfl dX12_findLit_62 ?_
      refine lv_iload_n hx hb dX12_findLit_65 rfl (lv_at hl 2 rfl) ?_
      obtain ⟨b66, hf⟩ := gb_ix hf
      refine gp_iald hx hb hK hG mg_far b66 dX12_findLit_66 ?_
      have hJ67 : ∀ Z : Int32, Z = (if (a_far v2.toNatClampNeg) < 0 then 0 else (1 : Int32) <<< (v1 &&& 31)) → W p l e rm_X12_findLit s m args below meth c H locs 0 0 Q (F0 m 77 ls (.int Z :: [.int (a_litBy v2.toNatClampNeg), .int v2, .ref (h0 + 20)])) := by
        intro Z hZ
        subst hZ
        refine lv_ior hx hb dX12_findLit_77 ?_
        obtain ⟨b78, hf⟩ := gb_ix hf
        refine gp_iast hx hb hK hG hS mg_litBy b78 mu_litBy dX12_findLit_78 (fun H locs hG hS => ?_)
        refine lv_iinc (v := v2 + 1) (lv' := [(2, .int (v2 + 1)), (0, .ref h0), (1, .int v1)]) hx hb dX12_findLit_79 hl (k := 2) rfl rfl (by decide) rfl (fun ls hl => ?_)
        refine lv_goto (tgt := 48) hx hb dX12_findLit_82 (by decide) ?_
        exact ih _ _ hf hk85 _ _ _ hG hS (lv_sub hl [1, 2, 0] rfl)
      refine lv_if_lt (tgt := 76) hx hb dX12_findLit_67 (by decide) (fun c67 => ?_) (fun c67 => ?_)
      · rw [if_pos c67] at hJ67
        refine lv_iconst (v := 0) hx hb dX12_findLit_76 (by decide) ?_
        exact hJ67 _ rfl
      · rw [if_neg c67] at hJ67
        refine lv_iconst (v := 1) hx hb dX12_findLit_70 (by decide) ?_
        refine lv_iload_n hx hb dX12_findLit_71 rfl (lv_at hl 1 rfl) ?_
        refine lv_ishl hx hb dX12_findLit_72 ?_
        refine lv_goto (tgt := 77) hx hb dX12_findLit_73 (by decide) ?_
        exact hJ67 _ rfl
set_option maxHeartbeats 4000000 in
set_option maxRecDepth 100000 in
theorem w_X12_findLit_23 {α : Type} {R : α} {K91 : ((Nat → Int32) × (Nat → Int32) × (Nat → Int32) × Int32 × (Nat → Int32)) → Option α} (X : gC p s m args meth c cX12_findLit 3 none wsX12_findLit RX12 D b (gTy cI cL)) : ∀ (n : Nat) (v1 : Int32) (a_far : Nat → Int32) (a_shut : Nat → Int32) (a_queue : Nat → Int32) (i_queued : Int32) (a_litBy : Nat → Int32), L_X12_findLit_23 K91 a_isWall a_kind a_lampCell a_range a_standsAt i_lampMany i_people n v1 a_far a_shut a_queue i_queued a_litBy = some R → (∀ (x : (Nat → Int32) × (Nat → Int32) × (Nat → Int32) × Int32 × (Nat → Int32)), K91 x = some R → ∀ (H : Heap) (locs : List Loc) (ls : Array Slot), GP D b M (mg cI h0 a_refused a_isWall a_kind a_lampCell a_range a_lit a_scenes a_who a_cell a_minuteOf a_standsAt i_lampMany i_people i_minute a_tape a_letter a_letterAt a_told i_taped i_at i_statements a_kept i_hasImage i_isKeeping i_cursor x.1 x.2.1 x.2.2.1 x.2.2.2.1 x.2.2.2.2 a_may a_row i_rowMany g0) H → va_S (gA b) s.heap H locs → lv_has ls 3 [] → W p l e rm_X12_findLit s m args below meth c H locs 0 0 Q (F0 m 91 ls [])) → ∀ (H : Heap) (locs : List Loc) (ls : Array Slot), GP D b M (mg cI h0 a_refused a_isWall a_kind a_lampCell a_range a_lit a_scenes a_who a_cell a_minuteOf a_standsAt i_lampMany i_people i_minute a_tape a_letter a_letterAt a_told i_taped i_at i_statements a_kept i_hasImage i_isKeeping i_cursor a_far a_shut a_queue i_queued a_litBy a_may a_row i_rowMany g0) H → va_S (gA b) s.heap H locs → lv_has ls 3 [(0, .ref h0), (1, .int v1)] → W p l e rm_X12_findLit s m args below meth c H locs 0 0 Q (F0 m 23 ls []) := by
  obtain ⟨hx, hb, hr, hml, hown, hts, hlocks, hKn, hBs⟩ := id X
  have hK := hKn.1
  have hin : ∀ w ∈ wsX120, w ∈ wsX12_findLit := fun w h => List.mem_cons_of_mem _ (List.mem_append_right _ h)
  intro n
  induction n with
  | zero =>
    intro v1 a_far a_shut a_queue i_queued a_litBy hf
    cases hf
  | succ n ih =>
    intro v1 a_far a_shut a_queue i_queued a_litBy hf hk91 H locs ls hG hS hl
    rw [L_X12_findLit_23.eq_2] at hf
    refine lv_iload_n hx hb dX12_findLit_23 rfl (lv_at hl 1 rfl) ?_
    refine lv_aload_n hx hb dX12_findLit_24 rfl (lv_at hl 0 rfl) ?_
    refine gp_get (v := .int i_lampMany) (C := RX12) (T := TX12) (N := 33) (ci := 10) hx hb hts hin hown hK hG mg_o rfl 11 (by decide) (hts _ (List.mem_of_getElem? (i := 2) rfl)) (fun _ h9 => h9) rfl dX12_findLit_25 ?_
    refine lv_icmp_ge (tgt := 91) hx hb dX12_findLit_28 (by decide) (fun c28 => ?_) (fun c28 => ?_)
    · have hf := gb_t c28 hf
      exact hk91 _ hf _ _ _ hG hS (lv_sub hl [] rfl)
    · have hf := gb_f c28 hf
      refine lv_aload_n hx hb dX12_findLit_31 rfl (lv_at hl 0 rfl) ?_
      refine lv_aload_n hx hb dX12_findLit_32 rfl (lv_at hl 0 rfl) ?_
      refine lv_iload_n hx hb dX12_findLit_33 rfl (lv_at hl 1 rfl) ?_
      obtain ⟨o34, hc34, hf⟩ := gb_b hf
      refine gp_callI (va_runV (As := [.int v1]) (rest := [.ref h0]) ⟨hx, hb, hml, hown, hts⟩ (c_X12_cellOf (l := l) (D := D) (b := b) (M := M) (cI := cI) (cL := cL) hc34) (cwV 1 hts gX12_findLit_X12_cellOf rfl rfl rfl (by decide +kernel) ⟨Nat.le_of_ble_eq_true rfl, Nat.le_of_ble_eq_true rfl⟩) (gp_preV hKn hG mg_o rfl) rfl rfl hl.1 rfl (lv_room (Nat.le_of_ble_eq_true rfl)) dX12_findLit_34 ⟨Nat.le_of_ble_eq_true rfl, Nat.le_of_ble_eq_true rfl⟩) hS (fun H locs hG hS => ?_)
      refine lv_aload_n hx hb dX12_findLit_37 rfl (lv_at hl 0 rfl) ?_
      refine gp_get (v := .ref (h0 + 5)) (C := RX12) (T := TX12) (N := 33) (ci := 10) hx hb hts hin hown hK hG mg_o rfl 4 (by decide) (hts _ (List.mem_of_getElem? (i := 3) rfl)) (fun _ h9 => h9) rfl dX12_findLit_38 ?_
      refine lv_iload_n hx hb dX12_findLit_41 rfl (lv_at hl 1 rfl) ?_
      obtain ⟨b42, hf⟩ := gb_ix hf
      refine gp_iald hx hb hK hG mg_range b42 dX12_findLit_42 ?_
      obtain ⟨o43, hc43, hf⟩ := gb_b hf
      refine gp_callV (va_runV (As := [.int o34, .int (a_range v1.toNatClampNeg)]) (rest := []) ⟨hx, hb, hml, hown, hts⟩ (c_X12_findLight (l := l) (D := D) (b := b) (M := M) (cI := cI) (cL := cL) hc43) (cwV 2 hts gX12_findLit_X12_findLight rfl rfl rfl (by decide +kernel) ⟨Nat.le_of_ble_eq_true rfl, Nat.le_of_ble_eq_true rfl⟩) (gp_preV hKn hG mg_o rfl) rfl rfl hl.1 rfl (lv_room (Nat.le_of_ble_eq_true rfl)) dX12_findLit_43 ⟨Nat.le_of_ble_eq_true rfl, Nat.le_of_ble_eq_true rfl⟩) hS (fun H locs hG hS => ?_)
      refine lv_iconst (v := 0) hx hb dX12_findLit_46 (by decide) ?_
      refine lv_istore_n (lv' := [(2, .int 0), (0, .ref h0), (1, .int v1)]) hx hb dX12_findLit_47 rfl hl (by decide) rfl (fun ls hl => ?_)
      refine w_X12_findLit_48 X _ _ _ hf (fun x48_85 hf H locs ls hG hS hl => ?_) _ _ _ hG hS (lv_sub hl [1, 2, 0] rfl)
      · refine lv_iinc (v := v1 + 1) (lv' := [(1, .int (v1 + 1)), (0, .ref h0)]) hx hb dX12_findLit_85 hl (k := 1) rfl rfl (by decide) rfl (fun ls hl => ?_)
        refine lv_goto (tgt := 23) hx hb dX12_findLit_88 (by decide) ?_
        exact ih _ _ _ _ _ _ hf hk91 _ _ _ hG hS (lv_sub hl [1, 0] rfl)
set_option maxHeartbeats 4000000 in
set_option maxRecDepth 100000 in
theorem c_X12_findLit {R : (Nat → Int32) × (Nat → Int32) × (Nat → Int32) × Int32 × (Nat → Int32)} (hf : f_X12_findLit a_isWall a_kind a_lampCell a_range a_standsAt i_lampMany i_people a_far a_shut a_queue i_queued a_litBy = some R) : Met l yX12_findLit wsX12_findLit rm_X12_findLit (va_Pc [.ref h0] (gPre D b M (mg cI h0 a_refused a_isWall a_kind a_lampCell a_range a_lit a_scenes a_who a_cell a_minuteOf a_standsAt i_lampMany i_people i_minute a_tape a_letter a_letterAt a_told i_taped i_at i_statements a_kept i_hasImage i_isKeeping i_cursor a_far a_shut a_queue i_queued a_litBy a_may a_row i_rowMany g0) (gTy cI cL))) (gQ D b none M (mg cI h0 a_refused a_isWall a_kind a_lampCell a_range a_lit a_scenes a_who a_cell a_minuteOf a_standsAt i_lampMany i_people i_minute a_tape a_letter a_letterAt a_told i_taped i_at i_statements a_kept i_hasImage i_isKeeping i_cursor R.1 R.2.1 R.2.2.1 R.2.2.2.1 R.2.2.2.2 a_may a_row i_rowMany g0)) 0 0 (gA b) := by
  refine gp_met (cc := cX12_findLit) (maxL := 3) (ret := none) (by decide) rfl (Nat.le_of_ble_eq_true rfl) ?_
  intro p e s m below meth c X ls hG hl
  have hS : va_S (gA b) s.heap s.heap [] := va_S.rf
  obtain ⟨H, hH0⟩ : ∃ H : Heap, H = s.heap := ⟨_, rfl⟩
  rw [← hH0] at hG ⊢
  have hS : va_S (gA b) s.heap H [] := by rw [hH0]; exact va_S.rf
  obtain ⟨locs, hlo⟩ : ∃ z : List Loc, z = [] := ⟨_, rfl⟩
  rw [← hlo] at hS ⊢
  unfold f_X12_findLit at hf
  obtain ⟨hx, hb, hr, hml, hown, hts, hlocks, hKn, hBs⟩ := id X
  have hK := hKn.1
  have hin : ∀ w ∈ wsX120, w ∈ wsX12_findLit := fun w h => List.mem_cons_of_mem _ (List.mem_append_right _ h)
  have hl : lv_has ls 3 [(0, .ref h0)] := hl
  refine lv_iconst (v := 0) hx hb dX12_findLit_0 (by decide) ?_
  refine lv_istore_n (lv' := [(1, .int 0), (0, .ref h0)]) hx hb dX12_findLit_1 rfl hl (by decide) rfl (fun ls hl => ?_)
  refine w_X12_findLit_2 X _ _ _ hf (fun x2_21 hf H locs ls hG hS hl => ?_) _ _ _ hG hS (lv_sub hl [1, 0] rfl)
  · refine lv_iconst (v := 0) hx hb dX12_findLit_21 (by decide) ?_
    refine lv_istore_n (lv' := [(1, .int 0), (0, .ref h0)]) hx hb dX12_findLit_22 rfl hl (by decide) rfl (fun ls hl => ?_)
    refine w_X12_findLit_23 X _ _ _ _ _ _ _ hf (fun x23_91 hf H locs ls hG hS hl => ?_) _ _ _ hG hS (lv_sub hl [1, 0] rfl)
    · have hf := Option.some.inj hf
      subst hf
      exact gp_retV hx hb hr hlocks hG hS (Nat.le_refl _) (Nat.le_refl _) dX12_findLit_91
-- X12_isNameless
abbrev rm_X12_isNameless : Room := { frames := 0, cells := 0, slots := 0, locals := 0 }
set_option maxHeartbeats 4000000 in
set_option maxRecDepth 100000 in
theorem c_X12_isNameless {v0 : Int32} {R : Int32} (hf : f_X12_isNameless v0 = some R) : Met l yX12_isNameless wsX12_isNameless rm_X12_isNameless (va_Pc [.int v0] (gPre D b M (gh) (gTy cI cL))) (gQ D b (some (.int R)) M (gh)) 0 0 (gA b) := by
  refine gp_met (cc := cX12_isNameless) (maxL := 1) (ret := (some .boolean)) (by decide) rfl (Nat.le_of_ble_eq_true rfl) ?_
  intro p e s m below meth c X ls hG hl
  have hS : va_S (gA b) s.heap s.heap [] := va_S.rf
  obtain ⟨H, hH0⟩ : ∃ H : Heap, H = s.heap := ⟨_, rfl⟩
  rw [← hH0] at hG ⊢
  have hS : va_S (gA b) s.heap H [] := by rw [hH0]; exact va_S.rf
  obtain ⟨locs, hlo⟩ : ∃ z : List Loc, z = [] := ⟨_, rfl⟩
  rw [← hlo] at hS ⊢
  unfold f_X12_isNameless at hf
  obtain ⟨hx, hb, hr, hml, hown, hts, hlocks, hKn, hBs⟩ := id X
  have hK := hKn.1
  skip
  have hl : lv_has ls 1 [(0, .int v0)] := hl
  refine lv_iload_n hx hb dX12_isNameless_0 rfl (lv_at hl 0 rfl) ?_
  refine lv_iconst (v := 1) hx hb dX12_isNameless_1 (by decide) ?_
  have hJ2 : ∀ Z : Int32, Z = (if v0 = 1 then 1 else if v0 = 4 then 1 else 0) → W p l e rm_X12_isNameless s m [.int v0].toArray below meth c H locs 0 0 (MQ below (gQ D b (some (.int R)) M (gh)) [.int v0].toArray s 0 0 (gA b)) (F0 m 15 ls (.int Z :: [])) := by
    intro Z hZ
    subst hZ
    obtain ⟨z15, hf⟩ := gb_zb hf
    have hf := Option.some.inj hf
    subst hf
    exact gp_retZ hx hb hr z15 hlocks hG hS (Nat.le_refl _) (Nat.le_refl _) dX12_isNameless_15
  refine lv_icmp_eq (tgt := 10) hx hb dX12_isNameless_2 (by decide) (fun c2 => ?_) (fun c2 => ?_)
  · rw [if_pos c2] at hJ2
    refine lv_iconst (v := 1) hx hb dX12_isNameless_10 (by decide) ?_
    refine lv_goto (tgt := 15) hx hb dX12_isNameless_11 (by decide) ?_
    exact hJ2 _ rfl
  · rw [if_neg c2] at hJ2
    refine lv_iload_n hx hb dX12_isNameless_5 rfl (lv_at hl 0 rfl) ?_
    refine lv_iconst (v := 4) hx hb dX12_isNameless_6 (by decide) ?_
    refine lv_icmp_ne (tgt := 14) hx hb dX12_isNameless_7 (by decide) (fun c7 => ?_) (fun c7 => ?_)
    · rw [if_neg c7] at hJ2
      refine lv_iconst (v := 0) hx hb dX12_isNameless_14 (by decide) ?_
      exact hJ2 _ rfl
    · rw [if_pos c7] at hJ2
      refine lv_iconst (v := 1) hx hb dX12_isNameless_10 (by decide) ?_
      refine lv_goto (tgt := 15) hx hb dX12_isNameless_11 (by decide) ?_
      exact hJ2 _ rfl
-- X12_keepsOf
abbrev rm_X12_keepsOf : Room := { frames := 0, cells := 0, slots := 0, locals := 0 }
set_option maxHeartbeats 4000000 in
set_option maxRecDepth 100000 in
theorem c_X12_keepsOf {v0 : Int32} {R : Int32} (hf : f_X12_keepsOf v0 = some R) : Met l yX12_keepsOf wsX12_keepsOf rm_X12_keepsOf (va_Pc [.int v0] (gPre D b M (gh) (gTy cI cL))) (gQ D b (some (.int R)) M (gh)) 0 0 (gA b) := by
  refine gp_met (cc := cX12_keepsOf) (maxL := 1) (ret := (some .int)) (by decide) rfl (Nat.le_of_ble_eq_true rfl) ?_
  intro p e s m below meth c X ls hG hl
  have hS : va_S (gA b) s.heap s.heap [] := va_S.rf
  obtain ⟨H, hH0⟩ : ∃ H : Heap, H = s.heap := ⟨_, rfl⟩
  rw [← hH0] at hG ⊢
  have hS : va_S (gA b) s.heap H [] := by rw [hH0]; exact va_S.rf
  obtain ⟨locs, hlo⟩ : ∃ z : List Loc, z = [] := ⟨_, rfl⟩
  rw [← hlo] at hS ⊢
  unfold f_X12_keepsOf at hf
  obtain ⟨hx, hb, hr, hml, hown, hts, hlocks, hKn, hBs⟩ := id X
  have hK := hKn.1
  skip
  have hl : lv_has ls 1 [(0, .int v0)] := hl
  refine lv_iload_n hx hb dX12_keepsOf_0 rfl (lv_at hl 0 rfl) ?_
  refine lv_iconst (v := 2) hx hb dX12_keepsOf_1 (by decide) ?_
  have hJ2 : ∀ Z : Int32, Z = (if v0 = 2 then 0 else if v0 = 4 then 3 else 9) → W p l e rm_X12_keepsOf s m [.int v0].toArray below meth c H locs 0 0 (MQ below (gQ D b (some (.int R)) M (gh)) [.int v0].toArray s 0 0 (gA b)) (F0 m 20 ls (.int Z :: [])) := by
    intro Z hZ
    subst hZ
    have hf := Option.some.inj hf
    subst hf
    exact gp_retI hx hb hr hlocks hG hS (Nat.le_refl _) (Nat.le_refl _) dX12_keepsOf_20
  refine lv_icmp_ne (tgt := 9) hx hb dX12_keepsOf_2 (by decide) (fun c2 => ?_) (fun c2 => ?_)
  · rw [if_neg c2] at hJ2
    refine lv_iload_n hx hb dX12_keepsOf_9 rfl (lv_at hl 0 rfl) ?_
    refine lv_iconst (v := 4) hx hb dX12_keepsOf_10 (by decide) ?_
    refine lv_icmp_ne (tgt := 18) hx hb dX12_keepsOf_11 (by decide) (fun c11 => ?_) (fun c11 => ?_)
    · rw [if_neg c11] at hJ2
      refine lv_bipush (v := 9) hx hb dX12_keepsOf_18 (by decide) ?_
      exact hJ2 _ rfl
    · rw [if_pos c11] at hJ2
      refine lv_iconst (v := 3) hx hb dX12_keepsOf_14 (by decide) ?_
      refine lv_goto (tgt := 20) hx hb dX12_keepsOf_15 (by decide) ?_
      exact hJ2 _ rfl
  · rw [if_pos c2] at hJ2
    refine lv_iconst (v := 0) hx hb dX12_keepsOf_5 (by decide) ?_
    refine lv_goto (tgt := 20) hx hb dX12_keepsOf_6 (by decide) ?_
    exact hJ2 _ rfl
end
