section
variable {p : Program} {l : Launch} {e : Env} {s : State} {m : MethodId} {args : Array Value} {below : List Frame} {meth : Method} {c : Code} {D : va_G} {b : GB} {M : Nat} {cI cL : ClassId} {h0 : Nat} {gv : Nat → GV} {gh : Nat → va_E} {Q : State → Prop}
-- X5_init
abbrev rm_X5_init : Room := { frames := 1, cells := 1, slots := 9, locals := 28 }
set_option maxHeartbeats 4000000 in
set_option maxRecDepth 100000 in
theorem c_X5_init {R : (Nat → GV) × Nat} (hf : f_X5_init gv M h0 = some R) : Met l yX5_init wsX5_init rm_X5_init (va_Pc [.ref h0] (gPre D b M (gW cI cL gv) (gTy cI cL))) (gQ D b none R.2 (gW cI cL R.1)) 1 9 (gA b) := by
  refine gp_metI (cc := cX5_init) (maxL := 1) (ret := none) (by decide) rfl (Nat.le_of_ble_eq_true rfl) ?_
  intro p e s m below meth c X hin0 ls hG hl
  obtain ⟨H, hH0⟩ : ∃ H : Heap, H = s.heap := ⟨_, rfl⟩
  rw [← hH0] at hG ⊢
  have hS : va_S (gA b) s.heap H [] := by rw [hH0]; exact va_S.rf
  obtain ⟨locs, hlo⟩ : ∃ z : List Loc, z = [] := ⟨_, rfl⟩
  rw [← hlo] at hS ⊢
  unfold f_X5_init at hf
  obtain ⟨hx, hb, hr, hml, hown, hts, hlocks, hKn, hBs⟩ := id X
  have hK := hKn.1
  have gclL : gcl gLC TX5 5 wsX5_init := gcl_L (fun _ h => List.mem_cons_of_mem _ (List.mem_append_left _ (List.mem_append_left _ (List.mem_append_left _ (List.mem_append_left _ (List.mem_append_left _ (List.mem_append_left _ (List.mem_append_right _ h)))))))) (fun _ h => List.mem_cons_of_mem _ (List.mem_append_left _ (List.mem_append_left _ (List.mem_append_left _ (List.mem_append_left _ (List.mem_append_left _ (List.mem_append_right _ h))))))) (fun _ h => List.mem_cons_of_mem _ (List.mem_append_left _ (List.mem_append_left _ (List.mem_append_left _ (List.mem_append_left _ (List.mem_append_right _ h)))))) (fun _ h => List.mem_cons_of_mem _ (List.mem_append_left _ (List.mem_append_left _ (List.mem_append_left _ (List.mem_append_right _ h))))) (fun _ h => List.mem_cons_of_mem _ (List.mem_append_left _ (List.mem_append_left _ (List.mem_append_right _ h)))) (fun _ h => List.mem_cons_of_mem _ (List.mem_append_left _ (List.mem_append_right _ h))) (fun _ h => List.mem_cons_of_mem _ (List.mem_append_right _ h))
  have hl : lv_has ls 1 [(0, .ref h0)] := hl
  refine lv_aload_n hx hb dX5_init_0 rfl (lv_at hl 0 rfl) ?_
  refine W.objInit hx hb hown (hts _ (List.mem_of_getElem? (i := 1) rfl)) (hts _ (List.mem_of_getElem? (i := 2) rfl)) (hts _ (List.mem_of_getElem? (i := 3) rfl)) rfl (by rw [hml]; exact hl.1) rfl dX5_init_1 (Nat.le_of_ble_eq_true rfl) (Nat.le_of_ble_eq_true rfl) ?_
  refine W.eq (g2 := F0 m 4 ls []) rfl ?_
  refine lv_aload_n hx hb dX5_init_4 rfl (lv_at hl 0 rfl) ?_
  refine lv_iconst (v := 1) hx hb dX5_init_5 (by decide) ?_
  obtain ⟨g6, ht6, hf⟩ := gb_b hf
  refine cp_put (tyk := .boolean) hx hb hts gclL tyX5 tyX5_ok nmX5 hown hK hG hS 2 ht6 (by decide) (hts _ (List.mem_of_getElem? (i := 4) rfl)) (fun _ h9 => h9) rfl (by decide +kernel) (by decide) (by decide) dX5_init_6 (fun H locs hG hS => ?_)
  refine lv_aload_n hx hb dX5_init_9 rfl (lv_at hl 0 rfl) ?_
  refine lv_bipush (v := 9) hx hb dX5_init_10 (by decide) ?_
  refine gp_newa (N' := 9) (g1 := gW cI cL (va_up g6 M (.inr (.inl (9, fun _ => 0))))) hx hb (hts _ (List.mem_of_getElem? (i := 5) rfl)) hK hG hS (by decide) (by decide) (by decide) (Nat.le_of_ble_eq_true rfl) (Nat.le_of_ble_eq_true rfl) (gW_up (e := .inr (.inl (9, fun _ => 0)))) dX5_init_12 (fun H hG hS => ?_)
  obtain ⟨g14, ht14, hf⟩ := gb_b hf
  refine cp_putF (tyk := .array .int) hx hb hts gclL tyX5 tyX5_ok nmX5 hown hK hG hS 4 ht14 (by decide) (hts _ (List.mem_of_getElem? (i := 6) rfl)) (fun _ h9 => h9) rfl hin0 rfl (by decide +kernel) rfl rfl dX5_init_14 (fun H locs hG hS => ?_)
  have hf := Option.some.inj hf
  subst hf
  exact gp_retV hx hb hr hlocks hG hS (Nat.le_of_ble_eq_true rfl) (Nat.le_of_ble_eq_true rfl) dX5_init_17
-- X3_init
abbrev rm_X3_init : Room := { frames := 2, cells := 1, slots := 9, locals := 48 }
set_option maxHeartbeats 4000000 in
set_option maxRecDepth 100000 in
theorem c_X3_init {R : (Nat → GV) × Nat} (hf : f_X3_init gv M h0 = some R) : Met l yX3_init wsX3_init rm_X3_init (va_Pc [.ref h0] (gPre D b M (gW cI cL gv) (gTy cI cL))) (gQ D b none R.2 (gW cI cL R.1)) 1 9 (gA b) := by
  refine gp_metI (cc := cX3_init) (maxL := 1) (ret := none) (by decide) rfl (Nat.le_of_ble_eq_true rfl) ?_
  intro p e s m below meth c X hin0 ls hG hl
  obtain ⟨H, hH0⟩ : ∃ H : Heap, H = s.heap := ⟨_, rfl⟩
  rw [← hH0] at hG ⊢
  have hS : va_S (gA b) s.heap H [] := by rw [hH0]; exact va_S.rf
  obtain ⟨locs, hlo⟩ : ∃ z : List Loc, z = [] := ⟨_, rfl⟩
  rw [← hlo] at hS ⊢
  unfold f_X3_init at hf
  obtain ⟨hx, hb, hr, hml, hown, hts, hlocks, hKn, hBs⟩ := id X
  have hK := hKn.1
  have hl : lv_has ls 1 [(0, .ref h0)] := hl
  refine lv_aload_n hx hb dX3_init_0 rfl (lv_at hl 0 rfl) ?_
  obtain ⟨o1, hc1, hf⟩ := gb_b hf
  refine gp_callV (va_runIN (As := []) (rest := []) ⟨hx, hb, hml, hown, hts⟩ (c_X5_init (l := l) (D := D) (b := b) (cI := cI) (cL := cL) hc1) ⟨va_cnB 0 hts gX3_init_X5_init_n1 rfl rfl rfl (hKn.2.1 _ (List.mem_of_getElem? (i := 3) rfl)) (hts _ (List.mem_of_getElem? (i := 2) rfl)) (by decide +kernel) ⟨Nat.le_of_ble_eq_true rfl, Nat.le_of_ble_eq_true rfl⟩, rfl, (hts _ (List.mem_of_getElem? (i := 1) rfl))⟩ (gp_preS hKn hG) rfl rfl hl.1 rfl (lv_room (Nat.le_of_ble_eq_true rfl)) dX3_init_1 ⟨Nat.le_of_ble_eq_true rfl, Nat.le_of_ble_eq_true rfl⟩) hS (fun H locs hG hS => ?_)
  have hf := Option.some.inj hf
  subst hf
  exact gp_retV hx hb hr hlocks hG hS (Nat.le_of_ble_eq_true rfl) (Nat.le_of_ble_eq_true rfl) dX3_init_4
-- X0_init
abbrev rm_X0_init : Room := { frames := 3, cells := 1, slots := 9, locals := 68 }
set_option maxHeartbeats 4000000 in
set_option maxRecDepth 100000 in
theorem c_X0_init {R : (Nat → GV) × Nat} (hf : f_X0_init gv M h0 = some R) : Met l yX0_init wsX0_init rm_X0_init (va_Pc [.ref h0] (gPre D b M (gW cI cL gv) (gTy cI cL))) (gQ D b none R.2 (gW cI cL R.1)) 1 9 (gA b) := by
  refine gp_metI (cc := cX0_init) (maxL := 1) (ret := none) (by decide) rfl (Nat.le_of_ble_eq_true rfl) ?_
  intro p e s m below meth c X hin0 ls hG hl
  obtain ⟨H, hH0⟩ : ∃ H : Heap, H = s.heap := ⟨_, rfl⟩
  rw [← hH0] at hG ⊢
  have hS : va_S (gA b) s.heap H [] := by rw [hH0]; exact va_S.rf
  obtain ⟨locs, hlo⟩ : ∃ z : List Loc, z = [] := ⟨_, rfl⟩
  rw [← hlo] at hS ⊢
  unfold f_X0_init at hf
  obtain ⟨hx, hb, hr, hml, hown, hts, hlocks, hKn, hBs⟩ := id X
  have hK := hKn.1
  have hl : lv_has ls 1 [(0, .ref h0)] := hl
  refine lv_aload_n hx hb dX0_init_0 rfl (lv_at hl 0 rfl) ?_
  obtain ⟨o1, hc1, hf⟩ := gb_b hf
  refine gp_callV (va_runIN (As := []) (rest := []) ⟨hx, hb, hml, hown, hts⟩ (c_X3_init (l := l) (D := D) (b := b) (cI := cI) (cL := cL) hc1) ⟨va_cnB 0 hts gX0_init_X3_init_n1 rfl rfl rfl (hKn.2.1 _ (List.mem_of_getElem? (i := 9) rfl)) (hts _ (List.mem_of_getElem? (i := 2) rfl)) (by decide +kernel) ⟨Nat.le_of_ble_eq_true rfl, Nat.le_of_ble_eq_true rfl⟩, rfl, (hts _ (List.mem_of_getElem? (i := 1) rfl))⟩ (gp_preS hKn hG) rfl rfl hl.1 rfl (lv_room (Nat.le_of_ble_eq_true rfl)) dX0_init_1 ⟨Nat.le_of_ble_eq_true rfl, Nat.le_of_ble_eq_true rfl⟩) hS (fun H locs hG hS => ?_)
  have hf := Option.some.inj hf
  subst hf
  exact gp_retV hx hb hr hlocks hG hS (Nat.le_of_ble_eq_true rfl) (Nat.le_of_ble_eq_true rfl) dX0_init_4
-- X0_kind
abbrev rm_X0_kind : Room := { frames := 0, cells := 0, slots := 0, locals := 0 }
set_option maxHeartbeats 4000000 in
set_option maxRecDepth 100000 in
theorem c_X0_kind {R : Int32} (hf : f_X0_kind h0 = some R) : Met l yX0_kind wsX0_kind rm_X0_kind (va_Pc [.ref h0] (gPre D b M (gh) (gTy cI cL))) (gQ D b (some (.int R)) M (gh)) 0 0 (gA b) := by
  refine gp_met (cc := cX0_kind) (maxL := 1) (ret := (some .int)) (by decide) rfl (Nat.le_of_ble_eq_true rfl) ?_
  intro p e s m below meth c X ls hG hl
  obtain ⟨H, hH0⟩ : ∃ H : Heap, H = s.heap := ⟨_, rfl⟩
  rw [← hH0] at hG ⊢
  have hS : va_S (gA b) s.heap H [] := by rw [hH0]; exact va_S.rf
  obtain ⟨locs, hlo⟩ : ∃ z : List Loc, z = [] := ⟨_, rfl⟩
  rw [← hlo] at hS ⊢
  unfold f_X0_kind at hf
  obtain ⟨hx, hb, hr, hml, hown, hts, hlocks, hKn, hBs⟩ := id X
  have hK := hKn.1
  have hl : lv_has ls 1 [(0, .ref h0)] := hl
  refine lv_iconst (v := 4) hx hb dX0_kind_0 (by decide) ?_
  have hf := Option.some.inj hf
  subst hf
  exact gp_retI hx hb hr hlocks hG hS (Nat.le_of_ble_eq_true rfl) (Nat.le_of_ble_eq_true rfl) dX0_kind_1
-- X0_room
abbrev rm_X0_room : Room := { frames := 0, cells := 0, slots := 0, locals := 0 }
set_option maxHeartbeats 4000000 in
set_option maxRecDepth 100000 in
theorem c_X0_room {R : Int32} (hf : f_X0_room h0 = some R) : Met l yX0_room wsX0_room rm_X0_room (va_Pc [.ref h0] (gPre D b M (gh) (gTy cI cL))) (gQ D b (some (.int R)) M (gh)) 0 0 (gA b) := by
  refine gp_met (cc := cX0_room) (maxL := 1) (ret := (some .int)) (by decide) rfl (Nat.le_of_ble_eq_true rfl) ?_
  intro p e s m below meth c X ls hG hl
  obtain ⟨H, hH0⟩ : ∃ H : Heap, H = s.heap := ⟨_, rfl⟩
  rw [← hH0] at hG ⊢
  have hS : va_S (gA b) s.heap H [] := by rw [hH0]; exact va_S.rf
  obtain ⟨locs, hlo⟩ : ∃ z : List Loc, z = [] := ⟨_, rfl⟩
  rw [← hlo] at hS ⊢
  unfold f_X0_room at hf
  obtain ⟨hx, hb, hr, hml, hown, hts, hlocks, hKn, hBs⟩ := id X
  have hK := hKn.1
  have hl : lv_has ls 1 [(0, .ref h0)] := hl
  refine lv_iconst (v := 3) hx hb dX0_room_0 (by decide) ?_
  have hf := Option.some.inj hf
  subst hf
  exact gp_retI hx hb hr hlocks hG hS (Nat.le_of_ble_eq_true rfl) (Nat.le_of_ble_eq_true rfl) dX0_room_1
-- X10_cellOf
abbrev rm_X10_cellOf : Room := { frames := 0, cells := 0, slots := 0, locals := 0 }
set_option maxHeartbeats 4000000 in
set_option maxRecDepth 100000 in
theorem c_X10_cellOf {v1 : Int32} {R : Int32} (hf : f_X10_cellOf gv h0 v1 = some R) : Met l yX10_cellOf wsX10_cellOf rm_X10_cellOf (va_Pc [.ref h0, .int v1] (gPre D b M (gW cI cL gv) (gTy cI cL))) (gQ D b (some (.int R)) M (gW cI cL gv)) 0 0 (gA b) := by
  refine gp_met (cc := cX10_cellOf) (maxL := 3) (ret := (some .int)) (by decide) rfl (Nat.le_of_ble_eq_true rfl) ?_
  intro p e s m below meth c X ls hG hl
  obtain ⟨H, hH0⟩ : ∃ H : Heap, H = s.heap := ⟨_, rfl⟩
  rw [← hH0] at hG ⊢
  have hS : va_S (gA b) s.heap H [] := by rw [hH0]; exact va_S.rf
  obtain ⟨locs, hlo⟩ : ∃ z : List Loc, z = [] := ⟨_, rfl⟩
  rw [← hlo] at hS ⊢
  unfold f_X10_cellOf at hf
  obtain ⟨hx, hb, hr, hml, hown, hts, hlocks, hKn, hBs⟩ := id X
  have hK := hKn.1
  have gclX10 : gcl [8] TX10 6 wsX10_cellOf := gcl_1 rfl (fun _ h => List.mem_cons_of_mem _ (List.mem_append_right _ h))
  have hl : lv_has ls 3 [(0, .ref h0), (1, .int v1)] := hl
  refine lv_iload_n hx hb dX10_cellOf_0 rfl (lv_at hl 1 rfl) ?_
  obtain ⟨j1, hj1, hf⟩ := gb_b hf
  have hJ1 : ∀ (H : Heap) (locs : List Loc) (ls : Array Slot), GP D b M (gW cI cL gv) H → va_S (gA b) s.heap H locs → lv_has ls 3 [(0, .ref h0), (1, .int v1)] → W p l e rm_X10_cellOf s m [.ref h0, .int v1].toArray below meth c H locs 0 0 (MQ below (gQ D b (some (.int R)) M (gW cI cL gv)) [.ref h0, .int v1].toArray s 0 0 (gA b)) (F0 m 26 ls [.int j1]) := by
    intro H locs ls hG hS hl
    refine lv_istore_n (lv' := [(2, .int j1), (0, .ref h0), (1, .int v1)]) hx hb dX10_cellOf_26 rfl hl (by decide) rfl (fun ls hl => ?_)
    refine lv_iload_n hx hb dX10_cellOf_27 rfl (lv_at hl 0 rfl) ?_
    obtain ⟨j28, hj28, hf⟩ := gb_b hf
    have hJ28 : ∀ (H : Heap) (locs : List Loc) (ls : Array Slot), GP D b M (gW cI cL gv) H → va_S (gA b) s.heap H locs → lv_has ls 3 [] → W p l e rm_X10_cellOf s m [.ref h0, .int v1].toArray below meth c H locs 0 0 (MQ below (gQ D b (some (.int R)) M (gW cI cL gv)) [.ref h0, .int v1].toArray s 0 0 (gA b)) (F0 m 42 ls [.int j28]) := by
      intro H locs ls hG hS hl
      have hf := Option.some.inj hf
      subst hf
      exact gp_retI hx hb hr hlocks hG hS (Nat.le_of_ble_eq_true rfl) (Nat.le_of_ble_eq_true rfl) dX10_cellOf_42
    refine lv_if_eq (tgt := 40) hx hb dX10_cellOf_28 (by decide) (fun c28 => ?_) (fun c28 => ?_)
    · have hj28 := gb_t c28 hj28
      refine lv_bipush (v := (-9 : Int32)) hx hb dX10_cellOf_40 (by decide) ?_
      have hj28 := Option.some.inj hj28
      subst hj28
      exact (hJ28 H locs ls hG hS (lv_sub hl [] rfl))
    · have hj28 := gb_f c28 hj28
      refine lv_aload_n hx hb dX10_cellOf_31 rfl (lv_at hl 1 rfl) ?_
      obtain ⟨t32, ht32, hj28⟩ := gb_b hj28
      refine cp_get (v := va_rf t32) hx hb hts gclX10 hown hK hG 1 (gfR_s ht32) (by decide) (hts _ (List.mem_of_getElem? (i := 2) rfl)) (fun _ h9 => h9) dX10_cellOf_32 ?_
      refine lv_iload_n hx hb dX10_cellOf_35 rfl (lv_at hl 2 rfl) ?_
      obtain ⟨q36, hq36, hj28⟩ := gb_b hj28
      refine W.eq (g2 := F0 m 36 ls [.int v1, .ref q36]) (congrArg (fun z => F0 m 36 ls [.int v1, va_rf z]) hq36) ?_
      obtain ⟨t36, ht36, hj28⟩ := gb_b hj28
      refine cp_iald hx hb hK hG ht36 dX10_cellOf_36 ?_
      refine lv_goto (tgt := 42) hx hb dX10_cellOf_37 (by decide) ?_
      have hj28 := Option.some.inj hj28
      subst hj28
      exact (hJ28 H locs ls hG hS (lv_sub hl [] rfl))
  refine lv_if_lt (tgt := 25) hx hb dX10_cellOf_1 (by decide) (fun c1 => ?_) (fun c1 => ?_)
  · have hj1 := gb_t c1 hj1
    refine lv_iconst (v := 0) hx hb dX10_cellOf_25 (by decide) ?_
    have hj1 := Option.some.inj hj1
    subst hj1
    exact (hJ1 H locs ls hG hS (lv_sub hl [0, 1] rfl))
  · have hj1 := gb_f c1 hj1
    refine lv_iload_n hx hb dX10_cellOf_4 rfl (lv_at hl 1 rfl) ?_
    refine lv_aload_n hx hb dX10_cellOf_5 rfl (lv_at hl 0 rfl) ?_
    obtain ⟨t6, ht6, hj1⟩ := gb_b hj1
    refine cp_get (v := .int t6) hx hb hts gclX10 hown hK hG 4 (gfI_s ht6) (by decide) (hts _ (List.mem_of_getElem? (i := 1) rfl)) (fun _ h9 => h9) dX10_cellOf_6 ?_
    refine lv_icmp_ge (tgt := 25) hx hb dX10_cellOf_9 (by decide) (fun c9 => ?_) (fun c9 => ?_)
    · have hj1 := gb_t c9 hj1
      refine lv_iconst (v := 0) hx hb dX10_cellOf_25 (by decide) ?_
      have hj1 := Option.some.inj hj1
      subst hj1
      exact (hJ1 H locs ls hG hS (lv_sub hl [0, 1] rfl))
    · have hj1 := gb_f c9 hj1
      refine lv_iload_n hx hb dX10_cellOf_12 rfl (lv_at hl 1 rfl) ?_
      refine lv_aload_n hx hb dX10_cellOf_13 rfl (lv_at hl 0 rfl) ?_
      obtain ⟨t14, ht14, hj1⟩ := gb_b hj1
      refine cp_get (v := va_rf t14) hx hb hts gclX10 hown hK hG 1 (gfR_s ht14) (by decide) (hts _ (List.mem_of_getElem? (i := 2) rfl)) (fun _ h9 => h9) dX10_cellOf_14 ?_
      obtain ⟨q17, hq17, hj1⟩ := gb_b hj1
      refine W.eq (g2 := F0 m 17 ls [.ref q17, .int v1]) (congrArg (fun z => F0 m 17 ls [va_rf z, .int v1]) hq17) ?_
      obtain ⟨t17, ht17, hj1⟩ := gb_b hj1
      refine cp_alenI hx hb hK hG ht17 dX10_cellOf_17 ?_
      refine lv_icmp_ge (tgt := 25) hx hb dX10_cellOf_18 (by decide) (fun c18 => ?_) (fun c18 => ?_)
      · have hj1 := gb_t c18 hj1
        refine lv_iconst (v := 0) hx hb dX10_cellOf_25 (by decide) ?_
        have hj1 := Option.some.inj hj1
        subst hj1
        exact (hJ1 H locs ls hG hS (lv_sub hl [0, 1] rfl))
      · have hj1 := gb_f c18 hj1
        refine lv_iconst (v := 1) hx hb dX10_cellOf_21 (by decide) ?_
        refine lv_goto (tgt := 26) hx hb dX10_cellOf_22 (by decide) ?_
        have hj1 := Option.some.inj hj1
        subst hj1
        exact (hJ1 H locs ls hG hS (lv_sub hl [0, 1] rfl))
-- X1_cellNow
abbrev rm_X1_cellNow : Room := { frames := 1, cells := 0, slots := 0, locals := 22 }
set_option maxHeartbeats 4000000 in
set_option maxRecDepth 100000 in
theorem c_X1_cellNow {v1 : Option Nat} {R : Int32} (hf : f_X1_cellNow gv h0 v1 = some R) : Met l yX1_cellNow wsX1_cellNow rm_X1_cellNow (va_Pc [.ref h0, va_rf v1] (gPre D b M (gW cI cL gv) (gTy cI cL))) (gQ D b (some (.int R)) M (gW cI cL gv)) 0 0 (gA b) := by
  refine gp_met (cc := cX1_cellNow) (maxL := 3) (ret := (some .int)) (by decide) rfl (by simp [lg_sl, gcat_rf, gcat_ref, gcat_int, gcat_long]) ?_
  intro p e s m below meth c X ls hG hl
  obtain ⟨H, hH0⟩ : ∃ H : Heap, H = s.heap := ⟨_, rfl⟩
  rw [← hH0] at hG ⊢
  have hS : va_S (gA b) s.heap H [] := by rw [hH0]; exact va_S.rf
  obtain ⟨locs, hlo⟩ : ∃ z : List Loc, z = [] := ⟨_, rfl⟩
  rw [← hlo] at hS ⊢
  unfold f_X1_cellNow at hf
  obtain ⟨hx, hb, hr, hml, hown, hts, hlocks, hKn, hBs⟩ := id X
  have hK := hKn.1
  have gclL : gcl gLC TX5 5 wsX1_cellNow := gcl_L (fun _ h => List.mem_cons_of_mem _ (List.mem_append_left _ (List.mem_append_left _ (List.mem_append_left _ (List.mem_append_left _ (List.mem_append_left _ (List.mem_append_left _ (List.mem_append_left _ (List.mem_append_right _ h))))))))) (fun _ h => List.mem_cons_of_mem _ (List.mem_append_left _ (List.mem_append_left _ (List.mem_append_left _ (List.mem_append_left _ (List.mem_append_left _ (List.mem_append_left _ (List.mem_append_right _ h)))))))) (fun _ h => List.mem_cons_of_mem _ (List.mem_append_left _ (List.mem_append_left _ (List.mem_append_left _ (List.mem_append_left _ (List.mem_append_left _ (List.mem_append_right _ h))))))) (fun _ h => List.mem_cons_of_mem _ (List.mem_append_left _ (List.mem_append_left _ (List.mem_append_left _ (List.mem_append_left _ (List.mem_append_right _ h)))))) (fun _ h => List.mem_cons_of_mem _ (List.mem_append_left _ (List.mem_append_left _ (List.mem_append_left _ (List.mem_append_right _ h))))) (fun _ h => List.mem_cons_of_mem _ (List.mem_append_left _ (List.mem_append_left _ (List.mem_append_right _ h)))) (fun _ h => List.mem_cons_of_mem _ (List.mem_append_left _ (List.mem_append_right _ h)))
  have hl : lv_has ls 3 [(0, .ref h0), (1, va_rf v1)] := by simpa [lv_args, gcat_rf, gcat_ref, gcat_int, gcat_long] using hl
  refine gp_aload_n (x := v1) hx hb dX1_cellNow_0 rfl (lv_at hl 1 rfl) ?_
  obtain ⟨j1, hj1, hf⟩ := gb_b hf
  have hJ1 : ∀ (H : Heap) (locs : List Loc) (ls : Array Slot), GP D b M (gW cI cL gv) H → va_S (gA b) s.heap H locs → lv_has ls 3 [(0, .ref h0)] → W p l e rm_X1_cellNow s m [.ref h0, va_rf v1].toArray below meth c H locs 0 0 (MQ below (gQ D b (some (.int R)) M (gW cI cL gv)) [.ref h0, va_rf v1].toArray s 0 0 (gA b)) (F0 m 19 ls [.int j1]) := by
    intro H locs ls hG hS hl
    refine lv_istore_n (lv' := [(2, .int j1), (0, .ref h0)]) hx hb dX1_cellNow_19 rfl hl (by decide) rfl (fun ls hl => ?_)
    refine lv_iload_n hx hb dX1_cellNow_20 rfl (lv_at hl 0 rfl) ?_
    obtain ⟨j21, hj21, hf⟩ := gb_b hf
    have hJ21 : ∀ (H : Heap) (locs : List Loc) (ls : Array Slot), GP D b M (gW cI cL gv) H → va_S (gA b) s.heap H locs → lv_has ls 3 [] → W p l e rm_X1_cellNow s m [.ref h0, va_rf v1].toArray below meth c H locs 0 0 (MQ below (gQ D b (some (.int R)) M (gW cI cL gv)) [.ref h0, va_rf v1].toArray s 0 0 (gA b)) (F0 m 32 ls [.int j21]) := by
      intro H locs ls hG hS hl
      have hf := Option.some.inj hf
      subst hf
      exact gp_retI hx hb hr hlocks hG hS (Nat.le_of_ble_eq_true rfl) (Nat.le_of_ble_eq_true rfl) dX1_cellNow_32
    refine lv_if_ge (tgt := 31) hx hb dX1_cellNow_21 (by decide) (fun c21 => ?_) (fun c21 => ?_)
    · have hj21 := gb_t c21 hj21
      refine lv_iload_n hx hb dX1_cellNow_31 rfl (lv_at hl 0 rfl) ?_
      have hj21 := Option.some.inj hj21
      subst hj21
      exact (hJ21 H locs ls hG hS (lv_sub hl [] rfl))
    · have hj21 := gb_f c21 hj21
      refine lv_aload_n hx hb dX1_cellNow_24 rfl (lv_at hl 1 rfl) ?_
      obtain ⟨t25, ht25, hj21⟩ := gb_b hj21
      refine cp_get (v := .int t25) hx hb hts gclL hown hK hG 0 (gfI_s ht25) (by decide) (hts _ (List.mem_of_getElem? (i := 1) rfl)) (gsame_X1_ownCell (hts _ (List.mem_of_getElem? (i := 2) rfl))) dX1_cellNow_25 ?_
      refine lv_goto (tgt := 32) hx hb dX1_cellNow_28 (by decide) ?_
      have hj21 := Option.some.inj hj21
      subst hj21
      exact (hJ21 H locs ls hG hS (lv_sub hl [] rfl))
  refine gp_ifnonnull (x := v1) (tgt := 9) hx hb dX1_cellNow_1 (by decide) ?_ ?_
  · intro n1 e1
    rw [e1] at hl
    rw [e1] at hj1
    dsimp only at hj1
    refine lv_aload_n hx hb dX1_cellNow_9 rfl (lv_at hl 1 rfl) ?_
    refine lv_aload_n hx hb dX1_cellNow_10 rfl (lv_at hl 0 rfl) ?_
    obtain ⟨t11, ht11, hj1⟩ := gb_b hj1
    refine cp_get (v := .int t11) hx hb hts gclL hown hK hG 0 (gfI_s ht11) (by decide) (hts _ (List.mem_of_getElem? (i := 1) rfl)) (gsame_X1_ownCell (hts _ (List.mem_of_getElem? (i := 2) rfl))) dX1_cellNow_11 ?_
    refine lv_iconst (v := 4) hx hb dX1_cellNow_14 (by decide) ?_
    refine lv_irem hx hb dX1_cellNow_15 (by decide) ?_
    obtain ⟨o16, hc16, hj1⟩ := gb_b hj1
    obtain ⟨oc16, hcO16, hc16⟩ := gb_b hc16
    obtain ⟨hcg16, hci16⟩ := gfO_s hcO16
    have hci16 := List.mem_singleton.mp hci16
    obtain ⟨kc16, fc16⟩ := oc16
    dsimp only at hci16 hcg16
    subst hci16
    refine gp_callI (va_runV (As := [.int (t11 - t11 / 4 * 4)]) (rest := []) ⟨hx, hb, hml, hown, hts⟩ (c_X10_cellOf (l := l) (D := D) (b := b) (cI := cI) (cL := cL) hc16) (cwV 1 hts gX1_cellNow_X10_cellOf rfl rfl rfl (by decide +kernel) ⟨Nat.le_of_ble_eq_true rfl, Nat.le_of_ble_eq_true rfl⟩) (gp_preV hKn hG (cp_obj hcg16) rfl) rfl rfl hl.1 rfl (lv_room (Nat.le_of_ble_eq_true rfl)) dX1_cellNow_16 ⟨Nat.le_of_ble_eq_true rfl, Nat.le_of_ble_eq_true rfl⟩) hS (fun H locs hG hS => ?_)
    have hj1 := Option.some.inj hj1
    subst hj1
    exact (hJ1 H locs ls hG hS (lv_sub hl [0] rfl))
  · intro e1
    rw [e1] at hl
    rw [e1] at hj1
    dsimp only at hj1
    refine lv_bipush (v := (-9 : Int32)) hx hb dX1_cellNow_4 (by decide) ?_
    refine lv_goto (tgt := 19) hx hb dX1_cellNow_6 (by decide) ?_
    have hj1 := Option.some.inj hj1
    subst hj1
    exact (hJ1 H locs ls hG hS (lv_sub hl [0] rfl))
-- X1_init
abbrev rm_X1_init : Room := { frames := 2, cells := 1, slots := 9, locals := 48 }
set_option maxHeartbeats 4000000 in
set_option maxRecDepth 100000 in
theorem c_X1_init {R : (Nat → GV) × Nat} (hf : f_X1_init gv M h0 = some R) : Met l yX1_init wsX1_init rm_X1_init (va_Pc [.ref h0] (gPre D b M (gW cI cL gv) (gTy cI cL))) (gQ D b none R.2 (gW cI cL R.1)) 1 9 (gA b) := by
  refine gp_metI (cc := cX1_init) (maxL := 1) (ret := none) (by decide) rfl (Nat.le_of_ble_eq_true rfl) ?_
  intro p e s m below meth c X hin0 ls hG hl
  obtain ⟨H, hH0⟩ : ∃ H : Heap, H = s.heap := ⟨_, rfl⟩
  rw [← hH0] at hG ⊢
  have hS : va_S (gA b) s.heap H [] := by rw [hH0]; exact va_S.rf
  obtain ⟨locs, hlo⟩ : ∃ z : List Loc, z = [] := ⟨_, rfl⟩
  rw [← hlo] at hS ⊢
  unfold f_X1_init at hf
  obtain ⟨hx, hb, hr, hml, hown, hts, hlocks, hKn, hBs⟩ := id X
  have hK := hKn.1
  have hl : lv_has ls 1 [(0, .ref h0)] := hl
  refine lv_aload_n hx hb dX1_init_0 rfl (lv_at hl 0 rfl) ?_
  obtain ⟨o1, hc1, hf⟩ := gb_b hf
  refine gp_callV (va_runIN (As := []) (rest := []) ⟨hx, hb, hml, hown, hts⟩ (c_X5_init (l := l) (D := D) (b := b) (cI := cI) (cL := cL) hc1) ⟨va_cnB 0 hts gX1_init_X5_init_n3 rfl rfl rfl (hKn.2.1 _ (List.mem_of_getElem? (i := 7) rfl)) (hts _ (List.mem_of_getElem? (i := 2) rfl)) (by decide +kernel) ⟨Nat.le_of_ble_eq_true rfl, Nat.le_of_ble_eq_true rfl⟩, rfl, (hts _ (List.mem_of_getElem? (i := 1) rfl))⟩ (gp_preS hKn hG) rfl rfl hl.1 rfl (lv_room (Nat.le_of_ble_eq_true rfl)) dX1_init_1 ⟨Nat.le_of_ble_eq_true rfl, Nat.le_of_ble_eq_true rfl⟩) hS (fun H locs hG hS => ?_)
  have hf := Option.some.inj hf
  subst hf
  exact gp_retV hx hb hr hlocks hG hS (Nat.le_of_ble_eq_true rfl) (Nat.le_of_ble_eq_true rfl) dX1_init_4
end
