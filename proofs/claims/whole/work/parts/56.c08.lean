section
variable {p : Program} {l : Launch} {e : Env} {s : State} {m : MethodId} {args : Array Value} {below : List Frame} {meth : Method} {c : Code} {D : va_G} {b : GB} {M : Nat} {cI cL : ClassId} {h0 : Nat} {gv : Nat → GV} {gh : Nat → va_E} {Q : State → Prop}
-- X6_add
abbrev rm_X6_add : Room := { frames := 0, cells := 0, slots := 0, locals := 0 }
set_option maxHeartbeats 4000000 in
set_option maxRecDepth 100000 in
theorem c_X6_add {v1 : Int32} {R : Int32 × (Nat → GV)} (hf : f_X6_add gv h0 v1 = some R) : Met l yX6_add wsX6_add rm_X6_add (va_Pc [.ref h0, .int v1] (gPre D b M (gW cI cL gv) (gTy cI cL))) (gQ D b (some (.int R.1)) M (gW cI cL R.2)) 0 0 (gA b) := by
  refine gp_met (cc := cX6_add) (maxL := 2) (ret := (some .int)) (by decide) rfl (Nat.le_of_ble_eq_true rfl) ?_
  intro p e s m below meth c X ls hG hl
  obtain ⟨H, hH0⟩ : ∃ H : Heap, H = s.heap := ⟨_, rfl⟩
  rw [← hH0] at hG ⊢
  have hS : va_S (gA b) s.heap H [] := by rw [hH0]; exact va_S.rf
  obtain ⟨locs, hlo⟩ : ∃ z : List Loc, z = [] := ⟨_, rfl⟩
  rw [← hlo] at hS ⊢
  unfold f_X6_add at hf
  obtain ⟨hx, hb, hr, hml, hown, hts, hlocks, hKn, hBs⟩ := id X
  have hK := hKn.1
  have gclX6 : gcl [5] TX6 2 wsX6_add := gcl_1 rfl (fun _ h => List.mem_cons_of_mem _ (List.mem_append_right _ h))
  have hl : lv_has ls 2 [(0, .ref h0), (1, .int v1)] := hl
  refine lv_aload_n hx hb dX6_add_0 rfl (lv_at hl 0 rfl) ?_
  obtain ⟨t1, ht1, hf⟩ := gb_b hf
  refine cp_get (v := .int t1) hx hb hts gclX6 hown hK hG 1 (gfI_s ht1) (by decide) (hts _ (List.mem_of_getElem? (i := 1) rfl)) (fun _ h9 => h9) dX6_add_1 ?_
  obtain ⟨j4, hj4, hf⟩ := gb_b hf
  have hJ4 : ∀ (H : Heap) (locs : List Loc) (ls : Array Slot), GP D b M (gW cI cL j4) H → va_S (gA b) s.heap H locs → lv_has ls 2 [(0, .ref h0)] → W p l e rm_X6_add s m [.ref h0, .int v1].toArray below meth c H locs 0 0 (MQ below (gQ D b (some (.int R.1)) M (gW cI cL R.2)) [.ref h0, .int v1].toArray s 0 0 (gA b)) (F0 m 39 ls []) := by
    intro H locs ls hG hS hl
    refine lv_aload_n hx hb dX6_add_39 rfl (lv_at hl 0 rfl) ?_
    obtain ⟨t40, ht40, hf⟩ := gb_b hf
    refine cp_get (v := .int t40) hx hb hts gclX6 hown hK hG 1 (gfI_s ht40) (by decide) (hts _ (List.mem_of_getElem? (i := 1) rfl)) (fun _ h9 => h9) dX6_add_40 ?_
    have hf := Option.some.inj hf
    subst hf
    exact gp_retI hx hb hr hlocks hG hS (Nat.le_of_ble_eq_true rfl) (Nat.le_of_ble_eq_true rfl) dX6_add_43
  refine lv_if_lt (tgt := 39) hx hb dX6_add_4 (by decide) (fun c4 => ?_) (fun c4 => ?_)
  · have hj4 := gb_t c4 hj4
    have hj4 := Option.some.inj hj4
    subst hj4
    exact (hJ4 H locs ls hG hS (lv_sub hl [0] rfl))
  · have hj4 := gb_f c4 hj4
    refine lv_aload_n hx hb dX6_add_7 rfl (lv_at hl 0 rfl) ?_
    obtain ⟨t8, ht8, hj4⟩ := gb_b hj4
    refine cp_get (v := .int t8) hx hb hts gclX6 hown hK hG 1 (gfI_s ht8) (by decide) (hts _ (List.mem_of_getElem? (i := 1) rfl)) (fun _ h9 => h9) dX6_add_8 ?_
    refine lv_aload_n hx hb dX6_add_11 rfl (lv_at hl 0 rfl) ?_
    obtain ⟨t12, ht12, hj4⟩ := gb_b hj4
    refine cp_get (v := va_rf t12) hx hb hts gclX6 hown hK hG 0 (gfR_s ht12) (by decide) (hts _ (List.mem_of_getElem? (i := 2) rfl)) (fun _ h9 => h9) dX6_add_12 ?_
    obtain ⟨q15, hq15, hj4⟩ := gb_b hj4
    refine W.eq (g2 := F0 m 15 ls [.ref q15, .int t8]) (congrArg (fun z => F0 m 15 ls [va_rf z, .int t8]) hq15) ?_
    obtain ⟨t15, ht15, hj4⟩ := gb_b hj4
    refine cp_alenI hx hb hK hG ht15 dX6_add_15 ?_
    refine lv_icmp_ge (tgt := 39) hx hb dX6_add_16 (by decide) (fun c16 => ?_) (fun c16 => ?_)
    · have hj4 := gb_t c16 hj4
      have hj4 := Option.some.inj hj4
      subst hj4
      exact (hJ4 H locs ls hG hS (lv_sub hl [0] rfl))
    · have hj4 := gb_f c16 hj4
      refine lv_aload_n hx hb dX6_add_19 rfl (lv_at hl 0 rfl) ?_
      obtain ⟨t20, ht20, hj4⟩ := gb_b hj4
      refine cp_get (v := va_rf t20) hx hb hts gclX6 hown hK hG 0 (gfR_s ht20) (by decide) (hts _ (List.mem_of_getElem? (i := 2) rfl)) (fun _ h9 => h9) dX6_add_20 ?_
      refine lv_aload_n hx hb dX6_add_23 rfl (lv_at hl 0 rfl) ?_
      obtain ⟨t24, ht24, hj4⟩ := gb_b hj4
      refine cp_get (v := .int t24) hx hb hts gclX6 hown hK hG 1 (gfI_s ht24) (by decide) (hts _ (List.mem_of_getElem? (i := 1) rfl)) (fun _ h9 => h9) dX6_add_24 ?_
      refine lv_iload_n hx hb dX6_add_27 rfl (lv_at hl 1 rfl) ?_
      obtain ⟨q28, hq28, hj4⟩ := gb_b hj4
      refine W.eq (g2 := F0 m 28 ls [.int v1, .int t24, .ref q28]) (congrArg (fun z => F0 m 28 ls [.int v1, .int t24, va_rf z]) hq28) ?_
      obtain ⟨g28, ht28, hj4⟩ := gb_b hj4
      refine cp_iast hx hb hK hG hS ht28 dX6_add_28 (fun H locs hG hS => ?_)
      refine lv_aload_n hx hb dX6_add_29 rfl (lv_at hl 0 rfl) ?_
      refine lv_dup hx hb dX6_add_30 rfl ?_
      obtain ⟨t31, ht31, hj4⟩ := gb_b hj4
      refine cp_get (v := .int t31) hx hb hts gclX6 hown hK hG 1 (gfI_s ht31) (by decide) (hts _ (List.mem_of_getElem? (i := 1) rfl)) (fun _ h9 => h9) dX6_add_31 ?_
      refine lv_iconst (v := 1) hx hb dX6_add_34 (by decide) ?_
      refine lv_iadd hx hb dX6_add_35 ?_
      obtain ⟨g36, ht36, hj4⟩ := gb_b hj4
      refine cp_put (tyk := .int) hx hb hts gclX6 tyX6 tyX6_ok nmX6 hown hK hG hS 1 ht36 (by decide) (hts _ (List.mem_of_getElem? (i := 1) rfl)) (fun _ h9 => h9) rfl (by decide +kernel) rfl rfl dX6_add_36 (fun H locs hG hS => ?_)
      have hj4 := Option.some.inj hj4
      subst hj4
      exact (hJ4 H locs ls hG hS (lv_sub hl [0] rfl))
-- X6_at
abbrev rm_X6_at : Room := { frames := 0, cells := 0, slots := 0, locals := 0 }
set_option maxHeartbeats 4000000 in
set_option maxRecDepth 100000 in
theorem c_X6_at {v1 : Int32} {R : Int32} (hf : f_X6_at gv h0 v1 = some R) : Met l yX6_at wsX6_at rm_X6_at (va_Pc [.ref h0, .int v1] (gPre D b M (gW cI cL gv) (gTy cI cL))) (gQ D b (some (.int R)) M (gW cI cL gv)) 0 0 (gA b) := by
  refine gp_met (cc := cX6_at) (maxL := 2) (ret := (some .int)) (by decide) rfl (Nat.le_of_ble_eq_true rfl) ?_
  intro p e s m below meth c X ls hG hl
  obtain ⟨H, hH0⟩ : ∃ H : Heap, H = s.heap := ⟨_, rfl⟩
  rw [← hH0] at hG ⊢
  have hS : va_S (gA b) s.heap H [] := by rw [hH0]; exact va_S.rf
  obtain ⟨locs, hlo⟩ : ∃ z : List Loc, z = [] := ⟨_, rfl⟩
  rw [← hlo] at hS ⊢
  unfold f_X6_at at hf
  obtain ⟨hx, hb, hr, hml, hown, hts, hlocks, hKn, hBs⟩ := id X
  have hK := hKn.1
  have gclX6 : gcl [5] TX6 2 wsX6_at := gcl_1 rfl (fun _ h => List.mem_cons_of_mem _ (List.mem_append_right _ h))
  have hl : lv_has ls 2 [(0, .ref h0), (1, .int v1)] := hl
  refine lv_iload_n hx hb dX6_at_0 rfl (lv_at hl 1 rfl) ?_
  obtain ⟨j1, hj1, hf⟩ := gb_b hf
  have hJ1 : ∀ (H : Heap) (locs : List Loc) (ls : Array Slot), GP D b M (gW cI cL gv) H → va_S (gA b) s.heap H locs → lv_has ls 2 [] → W p l e rm_X6_at s m [.ref h0, .int v1].toArray below meth c H locs 0 0 (MQ below (gQ D b (some (.int R)) M (gW cI cL gv)) [.ref h0, .int v1].toArray s 0 0 (gA b)) (F0 m 32 ls [.int j1]) := by
    intro H locs ls hG hS hl
    have hf := Option.some.inj hf
    subst hf
    exact gp_retI hx hb hr hlocks hG hS (Nat.le_of_ble_eq_true rfl) (Nat.le_of_ble_eq_true rfl) dX6_at_32
  refine lv_if_lt (tgt := 30) hx hb dX6_at_1 (by decide) (fun c1 => ?_) (fun c1 => ?_)
  · have hj1 := gb_t c1 hj1
    refine lv_bipush (v := (-9 : Int32)) hx hb dX6_at_30 (by decide) ?_
    have hj1 := Option.some.inj hj1
    subst hj1
    exact (hJ1 H locs ls hG hS (lv_sub hl [] rfl))
  · have hj1 := gb_f c1 hj1
    refine lv_iload_n hx hb dX6_at_4 rfl (lv_at hl 1 rfl) ?_
    refine lv_aload_n hx hb dX6_at_5 rfl (lv_at hl 0 rfl) ?_
    obtain ⟨t6, ht6, hj1⟩ := gb_b hj1
    refine cp_get (v := .int t6) hx hb hts gclX6 hown hK hG 1 (gfI_s ht6) (by decide) (hts _ (List.mem_of_getElem? (i := 1) rfl)) (fun _ h9 => h9) dX6_at_6 ?_
    refine lv_icmp_ge (tgt := 30) hx hb dX6_at_9 (by decide) (fun c9 => ?_) (fun c9 => ?_)
    · have hj1 := gb_t c9 hj1
      refine lv_bipush (v := (-9 : Int32)) hx hb dX6_at_30 (by decide) ?_
      have hj1 := Option.some.inj hj1
      subst hj1
      exact (hJ1 H locs ls hG hS (lv_sub hl [] rfl))
    · have hj1 := gb_f c9 hj1
      refine lv_iload_n hx hb dX6_at_12 rfl (lv_at hl 1 rfl) ?_
      refine lv_aload_n hx hb dX6_at_13 rfl (lv_at hl 0 rfl) ?_
      obtain ⟨t14, ht14, hj1⟩ := gb_b hj1
      refine cp_get (v := va_rf t14) hx hb hts gclX6 hown hK hG 0 (gfR_s ht14) (by decide) (hts _ (List.mem_of_getElem? (i := 2) rfl)) (fun _ h9 => h9) dX6_at_14 ?_
      obtain ⟨q17, hq17, hj1⟩ := gb_b hj1
      refine W.eq (g2 := F0 m 17 ls [.ref q17, .int v1]) (congrArg (fun z => F0 m 17 ls [va_rf z, .int v1]) hq17) ?_
      obtain ⟨t17, ht17, hj1⟩ := gb_b hj1
      refine cp_alenI hx hb hK hG ht17 dX6_at_17 ?_
      refine lv_icmp_ge (tgt := 30) hx hb dX6_at_18 (by decide) (fun c18 => ?_) (fun c18 => ?_)
      · have hj1 := gb_t c18 hj1
        refine lv_bipush (v := (-9 : Int32)) hx hb dX6_at_30 (by decide) ?_
        have hj1 := Option.some.inj hj1
        subst hj1
        exact (hJ1 H locs ls hG hS (lv_sub hl [] rfl))
      · have hj1 := gb_f c18 hj1
        refine lv_aload_n hx hb dX6_at_21 rfl (lv_at hl 0 rfl) ?_
        obtain ⟨t22, ht22, hj1⟩ := gb_b hj1
        refine cp_get (v := va_rf t22) hx hb hts gclX6 hown hK hG 0 (gfR_s ht22) (by decide) (hts _ (List.mem_of_getElem? (i := 2) rfl)) (fun _ h9 => h9) dX6_at_22 ?_
        refine lv_iload_n hx hb dX6_at_25 rfl (lv_at hl 1 rfl) ?_
        obtain ⟨q26, hq26, hj1⟩ := gb_b hj1
        refine W.eq (g2 := F0 m 26 ls [.int v1, .ref q26]) (congrArg (fun z => F0 m 26 ls [.int v1, va_rf z]) hq26) ?_
        obtain ⟨t26, ht26, hj1⟩ := gb_b hj1
        refine cp_iald hx hb hK hG ht26 dX6_at_26 ?_
        refine lv_goto (tgt := 32) hx hb dX6_at_27 (by decide) ?_
        have hj1 := Option.some.inj hj1
        subst hj1
        exact (hJ1 H locs ls hG hS (lv_sub hl [] rfl))
-- X6_breakLamp
abbrev rm_X6_breakLamp : Room := { frames := 1, cells := 0, slots := 0, locals := 20 }
set_option maxHeartbeats 4000000 in
set_option maxRecDepth 100000 in
theorem c_X6_breakLamp {v0 : Option Nat} {R : Int32 × (Nat → GV)} (hf : f_X6_breakLamp gv v0 = some R) : Met l yX6_breakLamp wsX6_breakLamp rm_X6_breakLamp (va_Pc [va_rf v0] (gPre D b M (gW cI cL gv) (gTy cI cL))) (gQ D b (some (.int R.1)) M (gW cI cL R.2)) 0 0 (gA b) := by
  refine gp_met (cc := cX6_breakLamp) (maxL := 1) (ret := (some .int)) (by decide) rfl (by simp [lg_sl, gcat_rf, gcat_ref, gcat_int, gcat_long]) ?_
  intro p e s m below meth c X ls hG hl
  obtain ⟨H, hH0⟩ : ∃ H : Heap, H = s.heap := ⟨_, rfl⟩
  rw [← hH0] at hG ⊢
  have hS : va_S (gA b) s.heap H [] := by rw [hH0]; exact va_S.rf
  obtain ⟨locs, hlo⟩ : ∃ z : List Loc, z = [] := ⟨_, rfl⟩
  rw [← hlo] at hS ⊢
  unfold f_X6_breakLamp at hf
  obtain ⟨hx, hb, hr, hml, hown, hts, hlocks, hKn, hBs⟩ := id X
  have hK := hKn.1
  have hl : lv_has ls 1 [(0, va_rf v0)] := by simpa [lv_args, gcat_rf, gcat_ref, gcat_int, gcat_long] using hl
  refine gp_aload_n (x := v0) hx hb dX6_breakLamp_0 rfl (lv_at hl 0 rfl) ?_
  refine gp_ifnonnull (x := v0) (tgt := 6) hx hb dX6_breakLamp_1 (by decide) ?_ ?_
  · intro n1 e1
    rw [e1] at hl
    rw [e1] at hf
    dsimp only at hf
    refine lv_aload_n hx hb dX6_breakLamp_6 rfl (lv_at hl 0 rfl) ?_
    obtain ⟨o7, hc7, hf⟩ := gb_b hf
    have hrun7 : va_Run p l e rm_X6_breakLamp s m [va_rf v0].toArray below meth c H locs 0 0 0 0 (F0 m 7 ls ([].reverse ++ .ref n1 :: [])) [] (gQ D b none M (gW cI cL o7) (Value.ref n1 :: []).toArray) (gA b) := by
      obtain ⟨oc, hcO, hc7⟩ := gb_b hc7
      obtain ⟨hcg, hci⟩ := gfO_s hcO
      obtain ⟨kc, fc⟩ := oc
      dsimp only at hci hcg hc7
      rcases gLC_7 hci with rfl | rfl | rfl | rfl | rfl | rfl | rfl
      · exact va_runU (As := []) (rest := []) ⟨hx, hb, hml, hown, hts⟩ (c_X5_breakDown (l := l) (D := D) (b := b) (cI := cI) (cL := cL) hc7) (va_cwU 0 hts gX6_breakLamp_X5_breakDown_u112X0 rfl rfl rfl rfl (by decide +kernel) ⟨Nat.le_of_ble_eq_true rfl, Nat.le_of_ble_eq_true rfl⟩) (gp_preV hKn hG (cp_obj hcg) rfl) rfl rfl hl.1 rfl (lv_room (Nat.le_of_ble_eq_true rfl)) dX6_breakLamp_7 ⟨Nat.le_of_ble_eq_true rfl, Nat.le_of_ble_eq_true rfl⟩
      · exact va_runU (As := []) (rest := []) ⟨hx, hb, hml, hown, hts⟩ (c_X5_breakDown (l := l) (D := D) (b := b) (cI := cI) (cL := cL) hc7) (va_cwU 0 hts gX6_breakLamp_X5_breakDown_u112X1 rfl rfl rfl rfl (by decide +kernel) ⟨Nat.le_of_ble_eq_true rfl, Nat.le_of_ble_eq_true rfl⟩) (gp_preV hKn hG (cp_obj hcg) rfl) rfl rfl hl.1 rfl (lv_room (Nat.le_of_ble_eq_true rfl)) dX6_breakLamp_7 ⟨Nat.le_of_ble_eq_true rfl, Nat.le_of_ble_eq_true rfl⟩
      · exact va_runU (As := []) (rest := []) ⟨hx, hb, hml, hown, hts⟩ (c_X5_breakDown (l := l) (D := D) (b := b) (cI := cI) (cL := cL) hc7) (va_cwU 0 hts gX6_breakLamp_X5_breakDown_u112X3 rfl rfl rfl rfl (by decide +kernel) ⟨Nat.le_of_ble_eq_true rfl, Nat.le_of_ble_eq_true rfl⟩) (gp_preV hKn hG (cp_obj hcg) rfl) rfl rfl hl.1 rfl (lv_room (Nat.le_of_ble_eq_true rfl)) dX6_breakLamp_7 ⟨Nat.le_of_ble_eq_true rfl, Nat.le_of_ble_eq_true rfl⟩
      · exact va_runU (As := []) (rest := []) ⟨hx, hb, hml, hown, hts⟩ (c_X5_breakDown (l := l) (D := D) (b := b) (cI := cI) (cL := cL) hc7) (va_cwU 0 hts gX6_breakLamp_X5_breakDown_u112X4 rfl rfl rfl rfl (by decide +kernel) ⟨Nat.le_of_ble_eq_true rfl, Nat.le_of_ble_eq_true rfl⟩) (gp_preV hKn hG (cp_obj hcg) rfl) rfl rfl hl.1 rfl (lv_room (Nat.le_of_ble_eq_true rfl)) dX6_breakLamp_7 ⟨Nat.le_of_ble_eq_true rfl, Nat.le_of_ble_eq_true rfl⟩
      · exact va_runV (As := []) (rest := []) ⟨hx, hb, hml, hown, hts⟩ (c_X5_breakDown (l := l) (D := D) (b := b) (cI := cI) (cL := cL) hc7) (cwV 0 hts gX6_breakLamp_X5_breakDown rfl rfl rfl (by decide +kernel) ⟨Nat.le_of_ble_eq_true rfl, Nat.le_of_ble_eq_true rfl⟩) (gp_preV hKn hG (cp_obj hcg) rfl) rfl rfl hl.1 rfl (lv_room (Nat.le_of_ble_eq_true rfl)) dX6_breakLamp_7 ⟨Nat.le_of_ble_eq_true rfl, Nat.le_of_ble_eq_true rfl⟩
      · exact va_runU (As := []) (rest := []) ⟨hx, hb, hml, hown, hts⟩ (c_X5_breakDown (l := l) (D := D) (b := b) (cI := cI) (cL := cL) hc7) (va_cwU 0 hts gX6_breakLamp_X5_breakDown_u112X7 rfl rfl rfl rfl (by decide +kernel) ⟨Nat.le_of_ble_eq_true rfl, Nat.le_of_ble_eq_true rfl⟩) (gp_preV hKn hG (cp_obj hcg) rfl) rfl rfl hl.1 rfl (lv_room (Nat.le_of_ble_eq_true rfl)) dX6_breakLamp_7 ⟨Nat.le_of_ble_eq_true rfl, Nat.le_of_ble_eq_true rfl⟩
      · exact va_runU (As := []) (rest := []) ⟨hx, hb, hml, hown, hts⟩ (c_X5_breakDown (l := l) (D := D) (b := b) (cI := cI) (cL := cL) hc7) (va_cwU 0 hts gX6_breakLamp_X5_breakDown_u112X8 rfl rfl rfl rfl (by decide +kernel) ⟨Nat.le_of_ble_eq_true rfl, Nat.le_of_ble_eq_true rfl⟩) (gp_preV hKn hG (cp_obj hcg) rfl) rfl rfl hl.1 rfl (lv_room (Nat.le_of_ble_eq_true rfl)) dX6_breakLamp_7 ⟨Nat.le_of_ble_eq_true rfl, Nat.le_of_ble_eq_true rfl⟩
    refine gp_callV hrun7 hS (fun H locs hG hS => ?_)
    refine lv_iconst (v := 0) hx hb dX6_breakLamp_10 (by decide) ?_
    have hf := Option.some.inj hf
    subst hf
    exact gp_retI hx hb hr hlocks hG hS (Nat.le_of_ble_eq_true rfl) (Nat.le_of_ble_eq_true rfl) dX6_breakLamp_11
  · intro e1
    rw [e1] at hl
    rw [e1] at hf
    dsimp only at hf
    refine lv_iconst (v := (-1 : Int32)) hx hb dX6_breakLamp_4 (by decide) ?_
    have hf := Option.some.inj hf
    subst hf
    exact gp_retI hx hb hr hlocks hG hS (Nat.le_of_ble_eq_true rfl) (Nat.le_of_ble_eq_true rfl) dX6_breakLamp_5
-- X6_digitAt
abbrev rm_X6_digitAt : Room := { frames := 1, cells := 0, slots := 0, locals := 21 }
set_option maxHeartbeats 4000000 in
set_option maxRecDepth 100000 in
theorem c_X6_digitAt {v1 : Int32} {R : Int32} (hf : f_X6_digitAt gv h0 v1 = some R) : Met l yX6_digitAt wsX6_digitAt rm_X6_digitAt (va_Pc [.ref h0, .int v1] (gPre D b M (gW cI cL gv) (gTy cI cL))) (gQ D b (some (.int R)) M (gW cI cL gv)) 0 0 (gA b) := by
  refine gp_met (cc := cX6_digitAt) (maxL := 2) (ret := (some .int)) (by decide) rfl (Nat.le_of_ble_eq_true rfl) ?_
  intro p e s m below meth c X ls hG hl
  obtain ⟨H, hH0⟩ : ∃ H : Heap, H = s.heap := ⟨_, rfl⟩
  rw [← hH0] at hG ⊢
  have hS : va_S (gA b) s.heap H [] := by rw [hH0]; exact va_S.rf
  obtain ⟨locs, hlo⟩ : ∃ z : List Loc, z = [] := ⟨_, rfl⟩
  rw [← hlo] at hS ⊢
  unfold f_X6_digitAt at hf
  obtain ⟨hx, hb, hr, hml, hown, hts, hlocks, hKn, hBs⟩ := id X
  have hK := hKn.1
  have hl : lv_has ls 2 [(0, .ref h0), (1, .int v1)] := hl
  refine lv_aload_n hx hb dX6_digitAt_0 rfl (lv_at hl 0 rfl) ?_
  refine lv_iload_n hx hb dX6_digitAt_1 rfl (lv_at hl 1 rfl) ?_
  obtain ⟨o2, hc2, hf⟩ := gb_b hf
  obtain ⟨oc2, hcO2, hc2⟩ := gb_b hc2
  obtain ⟨hcg2, hci2⟩ := gfO_s hcO2
  have hci2 := List.mem_singleton.mp hci2
  obtain ⟨kc2, fc2⟩ := oc2
  dsimp only at hci2 hcg2
  subst hci2
  refine gp_callI (va_runV (As := [.int v1]) (rest := []) ⟨hx, hb, hml, hown, hts⟩ (c_X6_at (l := l) (D := D) (b := b) (cI := cI) (cL := cL) hc2) (cwV 1 hts gX6_digitAt_X6_at rfl rfl rfl (by decide +kernel) ⟨Nat.le_of_ble_eq_true rfl, Nat.le_of_ble_eq_true rfl⟩) (gp_preV hKn hG (cp_obj hcg2) rfl) rfl rfl hl.1 rfl (lv_room (Nat.le_of_ble_eq_true rfl)) dX6_digitAt_2 ⟨Nat.le_of_ble_eq_true rfl, Nat.le_of_ble_eq_true rfl⟩) hS (fun H locs hG hS => ?_)
  refine lv_bipush (v := 48) hx hb dX6_digitAt_5 (by decide) ?_
  refine lv_isub hx hb dX6_digitAt_7 ?_
  have hf := Option.some.inj hf
  subst hf
  exact gp_retI hx hb hr hlocks hG hS (Nat.le_of_ble_eq_true rfl) (Nat.le_of_ble_eq_true rfl) dX6_digitAt_8
-- X6_cellAt
abbrev rm_X6_cellAt : Room := { frames := 2, cells := 0, slots := 0, locals := 42 }
set_option maxHeartbeats 4000000 in
set_option maxRecDepth 100000 in
theorem c_X6_cellAt {v1 : Int32} {R : Int32} (hf : f_X6_cellAt gv h0 v1 = some R) : Met l yX6_cellAt wsX6_cellAt rm_X6_cellAt (va_Pc [.ref h0, .int v1] (gPre D b M (gW cI cL gv) (gTy cI cL))) (gQ D b (some (.int R)) M (gW cI cL gv)) 0 0 (gA b) := by
  refine gp_met (cc := cX6_cellAt) (maxL := 2) (ret := (some .int)) (by decide) rfl (Nat.le_of_ble_eq_true rfl) ?_
  intro p e s m below meth c X ls hG hl
  obtain ⟨H, hH0⟩ : ∃ H : Heap, H = s.heap := ⟨_, rfl⟩
  rw [← hH0] at hG ⊢
  have hS : va_S (gA b) s.heap H [] := by rw [hH0]; exact va_S.rf
  obtain ⟨locs, hlo⟩ : ∃ z : List Loc, z = [] := ⟨_, rfl⟩
  rw [← hlo] at hS ⊢
  unfold f_X6_cellAt at hf
  obtain ⟨hx, hb, hr, hml, hown, hts, hlocks, hKn, hBs⟩ := id X
  have hK := hKn.1
  have hl : lv_has ls 2 [(0, .ref h0), (1, .int v1)] := hl
  refine lv_aload_n hx hb dX6_cellAt_0 rfl (lv_at hl 0 rfl) ?_
  refine lv_iload_n hx hb dX6_cellAt_1 rfl (lv_at hl 1 rfl) ?_
  obtain ⟨o2, hc2, hf⟩ := gb_b hf
  obtain ⟨oc2, hcO2, hc2⟩ := gb_b hc2
  obtain ⟨hcg2, hci2⟩ := gfO_s hcO2
  have hci2 := List.mem_singleton.mp hci2
  obtain ⟨kc2, fc2⟩ := oc2
  dsimp only at hci2 hcg2
  subst hci2
  refine gp_callI (va_runV (As := [.int v1]) (rest := []) ⟨hx, hb, hml, hown, hts⟩ (c_X6_digitAt (l := l) (D := D) (b := b) (cI := cI) (cL := cL) hc2) (cwV 1 hts gX6_cellAt_X6_digitAt rfl rfl rfl (by decide +kernel) ⟨Nat.le_of_ble_eq_true rfl, Nat.le_of_ble_eq_true rfl⟩) (gp_preV hKn hG (cp_obj hcg2) rfl) rfl rfl hl.1 rfl (lv_room (Nat.le_of_ble_eq_true rfl)) dX6_cellAt_2 ⟨Nat.le_of_ble_eq_true rfl, Nat.le_of_ble_eq_true rfl⟩) hS (fun H locs hG hS => ?_)
  refine lv_bipush (v := 10) hx hb dX6_cellAt_5 (by decide) ?_
  refine lv_imul hx hb dX6_cellAt_7 ?_
  refine lv_aload_n hx hb dX6_cellAt_8 rfl (lv_at hl 0 rfl) ?_
  refine lv_iload_n hx hb dX6_cellAt_9 rfl (lv_at hl 1 rfl) ?_
  refine lv_iconst (v := 1) hx hb dX6_cellAt_10 (by decide) ?_
  refine lv_iadd hx hb dX6_cellAt_11 ?_
  obtain ⟨o12, hc12, hf⟩ := gb_b hf
  obtain ⟨oc12, hcO12, hc12⟩ := gb_b hc12
  obtain ⟨hcg12, hci12⟩ := gfO_s hcO12
  have hci12 := List.mem_singleton.mp hci12
  obtain ⟨kc12, fc12⟩ := oc12
  dsimp only at hci12 hcg12
  subst hci12
  refine gp_callI (va_runV (As := [.int (v1 + 1)]) (rest := [.int (o2 * 10)]) ⟨hx, hb, hml, hown, hts⟩ (c_X6_digitAt (l := l) (D := D) (b := b) (cI := cI) (cL := cL) hc12) (cwV 1 hts gX6_cellAt_X6_digitAt rfl rfl rfl (by decide +kernel) ⟨Nat.le_of_ble_eq_true rfl, Nat.le_of_ble_eq_true rfl⟩) (gp_preV hKn hG (cp_obj hcg12) rfl) rfl rfl hl.1 rfl (lv_room (Nat.le_of_ble_eq_true rfl)) dX6_cellAt_12 ⟨Nat.le_of_ble_eq_true rfl, Nat.le_of_ble_eq_true rfl⟩) hS (fun H locs hG hS => ?_)
  refine lv_iadd hx hb dX6_cellAt_15 ?_
  have hf := Option.some.inj hf
  subst hf
  exact gp_retI hx hb hr hlocks hG hS (Nat.le_of_ble_eq_true rfl) (Nat.le_of_ble_eq_true rfl) dX6_cellAt_16
-- X6_clear
abbrev rm_X6_clear : Room := { frames := 0, cells := 0, slots := 0, locals := 0 }
set_option maxHeartbeats 4000000 in
set_option maxRecDepth 100000 in
theorem c_X6_clear {R : (Nat → GV)} (hf : f_X6_clear gv h0 = some R) : Met l yX6_clear wsX6_clear rm_X6_clear (va_Pc [.ref h0] (gPre D b M (gW cI cL gv) (gTy cI cL))) (gQ D b none M (gW cI cL R)) 0 0 (gA b) := by
  refine gp_met (cc := cX6_clear) (maxL := 1) (ret := none) (by decide) rfl (Nat.le_of_ble_eq_true rfl) ?_
  intro p e s m below meth c X ls hG hl
  obtain ⟨H, hH0⟩ : ∃ H : Heap, H = s.heap := ⟨_, rfl⟩
  rw [← hH0] at hG ⊢
  have hS : va_S (gA b) s.heap H [] := by rw [hH0]; exact va_S.rf
  obtain ⟨locs, hlo⟩ : ∃ z : List Loc, z = [] := ⟨_, rfl⟩
  rw [← hlo] at hS ⊢
  unfold f_X6_clear at hf
  obtain ⟨hx, hb, hr, hml, hown, hts, hlocks, hKn, hBs⟩ := id X
  have hK := hKn.1
  have gclX6 : gcl [5] TX6 2 wsX6_clear := gcl_1 rfl (fun _ h => List.mem_cons_of_mem _ (List.mem_append_right _ h))
  have hl : lv_has ls 1 [(0, .ref h0)] := hl
  refine lv_aload_n hx hb dX6_clear_0 rfl (lv_at hl 0 rfl) ?_
  refine lv_iconst (v := 0) hx hb dX6_clear_1 (by decide) ?_
  obtain ⟨g2, ht2, hf⟩ := gb_b hf
  refine cp_put (tyk := .int) hx hb hts gclX6 tyX6 tyX6_ok nmX6 hown hK hG hS 1 ht2 (by decide) (hts _ (List.mem_of_getElem? (i := 1) rfl)) (fun _ h9 => h9) rfl (by decide +kernel) rfl rfl dX6_clear_2 (fun H locs hG hS => ?_)
  have hf := Option.some.inj hf
  subst hf
  exact gp_retV hx hb hr hlocks hG hS (Nat.le_of_ble_eq_true rfl) (Nat.le_of_ble_eq_true rfl) dX6_clear_5
-- J0_isLatin1_aae02
abbrev rm_J0_isLatin1_aae02 : Room := { frames := 0, cells := 0, slots := 0, locals := 0 }
set_option maxHeartbeats 4000000 in
set_option maxRecDepth 100000 in
theorem c_J0_isLatin1_aae02 {v0 : Nat} {R : Int32} (hf : f_J0_isLatin1_aae02 v0 = some R) : Met l yJ0_isLatin1_aae02 wsJ0_isLatin1_aae02 rm_J0_isLatin1_aae02 (va_Pc [.ref (b.2.2.1 v0)] (gPre D b M (gh) (gTy cI cL))) (gQ D b (some (.int R)) M (gh)) 0 0 (gA b) := by
  refine gp_met (cc := cJ0_isLatin1_aae02) (maxL := 1) (ret := (some .boolean)) (by decide) rfl (Nat.le_of_ble_eq_true rfl) ?_
  intro p e s m below meth c X ls hG hl
  obtain ⟨H, hH0⟩ : ∃ H : Heap, H = s.heap := ⟨_, rfl⟩
  rw [← hH0] at hG ⊢
  have hS : va_S (gA b) s.heap H [] := by rw [hH0]; exact va_S.rf
  obtain ⟨locs, hlo⟩ : ∃ z : List Loc, z = [] := ⟨_, rfl⟩
  rw [← hlo] at hS ⊢
  unfold f_J0_isLatin1_aae02 at hf
  obtain ⟨hx, hb, hr, hml, hown, hts, hlocks, hKn, hBs⟩ := id X
  have hK := hKn.1
  have hE : vk_S 6 gSl gSb b.2.2.1 b.2.2.2 (gA b) s s.heap := gs_E hKn hBs
  have hZ : va_Z "java/lang/String" "COMPACT_STRINGS" "Z" (.int 1) (gA b) s s.heap := gs_Z hKn hBs
  have hZq : va_Zq "jdk/internal/util/Preconditions" "SIOOBE_FORMATTER" "Ljava/util/function/BiFunction;" (gA b) s s.heap := gs_Zq hKn hBs
  have hl : lv_has ls 1 [(0, .ref (b.2.2.1 v0))] := hl
  refine va_gets (v := .int 1) hx hb hZ hS hown (hts _ (List.mem_of_getElem? (i := 1) rfl)) (fun _ h9 => h9) dJ0_isLatin1_aae02_0 ?_
  refine lv_if_eq (tgt := 17) hx hb dJ0_isLatin1_aae02_3 (by decide) (fun c => absurd c (by decide)) (fun _ => ?_)
  refine lv_aload_n hx hb dJ0_isLatin1_aae02_6 rfl (lv_at hl 0 rfl) ?_
  obtain ⟨hi7, hf⟩ := gb_si hf
  refine vk_getf (v := .int 0) hx hb (hE.1 _ hi7).2.1 hS hown (hts _ (List.mem_of_getElem? (i := 2) rfl)) (fun _ h9 => h9) dJ0_isLatin1_aae02_7 ?_
  refine lv_if_ne (tgt := 17) hx hb dJ0_isLatin1_aae02_10 (by decide) (fun c => absurd c (by decide)) (fun _ => ?_)
  refine lv_iconst (v := 1) hx hb dJ0_isLatin1_aae02_13 (by decide) ?_
  refine lv_goto (tgt := 18) hx hb dJ0_isLatin1_aae02_14 (by decide) ?_
  have hf := Option.some.inj hf
  subst hf
  exact gp_retZ hx hb hr (Or.inr rfl) hlocks hG hS (Nat.le_of_ble_eq_true rfl) (Nat.le_of_ble_eq_true rfl) dJ0_isLatin1_aae02_18
-- J0_coder_7d493
abbrev rm_J0_coder_7d493 : Room := { frames := 0, cells := 0, slots := 0, locals := 0 }
set_option maxHeartbeats 4000000 in
set_option maxRecDepth 100000 in
theorem c_J0_coder_7d493 {v0 : Nat} {R : Int32} (hf : f_J0_coder_7d493 v0 = some R) : Met l yJ0_coder_7d493 wsJ0_coder_7d493 rm_J0_coder_7d493 (va_Pc [.ref (b.2.2.1 v0)] (gPre D b M (gh) (gTy cI cL))) (gQ D b (some (.int R)) M (gh)) 0 0 (gA b) := by
  refine gp_met (cc := cJ0_coder_7d493) (maxL := 1) (ret := (some .byte)) (by decide) rfl (Nat.le_of_ble_eq_true rfl) ?_
  intro p e s m below meth c X ls hG hl
  obtain ⟨H, hH0⟩ : ∃ H : Heap, H = s.heap := ⟨_, rfl⟩
  rw [← hH0] at hG ⊢
  have hS : va_S (gA b) s.heap H [] := by rw [hH0]; exact va_S.rf
  obtain ⟨locs, hlo⟩ : ∃ z : List Loc, z = [] := ⟨_, rfl⟩
  rw [← hlo] at hS ⊢
  unfold f_J0_coder_7d493 at hf
  obtain ⟨hx, hb, hr, hml, hown, hts, hlocks, hKn, hBs⟩ := id X
  have hK := hKn.1
  have hE : vk_S 6 gSl gSb b.2.2.1 b.2.2.2 (gA b) s s.heap := gs_E hKn hBs
  have hZ : va_Z "java/lang/String" "COMPACT_STRINGS" "Z" (.int 1) (gA b) s s.heap := gs_Z hKn hBs
  have hZq : va_Zq "jdk/internal/util/Preconditions" "SIOOBE_FORMATTER" "Ljava/util/function/BiFunction;" (gA b) s s.heap := gs_Zq hKn hBs
  have hl : lv_has ls 1 [(0, .ref (b.2.2.1 v0))] := hl
  refine va_gets (v := .int 1) hx hb hZ hS hown (hts _ (List.mem_of_getElem? (i := 1) rfl)) (fun _ h9 => h9) dJ0_coder_7d493_0 ?_
  refine lv_if_eq (tgt := 13) hx hb dJ0_coder_7d493_3 (by decide) (fun c => absurd c (by decide)) (fun _ => ?_)
  refine lv_aload_n hx hb dJ0_coder_7d493_6 rfl (lv_at hl 0 rfl) ?_
  obtain ⟨hi7, hf⟩ := gb_si hf
  refine vk_getf (v := .int 0) hx hb (hE.1 _ hi7).2.1 hS hown (hts _ (List.mem_of_getElem? (i := 2) rfl)) (fun _ h9 => h9) dJ0_coder_7d493_7 ?_
  refine lv_goto (tgt := 14) hx hb dJ0_coder_7d493_10 (by decide) ?_
  have hf := Option.some.inj hf
  subst hf
  exact gp_retB hx hb hr (by decide) hlocks hG hS (Nat.le_of_ble_eq_true rfl) (Nat.le_of_ble_eq_true rfl) dJ0_coder_7d493_14
-- J0_length_8abf5
abbrev rm_J0_length_8abf5 : Room := { frames := 1, cells := 0, slots := 0, locals := 20 }
set_option maxHeartbeats 4000000 in
set_option maxRecDepth 100000 in
theorem c_J0_length_8abf5 {v0 : Nat} {R : Int32} (hf : f_J0_length_8abf5 v0 = some R) : Met l yJ0_length_8abf5 wsJ0_length_8abf5 rm_J0_length_8abf5 (va_Pc [.ref (b.2.2.1 v0)] (gPre D b M (gh) (gTy cI cL))) (gQ D b (some (.int R)) M (gh)) 0 0 (gA b) := by
  refine gp_met (cc := cJ0_length_8abf5) (maxL := 1) (ret := (some .int)) (by decide) rfl (Nat.le_of_ble_eq_true rfl) ?_
  intro p e s m below meth c X ls hG hl
  obtain ⟨H, hH0⟩ : ∃ H : Heap, H = s.heap := ⟨_, rfl⟩
  rw [← hH0] at hG ⊢
  have hS : va_S (gA b) s.heap H [] := by rw [hH0]; exact va_S.rf
  obtain ⟨locs, hlo⟩ : ∃ z : List Loc, z = [] := ⟨_, rfl⟩
  rw [← hlo] at hS ⊢
  unfold f_J0_length_8abf5 at hf
  obtain ⟨hx, hb, hr, hml, hown, hts, hlocks, hKn, hBs⟩ := id X
  have hK := hKn.1
  have hE : vk_S 6 gSl gSb b.2.2.1 b.2.2.2 (gA b) s s.heap := gs_E hKn hBs
  have hZ : va_Z "java/lang/String" "COMPACT_STRINGS" "Z" (.int 1) (gA b) s s.heap := gs_Z hKn hBs
  have hZq : va_Zq "jdk/internal/util/Preconditions" "SIOOBE_FORMATTER" "Ljava/util/function/BiFunction;" (gA b) s s.heap := gs_Zq hKn hBs
  have hl : lv_has ls 1 [(0, .ref (b.2.2.1 v0))] := hl
  refine lv_aload_n hx hb dJ0_length_8abf5_0 rfl (lv_at hl 0 rfl) ?_
  obtain ⟨hi1, hf⟩ := gb_si hf
  refine vk_getf (v := .ref (b.2.2.2 v0)) hx hb (hE.1 _ hi1).2.2.1 hS hown (hts _ (List.mem_of_getElem? (i := 1) rfl)) (fun _ h9 => h9) dJ0_length_8abf5_1 ?_
  obtain ⟨hi4, hf⟩ := gb_si hf
  refine va_tlen hx hb (hE.1 _ hi4).2.2.2 hS rfl dJ0_length_8abf5_4 ?_
  refine lv_aload_n hx hb dJ0_length_8abf5_5 rfl (lv_at hl 0 rfl) ?_
  obtain ⟨hi6, hf⟩ := gb_si hf
  obtain ⟨o6, hc6, hf⟩ := gb_b hf
  refine gp_callI (va_runV (As := []) (rest := [.int (Int32.ofNat (gSl.getD v0 0))]) ⟨hx, hb, hml, hown, hts⟩ (c_J0_coder_7d493 (l := l) (D := D) (b := b) (cI := cI) (cL := cL) hc6) (cwV 0 hts gJ0_length_8abf5_J0_coder_7d493 rfl rfl rfl (by decide +kernel) ⟨Nat.le_of_ble_eq_true rfl, Nat.le_of_ble_eq_true rfl⟩) (gs_preV hKn hG hE hi6 hS) rfl rfl hl.1 rfl (lv_room (Nat.le_of_ble_eq_true rfl)) dJ0_length_8abf5_6 ⟨Nat.le_of_ble_eq_true rfl, Nat.le_of_ble_eq_true rfl⟩) hS (fun H locs hG hS => ?_)
  refine lv_ishr hx hb dJ0_length_8abf5_9 ?_
  have hf := Option.some.inj hf
  subst hf
  exact gp_retI hx hb hr hlocks hG hS (Nat.le_of_ble_eq_true rfl) (Nat.le_of_ble_eq_true rfl) dJ0_length_8abf5_10
-- J1_canEncode_9a6ad
abbrev rm_J1_canEncode_9a6ad : Room := { frames := 0, cells := 0, slots := 0, locals := 0 }
set_option maxHeartbeats 4000000 in
set_option maxRecDepth 100000 in
theorem c_J1_canEncode_9a6ad {v0 : Int32} {R : Int32} (hf : f_J1_canEncode_9a6ad v0 = some R) : Met l yJ1_canEncode_9a6ad wsJ1_canEncode_9a6ad rm_J1_canEncode_9a6ad (va_Pc [.int v0] (gPre D b M (gh) (gTy cI cL))) (gQ D b (some (.int R)) M (gh)) 0 0 (gA b) := by
  refine gp_met (cc := cJ1_canEncode_9a6ad) (maxL := 1) (ret := (some .boolean)) (by decide) rfl (Nat.le_of_ble_eq_true rfl) ?_
  intro p e s m below meth c X ls hG hl
  obtain ⟨H, hH0⟩ : ∃ H : Heap, H = s.heap := ⟨_, rfl⟩
  rw [← hH0] at hG ⊢
  have hS : va_S (gA b) s.heap H [] := by rw [hH0]; exact va_S.rf
  obtain ⟨locs, hlo⟩ : ∃ z : List Loc, z = [] := ⟨_, rfl⟩
  rw [← hlo] at hS ⊢
  unfold f_J1_canEncode_9a6ad at hf
  obtain ⟨hx, hb, hr, hml, hown, hts, hlocks, hKn, hBs⟩ := id X
  have hK := hKn.1
  have hl : lv_has ls 1 [(0, .int v0)] := hl
  refine lv_iload_n hx hb dJ1_canEncode_9a6ad_0 rfl (lv_at hl 0 rfl) ?_
  have hJ1 : ∀ Z : Int32, Z = (if v0 < 0 then 0 else if 255 < v0 then 0 else 1) → W p l e rm_J1_canEncode_9a6ad s m [.int v0].toArray below meth c H locs 0 0 (MQ below (gQ D b (some (.int R)) M (gh)) [.int v0].toArray s 0 0 (gA b)) (F0 m 16 ls (.int Z :: [])) := by
    intro Z hZ
    subst hZ
    obtain ⟨z16, hf⟩ := gb_zb hf
    have hf := Option.some.inj hf
    subst hf
    exact gp_retZ hx hb hr z16 hlocks hG hS (Nat.le_of_ble_eq_true rfl) (Nat.le_of_ble_eq_true rfl) dJ1_canEncode_9a6ad_16
  refine lv_if_lt (tgt := 15) hx hb dJ1_canEncode_9a6ad_1 (by decide) (fun c1 => ?_) (fun c1 => ?_)
  · rw [if_pos c1] at hJ1
    refine lv_iconst (v := 0) hx hb dJ1_canEncode_9a6ad_15 (by decide) ?_
    exact hJ1 _ rfl
  · rw [if_neg c1] at hJ1
    refine lv_iload_n hx hb dJ1_canEncode_9a6ad_4 rfl (lv_at hl 0 rfl) ?_
    refine lv_sipush (v := 255) hx hb dJ1_canEncode_9a6ad_5 (by decide) ?_
    refine lv_icmp_gt (tgt := 15) hx hb dJ1_canEncode_9a6ad_8 (by decide) (fun c8 => ?_) (fun c8 => ?_)
    · rw [if_pos c8] at hJ1
      refine lv_iconst (v := 0) hx hb dJ1_canEncode_9a6ad_15 (by decide) ?_
      exact hJ1 _ rfl
    · rw [if_neg c8] at hJ1
      refine lv_iconst (v := 1) hx hb dJ1_canEncode_9a6ad_11 (by decide) ?_
      refine lv_goto (tgt := 16) hx hb dJ1_canEncode_9a6ad_12 (by decide) ?_
      exact hJ1 _ rfl
end
