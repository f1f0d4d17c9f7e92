section
variable {p : Program} {l : Launch} {e : Env} {s : State} {m : MethodId} {args : Array Value} {below : List Frame} {meth : Method} {c : Code} {D : va_G} {b : GB} {M : Nat} {cI cL : ClassId} {h0 : Nat} {gv : Nat → GV} {gh : Nat → va_E} {Q : State → Prop}
-- X7_kind
abbrev rm_X7_kind : Room := { frames := 0, cells := 0, slots := 0, locals := 0 }
set_option maxHeartbeats 4000000 in
set_option maxRecDepth 100000 in
theorem c_X7_kind {R : Int32} (hf : f_X7_kind h0 = some R) : Met l yX7_kind wsX7_kind rm_X7_kind (va_Pc [.ref h0] (gPre D b M (gh) (gTy cI cL))) (gQ D b (some (.int R)) M (gh)) 0 0 (gA b) := by
  refine gp_met (cc := cX7_kind) (maxL := 1) (ret := (some .int)) (by decide) rfl (Nat.le_of_ble_eq_true rfl) ?_
  intro p e s m below meth c X ls hG hl
  obtain ⟨H, hH0⟩ : ∃ H : Heap, H = s.heap := ⟨_, rfl⟩
  rw [← hH0] at hG ⊢
  have hS : va_S (gA b) s.heap H [] := by rw [hH0]; exact va_S.rf
  obtain ⟨locs, hlo⟩ : ∃ z : List Loc, z = [] := ⟨_, rfl⟩
  rw [← hlo] at hS ⊢
  unfold f_X7_kind at hf
  obtain ⟨hx, hb, hr, hml, hown, hts, hlocks, hKn, hBs⟩ := id X
  have hK := hKn.1
  have hl : lv_has ls 1 [(0, .ref h0)] := hl
  refine lv_iconst (v := 2) hx hb dX7_kind_0 (by decide) ?_
  have hf := Option.some.inj hf
  subst hf
  exact gp_retI hx hb hr hlocks hG hS (Nat.le_of_ble_eq_true rfl) (Nat.le_of_ble_eq_true rfl) dX7_kind_1
-- X8_kind
abbrev rm_X8_kind : Room := { frames := 0, cells := 0, slots := 0, locals := 0 }
set_option maxHeartbeats 4000000 in
set_option maxRecDepth 100000 in
theorem c_X8_kind {R : Int32} (hf : f_X8_kind h0 = some R) : Met l yX8_kind wsX8_kind rm_X8_kind (va_Pc [.ref h0] (gPre D b M (gh) (gTy cI cL))) (gQ D b (some (.int R)) M (gh)) 0 0 (gA b) := by
  refine gp_met (cc := cX8_kind) (maxL := 1) (ret := (some .int)) (by decide) rfl (Nat.le_of_ble_eq_true rfl) ?_
  intro p e s m below meth c X ls hG hl
  obtain ⟨H, hH0⟩ : ∃ H : Heap, H = s.heap := ⟨_, rfl⟩
  rw [← hH0] at hG ⊢
  have hS : va_S (gA b) s.heap H [] := by rw [hH0]; exact va_S.rf
  obtain ⟨locs, hlo⟩ : ∃ z : List Loc, z = [] := ⟨_, rfl⟩
  rw [← hlo] at hS ⊢
  unfold f_X8_kind at hf
  obtain ⟨hx, hb, hr, hml, hown, hts, hlocks, hKn, hBs⟩ := id X
  have hK := hKn.1
  have hl : lv_has ls 1 [(0, .ref h0)] := hl
  refine lv_iconst (v := 5) hx hb dX8_kind_0 (by decide) ?_
  have hf := Option.some.inj hf
  subst hf
  exact gp_retI hx hb hr hlocks hG hS (Nat.le_of_ble_eq_true rfl) (Nat.le_of_ble_eq_true rfl) dX8_kind_1
-- X5_sawAt
abbrev rm_X5_sawAt : Room := { frames := 2, cells := 0, slots := 0, locals := 43 }
set_option maxHeartbeats 4000000 in
set_option maxRecDepth 100000 in
theorem c_X5_sawAt {v1 : Int32} {v2 : Int32} {R : Int32} (hf : f_X5_sawAt gv h0 v1 v2 = some R) : Met l yX5_sawAt wsX5_sawAt rm_X5_sawAt (va_Pc [.ref h0, .int v1, .int v2] (gPre D b M (gW cI cL gv) (gTy cI cL))) (gQ D b (some (.int R)) M (gW cI cL gv)) 0 0 (gA b) := by
  refine gp_met (cc := cX5_sawAt) (maxL := 4) (ret := (some .boolean)) (by decide) rfl (Nat.le_of_ble_eq_true rfl) ?_
  intro p e s m below meth c X ls hG hl
  obtain ⟨H, hH0⟩ : ∃ H : Heap, H = s.heap := ⟨_, rfl⟩
  rw [← hH0] at hG ⊢
  have hS : va_S (gA b) s.heap H [] := by rw [hH0]; exact va_S.rf
  obtain ⟨locs, hlo⟩ : ∃ z : List Loc, z = [] := ⟨_, rfl⟩
  rw [← hlo] at hS ⊢
  unfold f_X5_sawAt at hf
  obtain ⟨hx, hb, hr, hml, hown, hts, hlocks, hKn, hBs⟩ := id X
  have hK := hKn.1
  have hl : lv_has ls 4 [(0, .ref h0), (1, .int v1), (2, .int v2)] := hl
  refine lv_aload_n hx hb dX5_sawAt_0 rfl (lv_at hl 0 rfl) ?_
  refine lv_iload_n hx hb dX5_sawAt_1 rfl (lv_at hl 2 rfl) ?_
  obtain ⟨o2, hc2, hf⟩ := gb_b hf
  have hrun2 : va_Run p l e rm_X5_sawAt s m [.ref h0, .int v1, .int v2].toArray below meth c H locs 0 0 0 0 (F0 m 2 ls ([.int v2].reverse ++ .ref h0 :: [])) [] (gQ D b (some (.int o2)) M (gW cI cL gv) (Value.ref h0 :: [.int v2]).toArray) (gA b) := by
    obtain ⟨oc, hcO, hc2⟩ := gb_b hc2
    obtain ⟨hcg, hci⟩ := gfO_s hcO
    obtain ⟨kc, fc⟩ := oc
    dsimp only at hci hcg hc2
    rcases gLC_7 hci with rfl | rfl | rfl | rfl | rfl | rfl | rfl
    · exact va_runU (As := [.int v2]) (rest := []) ⟨hx, hb, hml, hown, hts⟩ (c_X5_placeOfMinute (l := l) (D := D) (b := b) (cI := cI) (cL := cL) hc2) (va_cwU 1 hts gX5_sawAt_X5_placeOfMinute_u102X0 rfl rfl rfl rfl (by decide +kernel) ⟨Nat.le_of_ble_eq_true rfl, Nat.le_of_ble_eq_true rfl⟩) (gp_preV hKn hG (cp_obj hcg) rfl) rfl rfl hl.1 rfl (lv_room (Nat.le_of_ble_eq_true rfl)) dX5_sawAt_2 ⟨Nat.le_of_ble_eq_true rfl, Nat.le_of_ble_eq_true rfl⟩
    · exact va_runU (As := [.int v2]) (rest := []) ⟨hx, hb, hml, hown, hts⟩ (c_X5_placeOfMinute (l := l) (D := D) (b := b) (cI := cI) (cL := cL) hc2) (va_cwU 1 hts gX5_sawAt_X5_placeOfMinute_u102X1 rfl rfl rfl rfl (by decide +kernel) ⟨Nat.le_of_ble_eq_true rfl, Nat.le_of_ble_eq_true rfl⟩) (gp_preV hKn hG (cp_obj hcg) rfl) rfl rfl hl.1 rfl (lv_room (Nat.le_of_ble_eq_true rfl)) dX5_sawAt_2 ⟨Nat.le_of_ble_eq_true rfl, Nat.le_of_ble_eq_true rfl⟩
    · exact va_runU (As := [.int v2]) (rest := []) ⟨hx, hb, hml, hown, hts⟩ (c_X5_placeOfMinute (l := l) (D := D) (b := b) (cI := cI) (cL := cL) hc2) (va_cwU 1 hts gX5_sawAt_X5_placeOfMinute_u102X3 rfl rfl rfl rfl (by decide +kernel) ⟨Nat.le_of_ble_eq_true rfl, Nat.le_of_ble_eq_true rfl⟩) (gp_preV hKn hG (cp_obj hcg) rfl) rfl rfl hl.1 rfl (lv_room (Nat.le_of_ble_eq_true rfl)) dX5_sawAt_2 ⟨Nat.le_of_ble_eq_true rfl, Nat.le_of_ble_eq_true rfl⟩
    · exact va_runU (As := [.int v2]) (rest := []) ⟨hx, hb, hml, hown, hts⟩ (c_X5_placeOfMinute (l := l) (D := D) (b := b) (cI := cI) (cL := cL) hc2) (va_cwU 1 hts gX5_sawAt_X5_placeOfMinute_u102X4 rfl rfl rfl rfl (by decide +kernel) ⟨Nat.le_of_ble_eq_true rfl, Nat.le_of_ble_eq_true rfl⟩) (gp_preV hKn hG (cp_obj hcg) rfl) rfl rfl hl.1 rfl (lv_room (Nat.le_of_ble_eq_true rfl)) dX5_sawAt_2 ⟨Nat.le_of_ble_eq_true rfl, Nat.le_of_ble_eq_true rfl⟩
    · exact va_runV (As := [.int v2]) (rest := []) ⟨hx, hb, hml, hown, hts⟩ (c_X5_placeOfMinute (l := l) (D := D) (b := b) (cI := cI) (cL := cL) hc2) (cwV 1 hts gX5_sawAt_X5_placeOfMinute rfl rfl rfl (by decide +kernel) ⟨Nat.le_of_ble_eq_true rfl, Nat.le_of_ble_eq_true rfl⟩) (gp_preV hKn hG (cp_obj hcg) rfl) rfl rfl hl.1 rfl (lv_room (Nat.le_of_ble_eq_true rfl)) dX5_sawAt_2 ⟨Nat.le_of_ble_eq_true rfl, Nat.le_of_ble_eq_true rfl⟩
    · exact va_runU (As := [.int v2]) (rest := []) ⟨hx, hb, hml, hown, hts⟩ (c_X5_placeOfMinute (l := l) (D := D) (b := b) (cI := cI) (cL := cL) hc2) (va_cwU 1 hts gX5_sawAt_X5_placeOfMinute_u102X7 rfl rfl rfl rfl (by decide +kernel) ⟨Nat.le_of_ble_eq_true rfl, Nat.le_of_ble_eq_true rfl⟩) (gp_preV hKn hG (cp_obj hcg) rfl) rfl rfl hl.1 rfl (lv_room (Nat.le_of_ble_eq_true rfl)) dX5_sawAt_2 ⟨Nat.le_of_ble_eq_true rfl, Nat.le_of_ble_eq_true rfl⟩
    · exact va_runU (As := [.int v2]) (rest := []) ⟨hx, hb, hml, hown, hts⟩ (c_X5_placeOfMinute (l := l) (D := D) (b := b) (cI := cI) (cL := cL) hc2) (va_cwU 1 hts gX5_sawAt_X5_placeOfMinute_u102X8 rfl rfl rfl rfl (by decide +kernel) ⟨Nat.le_of_ble_eq_true rfl, Nat.le_of_ble_eq_true rfl⟩) (gp_preV hKn hG (cp_obj hcg) rfl) rfl rfl hl.1 rfl (lv_room (Nat.le_of_ble_eq_true rfl)) dX5_sawAt_2 ⟨Nat.le_of_ble_eq_true rfl, Nat.le_of_ble_eq_true rfl⟩
  refine gp_callI hrun2 hS (fun H locs hG hS => ?_)
  refine lv_istore_n (lv' := [(3, .int o2), (0, .ref h0), (1, .int v1), (2, .int v2)]) hx hb dX5_sawAt_5 rfl hl (by decide) rfl (fun ls hl => ?_)
  refine lv_iload_n hx hb dX5_sawAt_6 rfl (lv_at hl 0 rfl) ?_
  obtain ⟨j7, hj7, hf⟩ := gb_b hf
  have hJ7 : ∀ (H : Heap) (locs : List Loc) (ls : Array Slot), GP D b M (gW cI cL gv) H → va_S (gA b) s.heap H locs → lv_has ls 4 [] → W p l e rm_X5_sawAt s m [.ref h0, .int v1, .int v2].toArray below meth c H locs 0 0 (MQ below (gQ D b (some (.int R)) M (gW cI cL gv)) [.ref h0, .int v1, .int v2].toArray s 0 0 (gA b)) (F0 m 27 ls [.int j7]) := by
    intro H locs ls hG hS hl
    obtain ⟨z27, hf⟩ := gb_zb hf
    have hf := Option.some.inj hf
    subst hf
    exact gp_retZ hx hb hr z27 hlocks hG hS (Nat.le_of_ble_eq_true rfl) (Nat.le_of_ble_eq_true rfl) dX5_sawAt_27
  refine lv_if_lt (tgt := 26) hx hb dX5_sawAt_7 (by decide) (fun c7 => ?_) (fun c7 => ?_)
  · have hj7 := gb_t c7 hj7
    refine lv_iconst (v := 0) hx hb dX5_sawAt_26 (by decide) ?_
    have hj7 := Option.some.inj hj7
    subst hj7
    exact (hJ7 H locs ls hG hS (lv_sub hl [] rfl))
  · have hj7 := gb_f c7 hj7
    refine lv_aload_n hx hb dX5_sawAt_10 rfl (lv_at hl 1 rfl) ?_
    refine lv_iload_n hx hb dX5_sawAt_11 rfl (lv_at hl 0 rfl) ?_
    obtain ⟨o12, hc12, hj7⟩ := gb_b hj7
    have hrun12 : va_Run p l e rm_X5_sawAt s m [.ref h0, .int v1, .int v2].toArray below meth c H locs 0 0 0 0 (F0 m 12 ls ([.int o2].reverse ++ .ref h0 :: [])) [] (gQ D b (some (.int o12)) M (gW cI cL gv) (Value.ref h0 :: [.int o2]).toArray) (gA b) := by
      obtain ⟨oc, hcO, hc12⟩ := gb_b hc12
      obtain ⟨hcg, hci⟩ := gfO_s hcO
      obtain ⟨kc, fc⟩ := oc
      dsimp only at hci hcg hc12
      rcases gLC_7 hci with rfl | rfl | rfl | rfl | rfl | rfl | rfl
      · exact va_runU (As := [.int o2]) (rest := []) ⟨hx, hb, hml, hown, hts⟩ (c_X5_sceneAt (l := l) (D := D) (b := b) (cI := cI) (cL := cL) hc12) (va_cwU 1 hts gX5_sawAt_X5_sceneAt_u96X0 rfl rfl rfl rfl (by decide +kernel) ⟨Nat.le_of_ble_eq_true rfl, Nat.le_of_ble_eq_true rfl⟩) (gp_preV hKn hG (cp_obj hcg) rfl) rfl rfl hl.1 rfl (lv_room (Nat.le_of_ble_eq_true rfl)) dX5_sawAt_12 ⟨Nat.le_of_ble_eq_true rfl, Nat.le_of_ble_eq_true rfl⟩
      · exact va_runU (As := [.int o2]) (rest := []) ⟨hx, hb, hml, hown, hts⟩ (c_X5_sceneAt (l := l) (D := D) (b := b) (cI := cI) (cL := cL) hc12) (va_cwU 1 hts gX5_sawAt_X5_sceneAt_u96X1 rfl rfl rfl rfl (by decide +kernel) ⟨Nat.le_of_ble_eq_true rfl, Nat.le_of_ble_eq_true rfl⟩) (gp_preV hKn hG (cp_obj hcg) rfl) rfl rfl hl.1 rfl (lv_room (Nat.le_of_ble_eq_true rfl)) dX5_sawAt_12 ⟨Nat.le_of_ble_eq_true rfl, Nat.le_of_ble_eq_true rfl⟩
      · exact va_runU (As := [.int o2]) (rest := []) ⟨hx, hb, hml, hown, hts⟩ (c_X5_sceneAt (l := l) (D := D) (b := b) (cI := cI) (cL := cL) hc12) (va_cwU 1 hts gX5_sawAt_X5_sceneAt_u96X3 rfl rfl rfl rfl (by decide +kernel) ⟨Nat.le_of_ble_eq_true rfl, Nat.le_of_ble_eq_true rfl⟩) (gp_preV hKn hG (cp_obj hcg) rfl) rfl rfl hl.1 rfl (lv_room (Nat.le_of_ble_eq_true rfl)) dX5_sawAt_12 ⟨Nat.le_of_ble_eq_true rfl, Nat.le_of_ble_eq_true rfl⟩
      · exact va_runU (As := [.int o2]) (rest := []) ⟨hx, hb, hml, hown, hts⟩ (c_X5_sceneAt (l := l) (D := D) (b := b) (cI := cI) (cL := cL) hc12) (va_cwU 1 hts gX5_sawAt_X5_sceneAt_u96X4 rfl rfl rfl rfl (by decide +kernel) ⟨Nat.le_of_ble_eq_true rfl, Nat.le_of_ble_eq_true rfl⟩) (gp_preV hKn hG (cp_obj hcg) rfl) rfl rfl hl.1 rfl (lv_room (Nat.le_of_ble_eq_true rfl)) dX5_sawAt_12 ⟨Nat.le_of_ble_eq_true rfl, Nat.le_of_ble_eq_true rfl⟩
      · exact va_runV (As := [.int o2]) (rest := []) ⟨hx, hb, hml, hown, hts⟩ (c_X5_sceneAt (l := l) (D := D) (b := b) (cI := cI) (cL := cL) hc12) (cwV 1 hts gX5_sawAt_X5_sceneAt rfl rfl rfl (by decide +kernel) ⟨Nat.le_of_ble_eq_true rfl, Nat.le_of_ble_eq_true rfl⟩) (gp_preV hKn hG (cp_obj hcg) rfl) rfl rfl hl.1 rfl (lv_room (Nat.le_of_ble_eq_true rfl)) dX5_sawAt_12 ⟨Nat.le_of_ble_eq_true rfl, Nat.le_of_ble_eq_true rfl⟩
      · exact va_runU (As := [.int o2]) (rest := []) ⟨hx, hb, hml, hown, hts⟩ (c_X5_sceneAt (l := l) (D := D) (b := b) (cI := cI) (cL := cL) hc12) (va_cwU 1 hts gX5_sawAt_X5_sceneAt_u96X7 rfl rfl rfl rfl (by decide +kernel) ⟨Nat.le_of_ble_eq_true rfl, Nat.le_of_ble_eq_true rfl⟩) (gp_preV hKn hG (cp_obj hcg) rfl) rfl rfl hl.1 rfl (lv_room (Nat.le_of_ble_eq_true rfl)) dX5_sawAt_12 ⟨Nat.le_of_ble_eq_true rfl, Nat.le_of_ble_eq_true rfl⟩
      · exact va_runU (As := [.int o2]) (rest := []) ⟨hx, hb, hml, hown, hts⟩ (c_X5_sceneAt (l := l) (D := D) (b := b) (cI := cI) (cL := cL) hc12) (va_cwU 1 hts gX5_sawAt_X5_sceneAt_u96X8 rfl rfl rfl rfl (by decide +kernel) ⟨Nat.le_of_ble_eq_true rfl, Nat.le_of_ble_eq_true rfl⟩) (gp_preV hKn hG (cp_obj hcg) rfl) rfl rfl hl.1 rfl (lv_room (Nat.le_of_ble_eq_true rfl)) dX5_sawAt_12 ⟨Nat.le_of_ble_eq_true rfl, Nat.le_of_ble_eq_true rfl⟩
    refine gp_callI hrun12 hS (fun H locs hG hS => ?_)
    obtain ⟨o15, hc15, hj7⟩ := gb_b hj7
    refine gp_callI (va_runS (As := [.int o12]) (rest := []) ⟨hx, hb, hml, hown, hts⟩ (c_X9_whoIn (l := l) (D := D) (b := b) (cI := cI) (cL := cL) hc15) (va_cwS 1 hts gX5_sawAt_X9_whoIn rfl rfl rfl (by decide +kernel) ⟨Nat.le_of_ble_eq_true rfl, Nat.le_of_ble_eq_true rfl⟩) (gp_preS hKn hG) rfl rfl hl.1 rfl (lv_room (Nat.le_of_ble_eq_true rfl)) dX5_sawAt_15 ⟨Nat.le_of_ble_eq_true rfl, Nat.le_of_ble_eq_true rfl⟩) hS (fun H locs hG hS => ?_)
    refine lv_iload_n hx hb dX5_sawAt_18 rfl (lv_at hl 2 rfl) ?_
    refine lv_icmp_ne (tgt := 26) hx hb dX5_sawAt_19 (by decide) (fun c19 => ?_) (fun c19 => ?_)
    · have hj7 := gb_f c19 hj7
      refine lv_iconst (v := 0) hx hb dX5_sawAt_26 (by decide) ?_
      have hj7 := Option.some.inj hj7
      subst hj7
      exact (hJ7 H locs ls hG hS (lv_sub hl [] rfl))
    · have hj7 := gb_t c19 hj7
      refine lv_iconst (v := 1) hx hb dX5_sawAt_22 (by decide) ?_
      refine lv_goto (tgt := 27) hx hb dX5_sawAt_23 (by decide) ?_
      have hj7 := Option.some.inj hj7
      subst hj7
      exact (hJ7 H locs ls hG hS (lv_sub hl [] rfl))
-- X5_missed
abbrev rm_X5_missed : Room := { frames := 3, cells := 0, slots := 0, locals := 66 }
set_option maxHeartbeats 4000000 in
set_option maxRecDepth 100000 in
theorem c_X5_missed {v1 : Int32} {v2 : Int32} {R : Int32} (hf : f_X5_missed gv h0 v1 v2 = some R) : Met l yX5_missed wsX5_missed rm_X5_missed (va_Pc [.ref h0, .int v1, .int v2] (gPre D b M (gW cI cL gv) (gTy cI cL))) (gQ D b (some (.int R)) M (gW cI cL gv)) 0 0 (gA b) := by
  refine gp_met (cc := cX5_missed) (maxL := 3) (ret := (some .boolean)) (by decide) rfl (Nat.le_of_ble_eq_true rfl) ?_
  intro p e s m below meth c X ls hG hl
  obtain ⟨H, hH0⟩ : ∃ H : Heap, H = s.heap := ⟨_, rfl⟩
  rw [← hH0] at hG ⊢
  have hS : va_S (gA b) s.heap H [] := by rw [hH0]; exact va_S.rf
  obtain ⟨locs, hlo⟩ : ∃ z : List Loc, z = [] := ⟨_, rfl⟩
  rw [← hlo] at hS ⊢
  unfold f_X5_missed at hf
  obtain ⟨hx, hb, hr, hml, hown, hts, hlocks, hKn, hBs⟩ := id X
  have hK := hKn.1
  have gclL : gcl gLC TX5 5 wsX5_missed := gcl_L (fun _ h => List.mem_cons_of_mem _ (List.mem_append_left _ (List.mem_append_left _ (List.mem_append_left _ (List.mem_append_left _ (List.mem_append_left _ (List.mem_append_left _ (List.mem_append_right _ h)))))))) (fun _ h => List.mem_cons_of_mem _ (List.mem_append_left _ (List.mem_append_left _ (List.mem_append_left _ (List.mem_append_left _ (List.mem_append_left _ (List.mem_append_right _ h))))))) (fun _ h => List.mem_cons_of_mem _ (List.mem_append_left _ (List.mem_append_left _ (List.mem_append_left _ (List.mem_append_left _ (List.mem_append_right _ h)))))) (fun _ h => List.mem_cons_of_mem _ (List.mem_append_left _ (List.mem_append_left _ (List.mem_append_left _ (List.mem_append_right _ h))))) (fun _ h => List.mem_cons_of_mem _ (List.mem_append_left _ (List.mem_append_left _ (List.mem_append_right _ h)))) (fun _ h => List.mem_cons_of_mem _ (List.mem_append_left _ (List.mem_append_right _ h))) (fun _ h => List.mem_cons_of_mem _ (List.mem_append_right _ h))
  have hl : lv_has ls 3 [(0, .ref h0), (1, .int v1), (2, .int v2)] := hl
  refine lv_aload_n hx hb dX5_missed_0 rfl (lv_at hl 0 rfl) ?_
  obtain ⟨o1, hc1, hf⟩ := gb_b hf
  have hrun1 : va_Run p l e rm_X5_missed s m [.ref h0, .int v1, .int v2].toArray below meth c H locs 0 0 0 0 (F0 m 1 ls ([].reverse ++ .ref h0 :: [])) [] (gQ D b (some (.int o1)) M (gW cI cL gv) (Value.ref h0 :: []).toArray) (gA b) := by
    obtain ⟨oc, hcO, hc1⟩ := gb_b hc1
    obtain ⟨hcg, hci⟩ := gfO_s hcO
    obtain ⟨kc, fc⟩ := oc
    dsimp only at hci hcg hc1
    rcases gLC_7 hci with rfl | rfl | rfl | rfl | rfl | rfl | rfl
    · have hc1 : f_X0_kind h0 = some o1 := hc1
      exact va_runU (As := []) (rest := []) ⟨hx, hb, hml, hown, hts⟩ (c_X0_kind (l := l) (D := D) (b := b) (cI := cI) (cL := cL) hc1) (va_cwO 0 hts gX5_missed_X0_kind_u66X0 rfl rfl rfl (List.mem_of_getElem? (i := 10) rfl) (by decide +kernel) ⟨Nat.le_of_ble_eq_true rfl, Nat.le_of_ble_eq_true rfl⟩) (gp_preV hKn hG (cp_obj hcg) rfl) rfl rfl hl.1 rfl (lv_room (Nat.le_of_ble_eq_true rfl)) dX5_missed_1 ⟨Nat.le_of_ble_eq_true rfl, Nat.le_of_ble_eq_true rfl⟩
    · have hc1 : f_X1_kind h0 = some o1 := hc1
      exact va_runU (As := []) (rest := []) ⟨hx, hb, hml, hown, hts⟩ (c_X1_kind (l := l) (D := D) (b := b) (cI := cI) (cL := cL) hc1) (va_cwO 0 hts gX5_missed_X1_kind_u66X1 rfl rfl rfl (List.mem_of_getElem? (i := 10) rfl) (by decide +kernel) ⟨Nat.le_of_ble_eq_true rfl, Nat.le_of_ble_eq_true rfl⟩) (gp_preV hKn hG (cp_obj hcg) rfl) rfl rfl hl.1 rfl (lv_room (Nat.le_of_ble_eq_true rfl)) dX5_missed_1 ⟨Nat.le_of_ble_eq_true rfl, Nat.le_of_ble_eq_true rfl⟩
    · have hc1 : f_X3_kind h0 = some o1 := hc1
      exact va_runU (As := []) (rest := []) ⟨hx, hb, hml, hown, hts⟩ (c_X3_kind (l := l) (D := D) (b := b) (cI := cI) (cL := cL) hc1) (va_cwO 0 hts gX5_missed_X3_kind_u66X3 rfl rfl rfl (List.mem_of_getElem? (i := 10) rfl) (by decide +kernel) ⟨Nat.le_of_ble_eq_true rfl, Nat.le_of_ble_eq_true rfl⟩) (gp_preV hKn hG (cp_obj hcg) rfl) rfl rfl hl.1 rfl (lv_room (Nat.le_of_ble_eq_true rfl)) dX5_missed_1 ⟨Nat.le_of_ble_eq_true rfl, Nat.le_of_ble_eq_true rfl⟩
    · have hc1 : f_X4_kind h0 = some o1 := hc1
      exact va_runU (As := []) (rest := []) ⟨hx, hb, hml, hown, hts⟩ (c_X4_kind (l := l) (D := D) (b := b) (cI := cI) (cL := cL) hc1) (va_cwO 0 hts gX5_missed_X4_kind_u66X4 rfl rfl rfl (List.mem_of_getElem? (i := 10) rfl) (by decide +kernel) ⟨Nat.le_of_ble_eq_true rfl, Nat.le_of_ble_eq_true rfl⟩) (gp_preV hKn hG (cp_obj hcg) rfl) rfl rfl hl.1 rfl (lv_room (Nat.le_of_ble_eq_true rfl)) dX5_missed_1 ⟨Nat.le_of_ble_eq_true rfl, Nat.le_of_ble_eq_true rfl⟩
    · have hc1 : f_X5_kind h0 = some o1 := hc1
      exact va_runV (As := []) (rest := []) ⟨hx, hb, hml, hown, hts⟩ (c_X5_kind (l := l) (D := D) (b := b) (cI := cI) (cL := cL) hc1) (cwV 0 hts gX5_missed_X5_kind rfl rfl rfl (by decide +kernel) ⟨Nat.le_of_ble_eq_true rfl, Nat.le_of_ble_eq_true rfl⟩) (gp_preV hKn hG (cp_obj hcg) rfl) rfl rfl hl.1 rfl (lv_room (Nat.le_of_ble_eq_true rfl)) dX5_missed_1 ⟨Nat.le_of_ble_eq_true rfl, Nat.le_of_ble_eq_true rfl⟩
    · have hc1 : f_X7_kind h0 = some o1 := hc1
      exact va_runU (As := []) (rest := []) ⟨hx, hb, hml, hown, hts⟩ (c_X7_kind (l := l) (D := D) (b := b) (cI := cI) (cL := cL) hc1) (va_cwO 0 hts gX5_missed_X7_kind_u66X7 rfl rfl rfl (List.mem_of_getElem? (i := 10) rfl) (by decide +kernel) ⟨Nat.le_of_ble_eq_true rfl, Nat.le_of_ble_eq_true rfl⟩) (gp_preV hKn hG (cp_obj hcg) rfl) rfl rfl hl.1 rfl (lv_room (Nat.le_of_ble_eq_true rfl)) dX5_missed_1 ⟨Nat.le_of_ble_eq_true rfl, Nat.le_of_ble_eq_true rfl⟩
    · have hc1 : f_X8_kind h0 = some o1 := hc1
      exact va_runU (As := []) (rest := []) ⟨hx, hb, hml, hown, hts⟩ (c_X8_kind (l := l) (D := D) (b := b) (cI := cI) (cL := cL) hc1) (va_cwO 0 hts gX5_missed_X8_kind_u66X8 rfl rfl rfl (List.mem_of_getElem? (i := 10) rfl) (by decide +kernel) ⟨Nat.le_of_ble_eq_true rfl, Nat.le_of_ble_eq_true rfl⟩) (gp_preV hKn hG (cp_obj hcg) rfl) rfl rfl hl.1 rfl (lv_room (Nat.le_of_ble_eq_true rfl)) dX5_missed_1 ⟨Nat.le_of_ble_eq_true rfl, Nat.le_of_ble_eq_true rfl⟩
  refine gp_callI hrun1 hS (fun H locs hG hS => ?_)
  obtain ⟨j4, hj4, hf⟩ := gb_b hf
  have hJ4 : ∀ (H : Heap) (locs : List Loc) (ls : Array Slot), GP D b M (gW cI cL gv) H → va_S (gA b) s.heap H locs → lv_has ls 3 [] → W p l e rm_X5_missed s m [.ref h0, .int v1, .int v2].toArray below meth c H locs 0 0 (MQ below (gQ D b (some (.int R)) M (gW cI cL gv)) [.ref h0, .int v1, .int v2].toArray s 0 0 (gA b)) (F0 m 37 ls [.int j4]) := by
    intro H locs ls hG hS hl
    obtain ⟨z37, hf⟩ := gb_zb hf
    have hf := Option.some.inj hf
    subst hf
    exact gp_retZ hx hb hr z37 hlocks hG hS (Nat.le_of_ble_eq_true rfl) (Nat.le_of_ble_eq_true rfl) dX5_missed_37
  refine lv_if_ne (tgt := 36) hx hb dX5_missed_4 (by decide) (fun c4 => ?_) (fun c4 => ?_)
  · have hj4 := gb_f c4 hj4
    refine lv_iconst (v := 0) hx hb dX5_missed_36 (by decide) ?_
    have hj4 := Option.some.inj hj4
    subst hj4
    exact (hJ4 H locs ls hG hS (lv_sub hl [] rfl))
  · have hj4 := gb_t c4 hj4
    refine lv_aload_n hx hb dX5_missed_7 rfl (lv_at hl 0 rfl) ?_
    obtain ⟨t8, ht8, hj4⟩ := gb_b hj4
    refine cp_get (v := .int t8) hx hb hts gclL hown hK hG 2 (gfI_s ht8) (by decide) (hts _ (List.mem_of_getElem? (i := 1) rfl)) (fun _ h9 => h9) dX5_missed_8 ?_
    refine lv_if_eq (tgt := 36) hx hb dX5_missed_11 (by decide) (fun c11 => ?_) (fun c11 => ?_)
    · have hj4 := gb_t c11 hj4
      refine lv_iconst (v := 0) hx hb dX5_missed_36 (by decide) ?_
      have hj4 := Option.some.inj hj4
      subst hj4
      exact (hJ4 H locs ls hG hS (lv_sub hl [] rfl))
    · have hj4 := gb_f c11 hj4
      refine lv_aload_n hx hb dX5_missed_14 rfl (lv_at hl 0 rfl) ?_
      obtain ⟨t15, ht15, hj4⟩ := gb_b hj4
      refine cp_get (v := .int t15) hx hb hts gclL hown hK hG 3 (gfI_s ht15) (by decide) (hts _ (List.mem_of_getElem? (i := 2) rfl)) (fun _ h9 => h9) dX5_missed_15 ?_
      refine lv_bipush (v := 9) hx hb dX5_missed_18 (by decide) ?_
      refine lv_icmp_ge (tgt := 36) hx hb dX5_missed_20 (by decide) (fun c20 => ?_) (fun c20 => ?_)
      · have hj4 := gb_t c20 hj4
        refine lv_iconst (v := 0) hx hb dX5_missed_36 (by decide) ?_
        have hj4 := Option.some.inj hj4
        subst hj4
        exact (hJ4 H locs ls hG hS (lv_sub hl [] rfl))
      · have hj4 := gb_f c20 hj4
        refine lv_aload_n hx hb dX5_missed_23 rfl (lv_at hl 0 rfl) ?_
        refine lv_iload_n hx hb dX5_missed_24 rfl (lv_at hl 1 rfl) ?_
        refine lv_iload_n hx hb dX5_missed_25 rfl (lv_at hl 2 rfl) ?_
        obtain ⟨o26, hc26, hj4⟩ := gb_b hj4
        have hrun26 : va_Run p l e rm_X5_missed s m [.ref h0, .int v1, .int v2].toArray below meth c H locs 0 0 0 0 (F0 m 26 ls ([.int v1, .int v2].reverse ++ .ref h0 :: [])) [] (gQ D b (some (.int o26)) M (gW cI cL gv) (Value.ref h0 :: [.int v1, .int v2]).toArray) (gA b) := by
          obtain ⟨oc, hcO, hc26⟩ := gb_b hc26
          obtain ⟨hcg, hci⟩ := gfO_s hcO
          obtain ⟨kc, fc⟩ := oc
          dsimp only at hci hcg hc26
          rcases gLC_7 hci with rfl | rfl | rfl | rfl | rfl | rfl | rfl
          · exact va_runU (As := [.int v1, .int v2]) (rest := []) ⟨hx, hb, hml, hown, hts⟩ (c_X5_sawAt (l := l) (D := D) (b := b) (cI := cI) (cL := cL) hc26) (va_cwU 2 hts gX5_missed_X5_sawAt_u116X0 rfl rfl rfl rfl (by decide +kernel) ⟨Nat.le_of_ble_eq_true rfl, Nat.le_of_ble_eq_true rfl⟩) (gp_preV hKn hG (cp_obj hcg) rfl) rfl rfl hl.1 rfl (lv_room (Nat.le_of_ble_eq_true rfl)) dX5_missed_26 ⟨Nat.le_of_ble_eq_true rfl, Nat.le_of_ble_eq_true rfl⟩
          · exact va_runU (As := [.int v1, .int v2]) (rest := []) ⟨hx, hb, hml, hown, hts⟩ (c_X5_sawAt (l := l) (D := D) (b := b) (cI := cI) (cL := cL) hc26) (va_cwU 2 hts gX5_missed_X5_sawAt_u116X1 rfl rfl rfl rfl (by decide +kernel) ⟨Nat.le_of_ble_eq_true rfl, Nat.le_of_ble_eq_true rfl⟩) (gp_preV hKn hG (cp_obj hcg) rfl) rfl rfl hl.1 rfl (lv_room (Nat.le_of_ble_eq_true rfl)) dX5_missed_26 ⟨Nat.le_of_ble_eq_true rfl, Nat.le_of_ble_eq_true rfl⟩
          · exact va_runU (As := [.int v1, .int v2]) (rest := []) ⟨hx, hb, hml, hown, hts⟩ (c_X5_sawAt (l := l) (D := D) (b := b) (cI := cI) (cL := cL) hc26) (va_cwU 2 hts gX5_missed_X5_sawAt_u116X3 rfl rfl rfl rfl (by decide +kernel) ⟨Nat.le_of_ble_eq_true rfl, Nat.le_of_ble_eq_true rfl⟩) (gp_preV hKn hG (cp_obj hcg) rfl) rfl rfl hl.1 rfl (lv_room (Nat.le_of_ble_eq_true rfl)) dX5_missed_26 ⟨Nat.le_of_ble_eq_true rfl, Nat.le_of_ble_eq_true rfl⟩
          · exact va_runU (As := [.int v1, .int v2]) (rest := []) ⟨hx, hb, hml, hown, hts⟩ (c_X5_sawAt (l := l) (D := D) (b := b) (cI := cI) (cL := cL) hc26) (va_cwU 2 hts gX5_missed_X5_sawAt_u116X4 rfl rfl rfl rfl (by decide +kernel) ⟨Nat.le_of_ble_eq_true rfl, Nat.le_of_ble_eq_true rfl⟩) (gp_preV hKn hG (cp_obj hcg) rfl) rfl rfl hl.1 rfl (lv_room (Nat.le_of_ble_eq_true rfl)) dX5_missed_26 ⟨Nat.le_of_ble_eq_true rfl, Nat.le_of_ble_eq_true rfl⟩
          · exact va_runV (As := [.int v1, .int v2]) (rest := []) ⟨hx, hb, hml, hown, hts⟩ (c_X5_sawAt (l := l) (D := D) (b := b) (cI := cI) (cL := cL) hc26) (cwV 2 hts gX5_missed_X5_sawAt rfl rfl rfl (by decide +kernel) ⟨Nat.le_of_ble_eq_true rfl, Nat.le_of_ble_eq_true rfl⟩) (gp_preV hKn hG (cp_obj hcg) rfl) rfl rfl hl.1 rfl (lv_room (Nat.le_of_ble_eq_true rfl)) dX5_missed_26 ⟨Nat.le_of_ble_eq_true rfl, Nat.le_of_ble_eq_true rfl⟩
          · exact va_runU (As := [.int v1, .int v2]) (rest := []) ⟨hx, hb, hml, hown, hts⟩ (c_X5_sawAt (l := l) (D := D) (b := b) (cI := cI) (cL := cL) hc26) (va_cwU 2 hts gX5_missed_X5_sawAt_u116X7 rfl rfl rfl rfl (by decide +kernel) ⟨Nat.le_of_ble_eq_true rfl, Nat.le_of_ble_eq_true rfl⟩) (gp_preV hKn hG (cp_obj hcg) rfl) rfl rfl hl.1 rfl (lv_room (Nat.le_of_ble_eq_true rfl)) dX5_missed_26 ⟨Nat.le_of_ble_eq_true rfl, Nat.le_of_ble_eq_true rfl⟩
          · exact va_runU (As := [.int v1, .int v2]) (rest := []) ⟨hx, hb, hml, hown, hts⟩ (c_X5_sawAt (l := l) (D := D) (b := b) (cI := cI) (cL := cL) hc26) (va_cwU 2 hts gX5_missed_X5_sawAt_u116X8 rfl rfl rfl rfl (by decide +kernel) ⟨Nat.le_of_ble_eq_true rfl, Nat.le_of_ble_eq_true rfl⟩) (gp_preV hKn hG (cp_obj hcg) rfl) rfl rfl hl.1 rfl (lv_room (Nat.le_of_ble_eq_true rfl)) dX5_missed_26 ⟨Nat.le_of_ble_eq_true rfl, Nat.le_of_ble_eq_true rfl⟩
        refine gp_callI hrun26 hS (fun H locs hG hS => ?_)
        refine lv_if_ne (tgt := 36) hx hb dX5_missed_29 (by decide) (fun c29 => ?_) (fun c29 => ?_)
        · have hj4 := gb_f c29 hj4
          refine lv_iconst (v := 0) hx hb dX5_missed_36 (by decide) ?_
          have hj4 := Option.some.inj hj4
          subst hj4
          exact (hJ4 H locs ls hG hS (lv_sub hl [] rfl))
        · have hj4 := gb_t c29 hj4
          refine lv_iconst (v := 1) hx hb dX5_missed_32 (by decide) ?_
          refine lv_goto (tgt := 37) hx hb dX5_missed_33 (by decide) ?_
          have hj4 := Option.some.inj hj4
          subst hj4
          exact (hJ4 H locs ls hG hS (lv_sub hl [] rfl))
-- X7_init
abbrev rm_X7_init : Room := { frames := 2, cells := 1, slots := 9, locals := 48 }
set_option maxHeartbeats 4000000 in
set_option maxRecDepth 100000 in
theorem c_X7_init {R : (Nat → GV) × Nat} (hf : f_X7_init gv M h0 = some R) : Met l yX7_init wsX7_init rm_X7_init (va_Pc [.ref h0] (gPre D b M (gW cI cL gv) (gTy cI cL))) (gQ D b none R.2 (gW cI cL R.1)) 1 9 (gA b) := by
  refine gp_metI (cc := cX7_init) (maxL := 1) (ret := none) (by decide) rfl (Nat.le_of_ble_eq_true rfl) ?_
  intro p e s m below meth c X hin0 ls hG hl
  obtain ⟨H, hH0⟩ : ∃ H : Heap, H = s.heap := ⟨_, rfl⟩
  rw [← hH0] at hG ⊢
  have hS : va_S (gA b) s.heap H [] := by rw [hH0]; exact va_S.rf
  obtain ⟨locs, hlo⟩ : ∃ z : List Loc, z = [] := ⟨_, rfl⟩
  rw [← hlo] at hS ⊢
  unfold f_X7_init at hf
  obtain ⟨hx, hb, hr, hml, hown, hts, hlocks, hKn, hBs⟩ := id X
  have hK := hKn.1
  have hl : lv_has ls 1 [(0, .ref h0)] := hl
  refine lv_aload_n hx hb dX7_init_0 rfl (lv_at hl 0 rfl) ?_
  obtain ⟨o1, hc1, hf⟩ := gb_b hf
  refine gp_callV (va_runIN (As := []) (rest := []) ⟨hx, hb, hml, hown, hts⟩ (c_X5_init (l := l) (D := D) (b := b) (cI := cI) (cL := cL) hc1) ⟨va_cnB 0 hts gX7_init_X5_init_n1 rfl rfl rfl (hKn.2.1 _ (List.mem_of_getElem? (i := 5) rfl)) (hts _ (List.mem_of_getElem? (i := 2) rfl)) (by decide +kernel) ⟨Nat.le_of_ble_eq_true rfl, Nat.le_of_ble_eq_true rfl⟩, rfl, (hts _ (List.mem_of_getElem? (i := 1) rfl))⟩ (gp_preS hKn hG) rfl rfl hl.1 rfl (lv_room (Nat.le_of_ble_eq_true rfl)) dX7_init_1 ⟨Nat.le_of_ble_eq_true rfl, Nat.le_of_ble_eq_true rfl⟩) hS (fun H locs hG hS => ?_)
  have hf := Option.some.inj hf
  subst hf
  exact gp_retV hx hb hr hlocks hG hS (Nat.le_of_ble_eq_true rfl) (Nat.le_of_ble_eq_true rfl) dX7_init_4
-- X5_ofKind
abbrev rm_X5_ofKind : Room := { frames := 4, cells := 2, slots := 14, locals := 88 }
set_option maxHeartbeats 4000000 in
set_option maxRecDepth 100000 in
theorem c_X5_ofKind {v0 : Int32} {R : Option Nat × (Nat → GV) × Nat} (hf : f_X5_ofKind gv M v0 = some R) : Met l yX5_ofKind wsX5_ofKind rm_X5_ofKind (va_Pc [.int v0] (gPre D b M (gW cI cL gv) (gTy cI cL))) (gQ D b (some (va_rf R.1)) R.2.2 (gW cI cL R.2.1)) 2 14 (gA b) := by
  refine gp_met (cc := cX5_ofKind) (maxL := 1) (ret := (some (.object "LampsThatRemember$Lamp"))) (by decide) rfl (Nat.le_of_ble_eq_true rfl) ?_
  intro p e s m below meth c X ls hG hl
  obtain ⟨H, hH0⟩ : ∃ H : Heap, H = s.heap := ⟨_, rfl⟩
  rw [← hH0] at hG ⊢
  have hS : va_S (gA b) s.heap H [] := by rw [hH0]; exact va_S.rf
  obtain ⟨locs, hlo⟩ : ∃ z : List Loc, z = [] := ⟨_, rfl⟩
  rw [← hlo] at hS ⊢
  unfold f_X5_ofKind at hf
  obtain ⟨hx, hb, hr, hml, hown, hts, hlocks, hKn, hBs⟩ := id X
  have hK := hKn.1
  have hl : lv_has ls 1 [(0, .int v0)] := hl
  refine lv_iload_n hx hb dX5_ofKind_0 rfl (lv_at hl 0 rfl) ?_
  by_cases c1_1 : v0 = 1
  · have hf := gb_t c1_1 hf
    refine lv_tableIn (tgt := 40) (off := 39) hx hb dX5_ofKind_1 (by rw [c1_1]; decide) (by rw [c1_1]; decide) (by rw [c1_1]; rfl) (by decide) ?_
    refine gp_new (ci := 2) (fs := [.int 0, .int 0, .int 0, .int 0, .null]) (C := RX3) (T := TX3) (N := 5) (g1 := gW cI cL (va_up gv M (.inl (2, [.int 0, .int 0, .int 0, .int 0, .null])))) hx hb hts (fun _ h => List.mem_cons_of_mem _ (List.mem_append_left _ (List.mem_append_left _ (List.mem_append_left _ (List.mem_append_left _ (List.mem_append_left _ (List.mem_append_left _ (List.mem_append_right _ h)))))))) tyX3 tyX3_ok hown (hts _ (List.mem_of_getElem? (i := 1) rfl)) (hts _ (List.mem_of_getElem? (i := 2) rfl)) (hts _ (List.mem_of_getElem? (i := 3) rfl)) hK hG hS rfl (by intro j hj; rcases (show j = 0 ∨ j = 1 ∨ j = 2 ∨ j = 3 ∨ j = 4 by omega) with rfl | rfl | rfl | rfl | rfl <;> rfl) (Nat.le_of_ble_eq_true rfl) (Nat.le_of_ble_eq_true rfl) (gW_up (e := .inl (2, [.int 0, .int 0, .int 0, .int 0, .null]))) dX5_ofKind_40 (fun H hG hS => ?_)
    refine lv_dup hx hb dX5_ofKind_43 rfl ?_
    obtain ⟨o44, hc44, hf⟩ := gb_b hf
    refine gp_callV (va_runIN (As := []) (rest := [.ref M]) ⟨hx, hb, hml, hown, hts⟩ (c_X3_init (l := l) (D := D) (b := b) (cI := cI) (cL := cL) hc44) ⟨va_cnB 0 hts gX5_ofKind_X3_init_n21 rfl rfl rfl (hKn.2.1 _ (List.mem_of_getElem? (i := 2) rfl)) (hts _ (List.mem_of_getElem? (i := 3) rfl)) (by decide +kernel) ⟨Nat.le_of_ble_eq_true rfl, Nat.le_of_ble_eq_true rfl⟩, rfl, (hts _ (List.mem_of_getElem? (i := 22) rfl))⟩ (gp_preS hKn hG) rfl rfl hl.1 rfl (lv_room (Nat.le_of_ble_eq_true rfl)) dX5_ofKind_44 ⟨Nat.le_of_ble_eq_true rfl, Nat.le_of_ble_eq_true rfl⟩) hS (fun H locs hG hS => ?_)
    have hf := Option.some.inj hf
    subst hf
    exact gp_retR (v := some M) hx hb hr hlocks hG hS (Nat.le_of_ble_eq_true rfl) (Nat.le_of_ble_eq_true rfl) dX5_ofKind_47
  · have hf := gb_f c1_1 hf
    by_cases c1_2 : v0 = 2
    · have hf := gb_t c1_2 hf
      refine lv_tableIn (tgt := 48) (off := 47) hx hb dX5_ofKind_1 (by rw [c1_2]; decide) (by rw [c1_2]; decide) (by rw [c1_2]; rfl) (by decide) ?_
      refine gp_new (ci := 6) (fs := [.int 0, .int 0, .int 0, .int 0, .null]) (C := RX7) (T := TX7) (N := 5) (g1 := gW cI cL (va_up gv M (.inl (6, [.int 0, .int 0, .int 0, .int 0, .null])))) hx hb hts (fun _ h => List.mem_cons_of_mem _ (List.mem_append_left _ (List.mem_append_left _ (List.mem_append_left _ (List.mem_append_left _ (List.mem_append_left _ (List.mem_append_right _ h))))))) tyX7 tyX7_ok hown (hts _ (List.mem_of_getElem? (i := 4) rfl)) (hts _ (List.mem_of_getElem? (i := 5) rfl)) (hts _ (List.mem_of_getElem? (i := 6) rfl)) hK hG hS rfl (by intro j hj; rcases (show j = 0 ∨ j = 1 ∨ j = 2 ∨ j = 3 ∨ j = 4 by omega) with rfl | rfl | rfl | rfl | rfl <;> rfl) (Nat.le_of_ble_eq_true rfl) (Nat.le_of_ble_eq_true rfl) (gW_up (e := .inl (6, [.int 0, .int 0, .int 0, .int 0, .null]))) dX5_ofKind_48 (fun H hG hS => ?_)
      refine lv_dup hx hb dX5_ofKind_51 rfl ?_
      obtain ⟨o52, hc52, hf⟩ := gb_b hf
      refine gp_callV (va_runIN (As := []) (rest := [.ref M]) ⟨hx, hb, hml, hown, hts⟩ (c_X7_init (l := l) (D := D) (b := b) (cI := cI) (cL := cL) hc52) ⟨va_cnB 0 hts gX5_ofKind_X7_init_n24 rfl rfl rfl (hKn.2.1 _ (List.mem_of_getElem? (i := 4) rfl)) (hts _ (List.mem_of_getElem? (i := 6) rfl)) (by decide +kernel) ⟨Nat.le_of_ble_eq_true rfl, Nat.le_of_ble_eq_true rfl⟩, rfl, (hts _ (List.mem_of_getElem? (i := 32) rfl))⟩ (gp_preS hKn hG) rfl rfl hl.1 rfl (lv_room (Nat.le_of_ble_eq_true rfl)) dX5_ofKind_52 ⟨Nat.le_of_ble_eq_true rfl, Nat.le_of_ble_eq_true rfl⟩) hS (fun H locs hG hS => ?_)
      have hf := Option.some.inj hf
      subst hf
      exact gp_retR (v := some M) hx hb hr hlocks hG hS (Nat.le_of_ble_eq_true rfl) (Nat.le_of_ble_eq_true rfl) dX5_ofKind_55
    · have hf := gb_f c1_2 hf
      by_cases c1_3 : v0 = 3
      · have hf := gb_t c1_3 hf
        refine lv_tableIn (tgt := 56) (off := 55) hx hb dX5_ofKind_1 (by rw [c1_3]; decide) (by rw [c1_3]; decide) (by rw [c1_3]; rfl) (by decide) ?_
        refine gp_new (ci := 1) (fs := [.int 0, .int 0, .int 0, .int 0, .null]) (C := RX1) (T := TX1) (N := 5) (g1 := gW cI cL (va_up gv M (.inl (1, [.int 0, .int 0, .int 0, .int 0, .null])))) hx hb hts (fun _ h => List.mem_cons_of_mem _ (List.mem_append_left _ (List.mem_append_left _ (List.mem_append_left _ (List.mem_append_left _ (List.mem_append_right _ h)))))) tyX1 tyX1_ok hown (hts _ (List.mem_of_getElem? (i := 7) rfl)) (hts _ (List.mem_of_getElem? (i := 8) rfl)) (hts _ (List.mem_of_getElem? (i := 9) rfl)) hK hG hS rfl (by intro j hj; rcases (show j = 0 ∨ j = 1 ∨ j = 2 ∨ j = 3 ∨ j = 4 by omega) with rfl | rfl | rfl | rfl | rfl <;> rfl) (Nat.le_of_ble_eq_true rfl) (Nat.le_of_ble_eq_true rfl) (gW_up (e := .inl (1, [.int 0, .int 0, .int 0, .int 0, .null]))) dX5_ofKind_56 (fun H hG hS => ?_)
        refine lv_dup hx hb dX5_ofKind_59 rfl ?_
        obtain ⟨o60, hc60, hf⟩ := gb_b hf
        refine gp_callV (va_runIN (As := []) (rest := [.ref M]) ⟨hx, hb, hml, hown, hts⟩ (c_X1_init (l := l) (D := D) (b := b) (cI := cI) (cL := cL) hc60) ⟨va_cnB 0 hts gX5_ofKind_X1_init_n27 rfl rfl rfl (hKn.2.1 _ (List.mem_of_getElem? (i := 6) rfl)) (hts _ (List.mem_of_getElem? (i := 9) rfl)) (by decide +kernel) ⟨Nat.le_of_ble_eq_true rfl, Nat.le_of_ble_eq_true rfl⟩, rfl, (hts _ (List.mem_of_getElem? (i := 34) rfl))⟩ (gp_preS hKn hG) rfl rfl hl.1 rfl (lv_room (Nat.le_of_ble_eq_true rfl)) dX5_ofKind_60 ⟨Nat.le_of_ble_eq_true rfl, Nat.le_of_ble_eq_true rfl⟩) hS (fun H locs hG hS => ?_)
        have hf := Option.some.inj hf
        subst hf
        exact gp_retR (v := some M) hx hb hr hlocks hG hS (Nat.le_of_ble_eq_true rfl) (Nat.le_of_ble_eq_true rfl) dX5_ofKind_63
      · have hf := gb_f c1_3 hf
        by_cases c1_4 : v0 = 4
        · have hf := gb_t c1_4 hf
          refine lv_tableIn (tgt := 64) (off := 63) hx hb dX5_ofKind_1 (by rw [c1_4]; decide) (by rw [c1_4]; decide) (by rw [c1_4]; rfl) (by decide) ?_
          refine gp_new (ci := 0) (fs := [.int 0, .int 0, .int 0, .int 0, .null]) (C := RX0) (T := TX0) (N := 5) (g1 := gW cI cL (va_up gv M (.inl (0, [.int 0, .int 0, .int 0, .int 0, .null])))) hx hb hts (fun _ h => List.mem_cons_of_mem _ (List.mem_append_left _ (List.mem_append_left _ (List.mem_append_left _ (List.mem_append_right _ h))))) tyX0 tyX0_ok hown (hts _ (List.mem_of_getElem? (i := 10) rfl)) (hts _ (List.mem_of_getElem? (i := 11) rfl)) (hts _ (List.mem_of_getElem? (i := 12) rfl)) hK hG hS rfl (by intro j hj; rcases (show j = 0 ∨ j = 1 ∨ j = 2 ∨ j = 3 ∨ j = 4 by omega) with rfl | rfl | rfl | rfl | rfl <;> rfl) (Nat.le_of_ble_eq_true rfl) (Nat.le_of_ble_eq_true rfl) (gW_up (e := .inl (0, [.int 0, .int 0, .int 0, .int 0, .null]))) dX5_ofKind_64 (fun H hG hS => ?_)
          refine lv_dup hx hb dX5_ofKind_67 rfl ?_
          obtain ⟨o68, hc68, hf⟩ := gb_b hf
          refine gp_callV (va_runIN (As := []) (rest := [.ref M]) ⟨hx, hb, hml, hown, hts⟩ (c_X0_init (l := l) (D := D) (b := b) (cI := cI) (cL := cL) hc68) ⟨va_cnB 0 hts gX5_ofKind_X0_init_n30 rfl rfl rfl (hKn.2.1 _ (List.mem_of_getElem? (i := 8) rfl)) (hts _ (List.mem_of_getElem? (i := 12) rfl)) (by decide +kernel) ⟨Nat.le_of_ble_eq_true rfl, Nat.le_of_ble_eq_true rfl⟩, rfl, (hts _ (List.mem_of_getElem? (i := 36) rfl))⟩ (gp_preS hKn hG) rfl rfl hl.1 rfl (lv_room (Nat.le_of_ble_eq_true rfl)) dX5_ofKind_68 ⟨Nat.le_of_ble_eq_true rfl, Nat.le_of_ble_eq_true rfl⟩) hS (fun H locs hG hS => ?_)
          have hf := Option.some.inj hf
          subst hf
          exact gp_retR (v := some M) hx hb hr hlocks hG hS (Nat.le_of_ble_eq_true rfl) (Nat.le_of_ble_eq_true rfl) dX5_ofKind_71
        · have hf := gb_f c1_4 hf
          by_cases c1_5 : v0 = 5
          · have hf := gb_t c1_5 hf
            refine lv_tableIn (tgt := 72) (off := 71) hx hb dX5_ofKind_1 (by rw [c1_5]; decide) (by rw [c1_5]; decide) (by rw [c1_5]; rfl) (by decide) ?_
            refine gp_new (ci := 7) (fs := [.int 0, .int 0, .int 0, .int 0, .null]) (C := RX8) (T := TX8) (N := 5) (g1 := gW cI cL (va_up gv M (.inl (7, [.int 0, .int 0, .int 0, .int 0, .null])))) hx hb hts (fun _ h => List.mem_cons_of_mem _ (List.mem_append_left _ (List.mem_append_left _ (List.mem_append_right _ h)))) tyX8 tyX8_ok hown (hts _ (List.mem_of_getElem? (i := 13) rfl)) (hts _ (List.mem_of_getElem? (i := 14) rfl)) (hts _ (List.mem_of_getElem? (i := 15) rfl)) hK hG hS rfl (by intro j hj; rcases (show j = 0 ∨ j = 1 ∨ j = 2 ∨ j = 3 ∨ j = 4 by omega) with rfl | rfl | rfl | rfl | rfl <;> rfl) (Nat.le_of_ble_eq_true rfl) (Nat.le_of_ble_eq_true rfl) (gW_up (e := .inl (7, [.int 0, .int 0, .int 0, .int 0, .null]))) dX5_ofKind_72 (fun H hG hS => ?_)
            refine lv_dup hx hb dX5_ofKind_75 rfl ?_
            obtain ⟨o76, hc76, hf⟩ := gb_b hf
            refine gp_callV (va_runIN (As := []) (rest := [.ref M]) ⟨hx, hb, hml, hown, hts⟩ (c_X8_init (l := l) (D := D) (b := b) (cI := cI) (cL := cL) hc76) ⟨va_cnB 0 hts gX5_ofKind_X8_init_n33 rfl rfl rfl (hKn.2.1 _ (List.mem_of_getElem? (i := 10) rfl)) (hts _ (List.mem_of_getElem? (i := 15) rfl)) (by decide +kernel) ⟨Nat.le_of_ble_eq_true rfl, Nat.le_of_ble_eq_true rfl⟩, rfl, (hts _ (List.mem_of_getElem? (i := 38) rfl))⟩ (gp_preS hKn hG) rfl rfl hl.1 rfl (lv_room (Nat.le_of_ble_eq_true rfl)) dX5_ofKind_76 ⟨Nat.le_of_ble_eq_true rfl, Nat.le_of_ble_eq_true rfl⟩) hS (fun H locs hG hS => ?_)
            have hf := Option.some.inj hf
            subst hf
            exact gp_retR (v := some M) hx hb hr hlocks hG hS (Nat.le_of_ble_eq_true rfl) (Nat.le_of_ble_eq_true rfl) dX5_ofKind_79
          · have hf := gb_f c1_5 hf
            by_cases c1_6 : v0 = 6
            · have hf := gb_t c1_6 hf
              refine lv_tableIn (tgt := 80) (off := 79) hx hb dX5_ofKind_1 (by rw [c1_6]; decide) (by rw [c1_6]; decide) (by rw [c1_6]; rfl) (by decide) ?_
              refine gp_new (ci := 3) (fs := [.int 0, .int 0, .int 0, .int 0, .null]) (C := RX4) (T := TX4) (N := 5) (g1 := gW cI cL (va_up gv M (.inl (3, [.int 0, .int 0, .int 0, .int 0, .null])))) hx hb hts (fun _ h => List.mem_cons_of_mem _ (List.mem_append_left _ (List.mem_append_right _ h))) tyX4 tyX4_ok hown (hts _ (List.mem_of_getElem? (i := 16) rfl)) (hts _ (List.mem_of_getElem? (i := 17) rfl)) (hts _ (List.mem_of_getElem? (i := 18) rfl)) hK hG hS rfl (by intro j hj; rcases (show j = 0 ∨ j = 1 ∨ j = 2 ∨ j = 3 ∨ j = 4 by omega) with rfl | rfl | rfl | rfl | rfl <;> rfl) (Nat.le_of_ble_eq_true rfl) (Nat.le_of_ble_eq_true rfl) (gW_up (e := .inl (3, [.int 0, .int 0, .int 0, .int 0, .null]))) dX5_ofKind_80 (fun H hG hS => ?_)
              refine lv_dup hx hb dX5_ofKind_83 rfl ?_
              obtain ⟨o84, hc84, hf⟩ := gb_b hf
              refine gp_callV (va_runIN (As := []) (rest := [.ref M]) ⟨hx, hb, hml, hown, hts⟩ (c_X4_init (l := l) (D := D) (b := b) (cI := cI) (cL := cL) hc84) ⟨va_cnB 0 hts gX5_ofKind_X4_init_n36 rfl rfl rfl (hKn.2.1 _ (List.mem_of_getElem? (i := 12) rfl)) (hts _ (List.mem_of_getElem? (i := 18) rfl)) (by decide +kernel) ⟨Nat.le_of_ble_eq_true rfl, Nat.le_of_ble_eq_true rfl⟩, rfl, (hts _ (List.mem_of_getElem? (i := 40) rfl))⟩ (gp_preS hKn hG) rfl rfl hl.1 rfl (lv_room (Nat.le_of_ble_eq_true rfl)) dX5_ofKind_84 ⟨Nat.le_of_ble_eq_true rfl, Nat.le_of_ble_eq_true rfl⟩) hS (fun H locs hG hS => ?_)
              have hf := Option.some.inj hf
              subst hf
              exact gp_retR (v := some M) hx hb hr hlocks hG hS (Nat.le_of_ble_eq_true rfl) (Nat.le_of_ble_eq_true rfl) dX5_ofKind_87
            · have hf := gb_f c1_6 hf
              have ho1 : (v0).toInt < 1 ∨ 6 < (v0).toInt := by
                have q : ∀ k : Int32, ¬ v0 = k → ¬ (v0).toInt = k.toInt := fun k hk h => hk (Int32.toInt_inj.mp h)
                have q0 := q 1 c1_1; rw [show (1 : Int32).toInt = 1 from rfl] at q0
                have q1 := q 2 c1_2; rw [show (2 : Int32).toInt = 2 from rfl] at q1
                have q2 := q 3 c1_3; rw [show (3 : Int32).toInt = 3 from rfl] at q2
                have q3 := q 4 c1_4; rw [show (4 : Int32).toInt = 4 from rfl] at q3
                have q4 := q 5 c1_5; rw [show (5 : Int32).toInt = 5 from rfl] at q4
                have q5 := q 6 c1_6; rw [show (6 : Int32).toInt = 6 from rfl] at q5
                omega
              refine lv_tableOut (tgt := 88) hx hb dX5_ofKind_1 ho1 (by decide) ?_
              refine gp_new (ci := 4) (fs := [.int 0, .int 0, .int 0, .int 0, .null]) (C := RX5) (T := TX5) (N := 5) (g1 := gW cI cL (va_up gv M (.inl (4, [.int 0, .int 0, .int 0, .int 0, .null])))) hx hb hts (fun _ h => List.mem_cons_of_mem _ (List.mem_append_right _ h)) tyX5 tyX5_ok hown (hts _ (List.mem_of_getElem? (i := 19) rfl)) (hts _ (List.mem_of_getElem? (i := 20) rfl)) (hts _ (List.mem_of_getElem? (i := 21) rfl)) hK hG hS rfl (by intro j hj; rcases (show j = 0 ∨ j = 1 ∨ j = 2 ∨ j = 3 ∨ j = 4 by omega) with rfl | rfl | rfl | rfl | rfl <;> rfl) (Nat.le_of_ble_eq_true rfl) (Nat.le_of_ble_eq_true rfl) (gW_up (e := .inl (4, [.int 0, .int 0, .int 0, .int 0, .null]))) dX5_ofKind_88 (fun H hG hS => ?_)
              refine lv_dup hx hb dX5_ofKind_91 rfl ?_
              obtain ⟨o92, hc92, hf⟩ := gb_b hf
              refine gp_callV (va_runI (As := []) (rest := [.ref M]) ⟨hx, hb, hml, hown, hts⟩ (c_X5_init (l := l) (D := D) (b := b) (cI := cI) (cL := cL) hc92) (cwI 0 hts gX5_ofKind_X5_init rfl rfl rfl (hts _ (List.mem_of_getElem? (i := 21) rfl)) (hts _ (List.mem_of_getElem? (i := 42) rfl)) (hts _ (List.mem_of_getElem? (i := 24) rfl)) rfl (by decide +kernel) ⟨Nat.le_of_ble_eq_true rfl, Nat.le_of_ble_eq_true rfl⟩) (gp_preS hKn hG) rfl rfl hl.1 rfl (lv_room (Nat.le_of_ble_eq_true rfl)) dX5_ofKind_92 ⟨Nat.le_of_ble_eq_true rfl, Nat.le_of_ble_eq_true rfl⟩) hS (fun H locs hG hS => ?_)
              have hf := Option.some.inj hf
              subst hf
              exact gp_retR (v := some M) hx hb hr hlocks hG hS (Nat.le_of_ble_eq_true rfl) (Nat.le_of_ble_eq_true rfl) dX5_ofKind_95
-- X5_showsOldestFirst
abbrev rm_X5_showsOldestFirst : Room := { frames := 0, cells := 0, slots := 0, locals := 0 }
set_option maxHeartbeats 4000000 in
set_option maxRecDepth 100000 in
theorem c_X5_showsOldestFirst {R : Int32} (hf : f_X5_showsOldestFirst h0 = some R) : Met l yX5_showsOldestFirst wsX5_showsOldestFirst rm_X5_showsOldestFirst (va_Pc [.ref h0] (gPre D b M (gh) (gTy cI cL))) (gQ D b (some (.int R)) M (gh)) 0 0 (gA b) := by
  refine gp_met (cc := cX5_showsOldestFirst) (maxL := 1) (ret := (some .boolean)) (by decide) rfl (Nat.le_of_ble_eq_true rfl) ?_
  intro p e s m below meth c X ls hG hl
  obtain ⟨H, hH0⟩ : ∃ H : Heap, H = s.heap := ⟨_, rfl⟩
  rw [← hH0] at hG ⊢
  have hS : va_S (gA b) s.heap H [] := by rw [hH0]; exact va_S.rf
  obtain ⟨locs, hlo⟩ : ∃ z : List Loc, z = [] := ⟨_, rfl⟩
  rw [← hlo] at hS ⊢
  unfold f_X5_showsOldestFirst at hf
  obtain ⟨hx, hb, hr, hml, hown, hts, hlocks, hKn, hBs⟩ := id X
  have hK := hKn.1
  have hl : lv_has ls 1 [(0, .ref h0)] := hl
  refine lv_iconst (v := 0) hx hb dX5_showsOldestFirst_0 (by decide) ?_
  have hf := Option.some.inj hf
  subst hf
  exact gp_retZ hx hb hr (Or.inl rfl) hlocks hG hS (Nat.le_of_ble_eq_true rfl) (Nat.le_of_ble_eq_true rfl) dX5_showsOldestFirst_1
-- X5_sceneShown
abbrev rm_X5_sceneShown : Room := { frames := 1, cells := 0, slots := 0, locals := 21 }
set_option maxHeartbeats 4000000 in
set_option maxRecDepth 100000 in
theorem c_X5_sceneShown {v1 : Int32} {R : Int32} (hf : f_X5_sceneShown gv h0 v1 = some R) : Met l yX5_sceneShown wsX5_sceneShown rm_X5_sceneShown (va_Pc [.ref h0, .int v1] (gPre D b M (gW cI cL gv) (gTy cI cL))) (gQ D b (some (.int R)) M (gW cI cL gv)) 0 0 (gA b) := by
  refine gp_met (cc := cX5_sceneShown) (maxL := 2) (ret := (some .int)) (by decide) rfl (Nat.le_of_ble_eq_true rfl) ?_
  intro p e s m below meth c X ls hG hl
  obtain ⟨H, hH0⟩ : ∃ H : Heap, H = s.heap := ⟨_, rfl⟩
  rw [← hH0] at hG ⊢
  have hS : va_S (gA b) s.heap H [] := by rw [hH0]; exact va_S.rf
  obtain ⟨locs, hlo⟩ : ∃ z : List Loc, z = [] := ⟨_, rfl⟩
  rw [← hlo] at hS ⊢
  unfold f_X5_sceneShown at hf
  obtain ⟨hx, hb, hr, hml, hown, hts, hlocks, hKn, hBs⟩ := id X
  have hK := hKn.1
  have gclL : gcl gLC TX5 5 wsX5_sceneShown := gcl_L (fun _ h => List.mem_cons_of_mem _ (List.mem_append_left _ (List.mem_append_left _ (List.mem_append_left _ (List.mem_append_left _ (List.mem_append_left _ (List.mem_append_left _ (List.mem_append_right _ h)))))))) (fun _ h => List.mem_cons_of_mem _ (List.mem_append_left _ (List.mem_append_left _ (List.mem_append_left _ (List.mem_append_left _ (List.mem_append_left _ (List.mem_append_right _ h))))))) (fun _ h => List.mem_cons_of_mem _ (List.mem_append_left _ (List.mem_append_left _ (List.mem_append_left _ (List.mem_append_left _ (List.mem_append_right _ h)))))) (fun _ h => List.mem_cons_of_mem _ (List.mem_append_left _ (List.mem_append_left _ (List.mem_append_left _ (List.mem_append_right _ h))))) (fun _ h => List.mem_cons_of_mem _ (List.mem_append_left _ (List.mem_append_left _ (List.mem_append_right _ h)))) (fun _ h => List.mem_cons_of_mem _ (List.mem_append_left _ (List.mem_append_right _ h))) (fun _ h => List.mem_cons_of_mem _ (List.mem_append_right _ h))
  have hl : lv_has ls 2 [(0, .ref h0), (1, .int v1)] := hl
  refine lv_aload_n hx hb dX5_sceneShown_0 rfl (lv_at hl 0 rfl) ?_
  refine lv_aload_n hx hb dX5_sceneShown_1 rfl (lv_at hl 0 rfl) ?_
  obtain ⟨o2, hc2, hf⟩ := gb_b hf
  have hrun2 : va_Run p l e rm_X5_sceneShown s m [.ref h0, .int v1].toArray below meth c H locs 0 0 0 0 (F0 m 2 ls ([].reverse ++ .ref h0 :: [.ref h0])) [.ref h0] (gQ D b (some (.int o2)) M (gW cI cL gv) (Value.ref h0 :: []).toArray) (gA b) := by
    obtain ⟨oc, hcO, hc2⟩ := gb_b hc2
    obtain ⟨hcg, hci⟩ := gfO_s hcO
    obtain ⟨kc, fc⟩ := oc
    dsimp only at hci hcg hc2
    rcases gLC_7 hci with rfl | rfl | rfl | rfl | rfl | rfl | rfl
    · have hc2 : f_X5_showsOldestFirst h0 = some o2 := hc2
      exact va_runU (As := []) (rest := [.ref h0]) ⟨hx, hb, hml, hown, hts⟩ (c_X5_showsOldestFirst (l := l) (D := D) (b := b) (cI := cI) (cL := cL) hc2) (va_cwU 0 hts gX5_sceneShown_X5_showsOldestFirst_u92X0 rfl rfl rfl rfl (by decide +kernel) ⟨Nat.le_of_ble_eq_true rfl, Nat.le_of_ble_eq_true rfl⟩) (gp_preV hKn hG (cp_obj hcg) rfl) rfl rfl hl.1 rfl (lv_room (Nat.le_of_ble_eq_true rfl)) dX5_sceneShown_2 ⟨Nat.le_of_ble_eq_true rfl, Nat.le_of_ble_eq_true rfl⟩
    · have hc2 : f_X5_showsOldestFirst h0 = some o2 := hc2
      exact va_runU (As := []) (rest := [.ref h0]) ⟨hx, hb, hml, hown, hts⟩ (c_X5_showsOldestFirst (l := l) (D := D) (b := b) (cI := cI) (cL := cL) hc2) (va_cwU 0 hts gX5_sceneShown_X5_showsOldestFirst_u92X1 rfl rfl rfl rfl (by decide +kernel) ⟨Nat.le_of_ble_eq_true rfl, Nat.le_of_ble_eq_true rfl⟩) (gp_preV hKn hG (cp_obj hcg) rfl) rfl rfl hl.1 rfl (lv_room (Nat.le_of_ble_eq_true rfl)) dX5_sceneShown_2 ⟨Nat.le_of_ble_eq_true rfl, Nat.le_of_ble_eq_true rfl⟩
    · have hc2 : f_X5_showsOldestFirst h0 = some o2 := hc2
      exact va_runU (As := []) (rest := [.ref h0]) ⟨hx, hb, hml, hown, hts⟩ (c_X5_showsOldestFirst (l := l) (D := D) (b := b) (cI := cI) (cL := cL) hc2) (va_cwU 0 hts gX5_sceneShown_X5_showsOldestFirst_u92X3 rfl rfl rfl rfl (by decide +kernel) ⟨Nat.le_of_ble_eq_true rfl, Nat.le_of_ble_eq_true rfl⟩) (gp_preV hKn hG (cp_obj hcg) rfl) rfl rfl hl.1 rfl (lv_room (Nat.le_of_ble_eq_true rfl)) dX5_sceneShown_2 ⟨Nat.le_of_ble_eq_true rfl, Nat.le_of_ble_eq_true rfl⟩
    · have hc2 : f_X4_showsOldestFirst h0 = some o2 := hc2
      exact va_runU (As := []) (rest := [.ref h0]) ⟨hx, hb, hml, hown, hts⟩ (c_X4_showsOldestFirst (l := l) (D := D) (b := b) (cI := cI) (cL := cL) hc2) (va_cwO 0 hts gX5_sceneShown_X4_showsOldestFirst_u92X4 rfl rfl rfl (List.mem_of_getElem? (i := 7) rfl) (by decide +kernel) ⟨Nat.le_of_ble_eq_true rfl, Nat.le_of_ble_eq_true rfl⟩) (gp_preV hKn hG (cp_obj hcg) rfl) rfl rfl hl.1 rfl (lv_room (Nat.le_of_ble_eq_true rfl)) dX5_sceneShown_2 ⟨Nat.le_of_ble_eq_true rfl, Nat.le_of_ble_eq_true rfl⟩
    · have hc2 : f_X5_showsOldestFirst h0 = some o2 := hc2
      exact va_runV (As := []) (rest := [.ref h0]) ⟨hx, hb, hml, hown, hts⟩ (c_X5_showsOldestFirst (l := l) (D := D) (b := b) (cI := cI) (cL := cL) hc2) (cwV 0 hts gX5_sceneShown_X5_showsOldestFirst rfl rfl rfl (by decide +kernel) ⟨Nat.le_of_ble_eq_true rfl, Nat.le_of_ble_eq_true rfl⟩) (gp_preV hKn hG (cp_obj hcg) rfl) rfl rfl hl.1 rfl (lv_room (Nat.le_of_ble_eq_true rfl)) dX5_sceneShown_2 ⟨Nat.le_of_ble_eq_true rfl, Nat.le_of_ble_eq_true rfl⟩
    · have hc2 : f_X5_showsOldestFirst h0 = some o2 := hc2
      exact va_runU (As := []) (rest := [.ref h0]) ⟨hx, hb, hml, hown, hts⟩ (c_X5_showsOldestFirst (l := l) (D := D) (b := b) (cI := cI) (cL := cL) hc2) (va_cwU 0 hts gX5_sceneShown_X5_showsOldestFirst_u92X7 rfl rfl rfl rfl (by decide +kernel) ⟨Nat.le_of_ble_eq_true rfl, Nat.le_of_ble_eq_true rfl⟩) (gp_preV hKn hG (cp_obj hcg) rfl) rfl rfl hl.1 rfl (lv_room (Nat.le_of_ble_eq_true rfl)) dX5_sceneShown_2 ⟨Nat.le_of_ble_eq_true rfl, Nat.le_of_ble_eq_true rfl⟩
    · have hc2 : f_X5_showsOldestFirst h0 = some o2 := hc2
      exact va_runU (As := []) (rest := [.ref h0]) ⟨hx, hb, hml, hown, hts⟩ (c_X5_showsOldestFirst (l := l) (D := D) (b := b) (cI := cI) (cL := cL) hc2) (va_cwU 0 hts gX5_sceneShown_X5_showsOldestFirst_u92X8 rfl rfl rfl rfl (by decide +kernel) ⟨Nat.le_of_ble_eq_true rfl, Nat.le_of_ble_eq_true rfl⟩) (gp_preV hKn hG (cp_obj hcg) rfl) rfl rfl hl.1 rfl (lv_room (Nat.le_of_ble_eq_true rfl)) dX5_sceneShown_2 ⟨Nat.le_of_ble_eq_true rfl, Nat.le_of_ble_eq_true rfl⟩
  refine gp_callI hrun2 hS (fun H locs hG hS => ?_)
  obtain ⟨j5, hj5, hf⟩ := gb_b hf
  have hJ5 : ∀ (H : Heap) (locs : List Loc) (ls : Array Slot), GP D b M (gW cI cL gv) H → va_S (gA b) s.heap H locs → lv_has ls 2 [] → W p l e rm_X5_sceneShown s m [.ref h0, .int v1].toArray below meth c H locs 0 0 (MQ below (gQ D b (some (.int R)) M (gW cI cL gv)) [.ref h0, .int v1].toArray s 0 0 (gA b)) (F0 m 20 ls [.int j5, .ref h0]) := by
    intro H locs ls hG hS hl
    obtain ⟨o20, hc20, hf⟩ := gb_b hf
    have hrun20 : va_Run p l e rm_X5_sceneShown s m [.ref h0, .int v1].toArray below meth c H locs 0 0 0 0 (F0 m 20 ls ([.int j5].reverse ++ .ref h0 :: [])) [] (gQ D b (some (.int o20)) M (gW cI cL gv) (Value.ref h0 :: [.int j5]).toArray) (gA b) := by
      obtain ⟨oc, hcO, hc20⟩ := gb_b hc20
      obtain ⟨hcg, hci⟩ := gfO_s hcO
      obtain ⟨kc, fc⟩ := oc
      dsimp only at hci hcg hc20
      rcases gLC_7 hci with rfl | rfl | rfl | rfl | rfl | rfl | rfl
      · exact va_runU (As := [.int j5]) (rest := []) ⟨hx, hb, hml, hown, hts⟩ (c_X5_sceneAt (l := l) (D := D) (b := b) (cI := cI) (cL := cL) hc20) (va_cwU 1 hts gX5_sceneShown_X5_sceneAt_u96X0 rfl rfl rfl rfl (by decide +kernel) ⟨Nat.le_of_ble_eq_true rfl, Nat.le_of_ble_eq_true rfl⟩) (gp_preV hKn hG (cp_obj hcg) rfl) rfl rfl hl.1 rfl (lv_room (Nat.le_of_ble_eq_true rfl)) dX5_sceneShown_20 ⟨Nat.le_of_ble_eq_true rfl, Nat.le_of_ble_eq_true rfl⟩
      · exact va_runU (As := [.int j5]) (rest := []) ⟨hx, hb, hml, hown, hts⟩ (c_X5_sceneAt (l := l) (D := D) (b := b) (cI := cI) (cL := cL) hc20) (va_cwU 1 hts gX5_sceneShown_X5_sceneAt_u96X1 rfl rfl rfl rfl (by decide +kernel) ⟨Nat.le_of_ble_eq_true rfl, Nat.le_of_ble_eq_true rfl⟩) (gp_preV hKn hG (cp_obj hcg) rfl) rfl rfl hl.1 rfl (lv_room (Nat.le_of_ble_eq_true rfl)) dX5_sceneShown_20 ⟨Nat.le_of_ble_eq_true rfl, Nat.le_of_ble_eq_true rfl⟩
      · exact va_runU (As := [.int j5]) (rest := []) ⟨hx, hb, hml, hown, hts⟩ (c_X5_sceneAt (l := l) (D := D) (b := b) (cI := cI) (cL := cL) hc20) (va_cwU 1 hts gX5_sceneShown_X5_sceneAt_u96X3 rfl rfl rfl rfl (by decide +kernel) ⟨Nat.le_of_ble_eq_true rfl, Nat.le_of_ble_eq_true rfl⟩) (gp_preV hKn hG (cp_obj hcg) rfl) rfl rfl hl.1 rfl (lv_room (Nat.le_of_ble_eq_true rfl)) dX5_sceneShown_20 ⟨Nat.le_of_ble_eq_true rfl, Nat.le_of_ble_eq_true rfl⟩
      · exact va_runU (As := [.int j5]) (rest := []) ⟨hx, hb, hml, hown, hts⟩ (c_X5_sceneAt (l := l) (D := D) (b := b) (cI := cI) (cL := cL) hc20) (va_cwU 1 hts gX5_sceneShown_X5_sceneAt_u96X4 rfl rfl rfl rfl (by decide +kernel) ⟨Nat.le_of_ble_eq_true rfl, Nat.le_of_ble_eq_true rfl⟩) (gp_preV hKn hG (cp_obj hcg) rfl) rfl rfl hl.1 rfl (lv_room (Nat.le_of_ble_eq_true rfl)) dX5_sceneShown_20 ⟨Nat.le_of_ble_eq_true rfl, Nat.le_of_ble_eq_true rfl⟩
      · exact va_runV (As := [.int j5]) (rest := []) ⟨hx, hb, hml, hown, hts⟩ (c_X5_sceneAt (l := l) (D := D) (b := b) (cI := cI) (cL := cL) hc20) (cwV 1 hts gX5_sceneShown_X5_sceneAt rfl rfl rfl (by decide +kernel) ⟨Nat.le_of_ble_eq_true rfl, Nat.le_of_ble_eq_true rfl⟩) (gp_preV hKn hG (cp_obj hcg) rfl) rfl rfl hl.1 rfl (lv_room (Nat.le_of_ble_eq_true rfl)) dX5_sceneShown_20 ⟨Nat.le_of_ble_eq_true rfl, Nat.le_of_ble_eq_true rfl⟩
      · exact va_runU (As := [.int j5]) (rest := []) ⟨hx, hb, hml, hown, hts⟩ (c_X5_sceneAt (l := l) (D := D) (b := b) (cI := cI) (cL := cL) hc20) (va_cwU 1 hts gX5_sceneShown_X5_sceneAt_u96X7 rfl rfl rfl rfl (by decide +kernel) ⟨Nat.le_of_ble_eq_true rfl, Nat.le_of_ble_eq_true rfl⟩) (gp_preV hKn hG (cp_obj hcg) rfl) rfl rfl hl.1 rfl (lv_room (Nat.le_of_ble_eq_true rfl)) dX5_sceneShown_20 ⟨Nat.le_of_ble_eq_true rfl, Nat.le_of_ble_eq_true rfl⟩
      · exact va_runU (As := [.int j5]) (rest := []) ⟨hx, hb, hml, hown, hts⟩ (c_X5_sceneAt (l := l) (D := D) (b := b) (cI := cI) (cL := cL) hc20) (va_cwU 1 hts gX5_sceneShown_X5_sceneAt_u96X8 rfl rfl rfl rfl (by decide +kernel) ⟨Nat.le_of_ble_eq_true rfl, Nat.le_of_ble_eq_true rfl⟩) (gp_preV hKn hG (cp_obj hcg) rfl) rfl rfl hl.1 rfl (lv_room (Nat.le_of_ble_eq_true rfl)) dX5_sceneShown_20 ⟨Nat.le_of_ble_eq_true rfl, Nat.le_of_ble_eq_true rfl⟩
    refine gp_callI hrun20 hS (fun H locs hG hS => ?_)
    have hf := Option.some.inj hf
    subst hf
    exact gp_retI hx hb hr hlocks hG hS (Nat.le_of_ble_eq_true rfl) (Nat.le_of_ble_eq_true rfl) dX5_sceneShown_23
  refine lv_if_eq (tgt := 12) hx hb dX5_sceneShown_5 (by decide) (fun c5 => ?_) (fun c5 => ?_)
  · have hj5 := gb_t c5 hj5
    refine lv_aload_n hx hb dX5_sceneShown_12 rfl (lv_at hl 0 rfl) ?_
    obtain ⟨t13, ht13, hj5⟩ := gb_b hj5
    refine cp_get (v := .int t13) hx hb hts gclL hown hK hG 3 (gfI_s ht13) (by decide) (hts _ (List.mem_of_getElem? (i := 1) rfl)) (fun _ h9 => h9) dX5_sceneShown_13 ?_
    refine lv_iconst (v := 1) hx hb dX5_sceneShown_16 (by decide) ?_
    refine lv_isub hx hb dX5_sceneShown_17 ?_
    refine lv_iload_n hx hb dX5_sceneShown_18 rfl (lv_at hl 1 rfl) ?_
    refine lv_isub hx hb dX5_sceneShown_19 ?_
    have hj5 := Option.some.inj hj5
    subst hj5
    exact (hJ5 H locs ls hG hS (lv_sub hl [] rfl))
  · have hj5 := gb_f c5 hj5
    refine lv_iload_n hx hb dX5_sceneShown_8 rfl (lv_at hl 1 rfl) ?_
    refine lv_goto (tgt := 20) hx hb dX5_sceneShown_9 (by decide) ?_
    have hj5 := Option.some.inj hj5
    subst hj5
    exact (hJ5 H locs ls hG hS (lv_sub hl [] rfl))
-- X5_twin
abbrev rm_X5_twin : Room := { frames := 5, cells := 2, slots := 14, locals := 108 }
set_option maxHeartbeats 4000000 in
set_option maxRecDepth 100000 in
theorem w_X5_twin_42 {α : Type} {R : α} {K78 : (Nat → GV) → Option α} {v0 : Nat} {v1 : Nat} {cells slots : Nat} (X : gC p s m args meth c cX5_twin 3 (some (.object "LampsThatRemember$Lamp")) wsX5_twin RX5 D b (gTy cI cL)) (hcl : cells ≤ 2) (hsl : slots ≤ 14) : ∀ (n : Nat) (v2 : Int32) (gv : Nat → GV), L_X5_twin_42 K78 v0 v1 n v2 gv = some R → (∀ (x : (Nat → GV)), K78 x = some R → ∀ (H : Heap) (locs : List Loc) (ls : Array Slot), GP D b M (gW cI cL x) H → va_S (gA b) s.heap H locs → lv_has ls 3 [(1, .ref v1)] → W p l e rm_X5_twin s m args below meth c H locs cells slots Q (F0 m 78 ls [])) → ∀ (H : Heap) (locs : List Loc) (ls : Array Slot), GP D b M (gW cI cL gv) H → va_S (gA b) s.heap H locs → lv_has ls 3 [(0, .ref v0), (1, .ref v1), (2, .int v2)] → W p l e rm_X5_twin s m args below meth c H locs cells slots Q (F0 m 42 ls []) := by
  obtain ⟨hx, hb, hr, hml, hown, hts, hlocks, hKn, hBs⟩ := id X
  have hK := hKn.1
  have gclL : gcl gLC TX5 5 wsX5_twin := gcl_L (fun _ h => List.mem_cons_of_mem _ (List.mem_append_left _ (List.mem_append_left _ (List.mem_append_left _ (List.mem_append_left _ (List.mem_append_left _ (List.mem_append_left _ (List.mem_append_right _ h)))))))) (fun _ h => List.mem_cons_of_mem _ (List.mem_append_left _ (List.mem_append_left _ (List.mem_append_left _ (List.mem_append_left _ (List.mem_append_left _ (List.mem_append_right _ h))))))) (fun _ h => List.mem_cons_of_mem _ (List.mem_append_left _ (List.mem_append_left _ (List.mem_append_left _ (List.mem_append_left _ (List.mem_append_right _ h)))))) (fun _ h => List.mem_cons_of_mem _ (List.mem_append_left _ (List.mem_append_left _ (List.mem_append_left _ (List.mem_append_right _ h))))) (fun _ h => List.mem_cons_of_mem _ (List.mem_append_left _ (List.mem_append_left _ (List.mem_append_right _ h)))) (fun _ h => List.mem_cons_of_mem _ (List.mem_append_left _ (List.mem_append_right _ h))) (fun _ h => List.mem_cons_of_mem _ (List.mem_append_right _ h))
  intro n
  induction n with
  | zero =>
    intro v2 gv hf
    cases hf
  | succ n ih =>
    intro v2 gv hf hk78 H locs ls hG hS hl
    rw [L_X5_twin_42.eq_2] at hf
    refine lv_iload_n hx hb dX5_twin_42 rfl (lv_at hl 2 rfl) ?_
    refine lv_aload_n hx hb dX5_twin_43 rfl (lv_at hl 0 rfl) ?_
    obtain ⟨t44, ht44, hf⟩ := gb_b hf
    refine cp_get (v := va_rf t44) hx hb hts gclL hown hK hG 4 (gfR_s ht44) (by decide) (hts _ (List.mem_of_getElem? (i := 5) rfl)) (fun _ h9 => h9) dX5_twin_44 ?_
    obtain ⟨q47, hq47, hf⟩ := gb_b hf
    refine W.eq (g2 := F0 m 47 ls [.ref q47, .int v2]) (congrArg (fun z => F0 m 47 ls [va_rf z, .int v2]) hq47) ?_
    obtain ⟨t47, ht47, hf⟩ := gb_b hf
    refine cp_alenI hx hb hK hG ht47 dX5_twin_47 ?_
    refine lv_icmp_ge (tgt := 78) hx hb dX5_twin_48 (by decide) (fun c48 => ?_) (fun c48 => ?_)
    · have hf := gb_t c48 hf
      exact (hk78 _ hf _ _ _ hG hS (lv_sub hl [1] rfl))
    · have hf := gb_f c48 hf
      refine lv_iload_n hx hb dX5_twin_51 rfl (lv_at hl 2 rfl) ?_
      refine lv_aload_n hx hb dX5_twin_52 rfl (lv_at hl 1 rfl) ?_
      obtain ⟨t53, ht53, hf⟩ := gb_b hf
      refine cp_get (v := va_rf t53) hx hb hts gclL hown hK hG 4 (gfR_s ht53) (by decide) (hts _ (List.mem_of_getElem? (i := 5) rfl)) (fun _ h9 => h9) dX5_twin_53 ?_
      obtain ⟨q56, hq56, hf⟩ := gb_b hf
      refine W.eq (g2 := F0 m 56 ls [.ref q56, .int v2]) (congrArg (fun z => F0 m 56 ls [va_rf z, .int v2]) hq56) ?_
      obtain ⟨t56, ht56, hf⟩ := gb_b hf
      refine cp_alenI hx hb hK hG ht56 dX5_twin_56 ?_
      refine lv_icmp_ge (tgt := 78) hx hb dX5_twin_57 (by decide) (fun c57 => ?_) (fun c57 => ?_)
      · have hf := gb_t c57 hf
        exact (hk78 _ hf _ _ _ hG hS (lv_sub hl [1] rfl))
      · have hf := gb_f c57 hf
        refine lv_aload_n hx hb dX5_twin_60 rfl (lv_at hl 1 rfl) ?_
        obtain ⟨t61, ht61, hf⟩ := gb_b hf
        refine cp_get (v := va_rf t61) hx hb hts gclL hown hK hG 4 (gfR_s ht61) (by decide) (hts _ (List.mem_of_getElem? (i := 5) rfl)) (fun _ h9 => h9) dX5_twin_61 ?_
        refine lv_iload_n hx hb dX5_twin_64 rfl (lv_at hl 2 rfl) ?_
        refine lv_aload_n hx hb dX5_twin_65 rfl (lv_at hl 0 rfl) ?_
        obtain ⟨t66, ht66, hf⟩ := gb_b hf
        refine cp_get (v := va_rf t66) hx hb hts gclL hown hK hG 4 (gfR_s ht66) (by decide) (hts _ (List.mem_of_getElem? (i := 5) rfl)) (fun _ h9 => h9) dX5_twin_66 ?_
        refine lv_iload_n hx hb dX5_twin_69 rfl (lv_at hl 2 rfl) ?_
        obtain ⟨q70, hq70, hf⟩ := gb_b hf
        refine W.eq (g2 := F0 m 70 ls [.int v2, .ref q70, .int v2, va_rf t61]) (congrArg (fun z => F0 m 70 ls [.int v2, va_rf z, .int v2, va_rf t61]) hq70) ?_
        obtain ⟨t70, ht70, hf⟩ := gb_b hf
        refine cp_iald hx hb hK hG ht70 dX5_twin_70 ?_
        obtain ⟨q71, hq71, hf⟩ := gb_b hf
        refine W.eq (g2 := F0 m 71 ls [.int t70, .int v2, .ref q71]) (congrArg (fun z => F0 m 71 ls [.int t70, .int v2, va_rf z]) hq71) ?_
        obtain ⟨g71, ht71, hf⟩ := gb_b hf
        refine cp_iast hx hb hK hG hS ht71 dX5_twin_71 (fun H locs hG hS => ?_)
        refine lv_iinc (v := v2 + 1) (lv' := [(2, .int (v2 + 1)), (0, .ref v0), (1, .ref v1)]) hx hb dX5_twin_72 hl (k := 2) rfl rfl (by decide) rfl (fun ls hl => ?_)
        refine lv_goto (tgt := 42) hx hb dX5_twin_75 (by decide) ?_
        exact ih _ _ hf hk78 _ _ _ hG hS (lv_sub hl [1, 2, 0] rfl)
set_option maxHeartbeats 4000000 in
set_option maxRecDepth 100000 in
theorem c_X5_twin {R : Option Nat × (Nat → GV) × Nat} (hf : f_X5_twin gv M h0 = some R) : Met l yX5_twin wsX5_twin rm_X5_twin (va_Pc [.ref h0] (gPre D b M (gW cI cL gv) (gTy cI cL))) (gQ D b (some (va_rf R.1)) R.2.2 (gW cI cL R.2.1)) 2 14 (gA b) := by
  refine gp_met (cc := cX5_twin) (maxL := 3) (ret := (some (.object "LampsThatRemember$Lamp"))) (by decide) rfl (Nat.le_of_ble_eq_true rfl) ?_
  intro p e s m below meth c X ls hG hl
  obtain ⟨H, hH0⟩ : ∃ H : Heap, H = s.heap := ⟨_, rfl⟩
  rw [← hH0] at hG ⊢
  have hS : va_S (gA b) s.heap H [] := by rw [hH0]; exact va_S.rf
  obtain ⟨locs, hlo⟩ : ∃ z : List Loc, z = [] := ⟨_, rfl⟩
  rw [← hlo] at hS ⊢
  unfold f_X5_twin at hf
  obtain ⟨hx, hb, hr, hml, hown, hts, hlocks, hKn, hBs⟩ := id X
  have hK := hKn.1
  have gclL : gcl gLC TX5 5 wsX5_twin := gcl_L (fun _ h => List.mem_cons_of_mem _ (List.mem_append_left _ (List.mem_append_left _ (List.mem_append_left _ (List.mem_append_left _ (List.mem_append_left _ (List.mem_append_left _ (List.mem_append_right _ h)))))))) (fun _ h => List.mem_cons_of_mem _ (List.mem_append_left _ (List.mem_append_left _ (List.mem_append_left _ (List.mem_append_left _ (List.mem_append_left _ (List.mem_append_right _ h))))))) (fun _ h => List.mem_cons_of_mem _ (List.mem_append_left _ (List.mem_append_left _ (List.mem_append_left _ (List.mem_append_left _ (List.mem_append_right _ h)))))) (fun _ h => List.mem_cons_of_mem _ (List.mem_append_left _ (List.mem_append_left _ (List.mem_append_left _ (List.mem_append_right _ h))))) (fun _ h => List.mem_cons_of_mem _ (List.mem_append_left _ (List.mem_append_left _ (List.mem_append_right _ h)))) (fun _ h => List.mem_cons_of_mem _ (List.mem_append_left _ (List.mem_append_right _ h))) (fun _ h => List.mem_cons_of_mem _ (List.mem_append_right _ h))
  have hl : lv_has ls 3 [(0, .ref h0)] := hl
  refine lv_aload_n hx hb dX5_twin_0 rfl (lv_at hl 0 rfl) ?_
  obtain ⟨o1, hc1, hf⟩ := gb_b hf
  have hrun1 : va_Run p l e rm_X5_twin s m [.ref h0].toArray below meth c H locs 0 0 0 0 (F0 m 1 ls ([].reverse ++ .ref h0 :: [])) [] (gQ D b (some (.int o1)) M (gW cI cL gv) (Value.ref h0 :: []).toArray) (gA b) := by
    obtain ⟨oc, hcO, hc1⟩ := gb_b hc1
    obtain ⟨hcg, hci⟩ := gfO_s hcO
    obtain ⟨kc, fc⟩ := oc
    dsimp only at hci hcg hc1
    rcases gLC_7 hci with rfl | rfl | rfl | rfl | rfl | rfl | rfl
    · have hc1 : f_X0_kind h0 = some o1 := hc1
      exact va_runU (As := []) (rest := []) ⟨hx, hb, hml, hown, hts⟩ (c_X0_kind (l := l) (D := D) (b := b) (cI := cI) (cL := cL) hc1) (va_cwO 0 hts gX5_twin_X0_kind_u66X0 rfl rfl rfl (List.mem_of_getElem? (i := 13) rfl) (by decide +kernel) ⟨Nat.le_of_ble_eq_true rfl, Nat.le_of_ble_eq_true rfl⟩) (gp_preV hKn hG (cp_obj hcg) rfl) rfl rfl hl.1 rfl (lv_room (Nat.le_of_ble_eq_true rfl)) dX5_twin_1 ⟨Nat.le_of_ble_eq_true rfl, Nat.le_of_ble_eq_true rfl⟩
    · have hc1 : f_X1_kind h0 = some o1 := hc1
      exact va_runU (As := []) (rest := []) ⟨hx, hb, hml, hown, hts⟩ (c_X1_kind (l := l) (D := D) (b := b) (cI := cI) (cL := cL) hc1) (va_cwO 0 hts gX5_twin_X1_kind_u66X1 rfl rfl rfl (List.mem_of_getElem? (i := 13) rfl) (by decide +kernel) ⟨Nat.le_of_ble_eq_true rfl, Nat.le_of_ble_eq_true rfl⟩) (gp_preV hKn hG (cp_obj hcg) rfl) rfl rfl hl.1 rfl (lv_room (Nat.le_of_ble_eq_true rfl)) dX5_twin_1 ⟨Nat.le_of_ble_eq_true rfl, Nat.le_of_ble_eq_true rfl⟩
    · have hc1 : f_X3_kind h0 = some o1 := hc1
      exact va_runU (As := []) (rest := []) ⟨hx, hb, hml, hown, hts⟩ (c_X3_kind (l := l) (D := D) (b := b) (cI := cI) (cL := cL) hc1) (va_cwO 0 hts gX5_twin_X3_kind_u66X3 rfl rfl rfl (List.mem_of_getElem? (i := 13) rfl) (by decide +kernel) ⟨Nat.le_of_ble_eq_true rfl, Nat.le_of_ble_eq_true rfl⟩) (gp_preV hKn hG (cp_obj hcg) rfl) rfl rfl hl.1 rfl (lv_room (Nat.le_of_ble_eq_true rfl)) dX5_twin_1 ⟨Nat.le_of_ble_eq_true rfl, Nat.le_of_ble_eq_true rfl⟩
    · have hc1 : f_X4_kind h0 = some o1 := hc1
      exact va_runU (As := []) (rest := []) ⟨hx, hb, hml, hown, hts⟩ (c_X4_kind (l := l) (D := D) (b := b) (cI := cI) (cL := cL) hc1) (va_cwO 0 hts gX5_twin_X4_kind_u66X4 rfl rfl rfl (List.mem_of_getElem? (i := 13) rfl) (by decide +kernel) ⟨Nat.le_of_ble_eq_true rfl, Nat.le_of_ble_eq_true rfl⟩) (gp_preV hKn hG (cp_obj hcg) rfl) rfl rfl hl.1 rfl (lv_room (Nat.le_of_ble_eq_true rfl)) dX5_twin_1 ⟨Nat.le_of_ble_eq_true rfl, Nat.le_of_ble_eq_true rfl⟩
    · have hc1 : f_X5_kind h0 = some o1 := hc1
      exact va_runV (As := []) (rest := []) ⟨hx, hb, hml, hown, hts⟩ (c_X5_kind (l := l) (D := D) (b := b) (cI := cI) (cL := cL) hc1) (cwV 0 hts gX5_twin_X5_kind rfl rfl rfl (by decide +kernel) ⟨Nat.le_of_ble_eq_true rfl, Nat.le_of_ble_eq_true rfl⟩) (gp_preV hKn hG (cp_obj hcg) rfl) rfl rfl hl.1 rfl (lv_room (Nat.le_of_ble_eq_true rfl)) dX5_twin_1 ⟨Nat.le_of_ble_eq_true rfl, Nat.le_of_ble_eq_true rfl⟩
    · have hc1 : f_X7_kind h0 = some o1 := hc1
      exact va_runU (As := []) (rest := []) ⟨hx, hb, hml, hown, hts⟩ (c_X7_kind (l := l) (D := D) (b := b) (cI := cI) (cL := cL) hc1) (va_cwO 0 hts gX5_twin_X7_kind_u66X7 rfl rfl rfl (List.mem_of_getElem? (i := 13) rfl) (by decide +kernel) ⟨Nat.le_of_ble_eq_true rfl, Nat.le_of_ble_eq_true rfl⟩) (gp_preV hKn hG (cp_obj hcg) rfl) rfl rfl hl.1 rfl (lv_room (Nat.le_of_ble_eq_true rfl)) dX5_twin_1 ⟨Nat.le_of_ble_eq_true rfl, Nat.le_of_ble_eq_true rfl⟩
    · have hc1 : f_X8_kind h0 = some o1 := hc1
      exact va_runU (As := []) (rest := []) ⟨hx, hb, hml, hown, hts⟩ (c_X8_kind (l := l) (D := D) (b := b) (cI := cI) (cL := cL) hc1) (va_cwO 0 hts gX5_twin_X8_kind_u66X8 rfl rfl rfl (List.mem_of_getElem? (i := 13) rfl) (by decide +kernel) ⟨Nat.le_of_ble_eq_true rfl, Nat.le_of_ble_eq_true rfl⟩) (gp_preV hKn hG (cp_obj hcg) rfl) rfl rfl hl.1 rfl (lv_room (Nat.le_of_ble_eq_true rfl)) dX5_twin_1 ⟨Nat.le_of_ble_eq_true rfl, Nat.le_of_ble_eq_true rfl⟩
  refine gp_callI hrun1 hS (fun H locs hG hS => ?_)
  obtain ⟨o4, hc4, hf⟩ := gb_b hf
  refine gp_callR (va_runS (As := [.int o1]) (rest := []) ⟨hx, hb, hml, hown, hts⟩ (c_X5_ofKind (l := l) (D := D) (b := b) (cI := cI) (cL := cL) hc4) (va_cwS 1 hts gX5_twin_X5_ofKind rfl rfl rfl (by decide +kernel) ⟨Nat.le_of_ble_eq_true rfl, Nat.le_of_ble_eq_true rfl⟩) (gp_preS hKn hG) rfl rfl hl.1 rfl (lv_room (Nat.le_of_ble_eq_true rfl)) dX5_twin_4 ⟨Nat.le_of_ble_eq_true rfl, Nat.le_of_ble_eq_true rfl⟩) hS (fun H locs hG hS => ?_)
  refine gp_astore_n (lv' := [(1, va_rf o4.1), (0, .ref h0)]) hx hb dX5_twin_7 rfl hl (by decide) rfl (fun ls hl => ?_)
  refine gp_aload_n (x := o4.1) hx hb dX5_twin_8 rfl (lv_at hl 0 rfl) ?_
  refine lv_aload_n hx hb dX5_twin_9 rfl (lv_at hl 1 rfl) ?_
  obtain ⟨t10, ht10, hf⟩ := gb_b hf
  refine cp_get (v := .int t10) hx hb hts gclL hown hK hG 0 (gfI_s ht10) (by decide) (hts _ (List.mem_of_getElem? (i := 1) rfl)) (fun _ h9 => h9) dX5_twin_10 ?_
  obtain ⟨q13, hq13, hf⟩ := gb_b hf
  refine W.eq (g2 := F0 m 13 ls [.int t10, .ref q13]) (congrArg (fun z => F0 m 13 ls [.int t10, va_rf z]) hq13) ?_
  rw [hq13] at hl
  obtain ⟨g13, ht13, hf⟩ := gb_b hf
  refine cp_put (tyk := .int) hx hb hts gclL tyX5 tyX5_ok nmX5 hown hK hG hS 0 ht13 (by decide) (hts _ (List.mem_of_getElem? (i := 1) rfl)) (fun _ h9 => h9) rfl (by decide +kernel) rfl rfl dX5_twin_13 (fun H locs hG hS => ?_)
  refine lv_aload_n hx hb dX5_twin_16 rfl (lv_at hl 0 rfl) ?_
  refine lv_aload_n hx hb dX5_twin_17 rfl (lv_at hl 1 rfl) ?_
  obtain ⟨t18, ht18, hf⟩ := gb_b hf
  refine cp_get (v := .int t18) hx hb hts gclL hown hK hG 1 (gfI_s ht18) (by decide) (hts _ (List.mem_of_getElem? (i := 2) rfl)) (fun _ h9 => h9) dX5_twin_18 ?_
  obtain ⟨g21, ht21, hf⟩ := gb_b hf
  refine cp_put (tyk := .int) hx hb hts gclL tyX5 tyX5_ok nmX5 hown hK hG hS 1 ht21 (by decide) (hts _ (List.mem_of_getElem? (i := 2) rfl)) (fun _ h9 => h9) rfl (by decide +kernel) rfl rfl dX5_twin_21 (fun H locs hG hS => ?_)
  refine lv_aload_n hx hb dX5_twin_24 rfl (lv_at hl 0 rfl) ?_
  refine lv_aload_n hx hb dX5_twin_25 rfl (lv_at hl 1 rfl) ?_
  obtain ⟨t26, ht26, hf⟩ := gb_b hf
  refine cp_get (v := .int t26) hx hb hts gclL hown hK hG 2 (gfI_s ht26) (by decide) (hts _ (List.mem_of_getElem? (i := 3) rfl)) (fun _ h9 => h9) dX5_twin_26 ?_
  obtain ⟨z29, hf⟩ := gb_zb hf
  obtain ⟨g29, ht29, hf⟩ := gb_b hf
  refine cp_put (tyk := .boolean) hx hb hts gclL tyX5 tyX5_ok nmX5 hown hK hG hS 2 ht29 (by decide) (hts _ (List.mem_of_getElem? (i := 3) rfl)) (fun _ h9 => h9) rfl (by decide +kernel) (gfit_z z29).1 (gfit_z z29).2 dX5_twin_29 (fun H locs hG hS => ?_)
  refine lv_aload_n hx hb dX5_twin_32 rfl (lv_at hl 0 rfl) ?_
  refine lv_aload_n hx hb dX5_twin_33 rfl (lv_at hl 1 rfl) ?_
  obtain ⟨t34, ht34, hf⟩ := gb_b hf
  refine cp_get (v := .int t34) hx hb hts gclL hown hK hG 3 (gfI_s ht34) (by decide) (hts _ (List.mem_of_getElem? (i := 4) rfl)) (fun _ h9 => h9) dX5_twin_34 ?_
  obtain ⟨g37, ht37, hf⟩ := gb_b hf
  refine cp_put (tyk := .int) hx hb hts gclL tyX5 tyX5_ok nmX5 hown hK hG hS 3 ht37 (by decide) (hts _ (List.mem_of_getElem? (i := 4) rfl)) (fun _ h9 => h9) rfl (by decide +kernel) rfl rfl dX5_twin_37 (fun H locs hG hS => ?_)
  refine lv_iconst (v := 0) hx hb dX5_twin_40 (by decide) ?_
  refine lv_istore_n (lv' := [(2, .int 0), (1, .ref q13), (0, .ref h0)]) hx hb dX5_twin_41 rfl hl (by decide) rfl (fun ls hl => ?_)
  refine w_X5_twin_42 X (by omega) (by omega) _ _ _ hf (fun x42_78 hf H locs ls hG hS hl => ?_) _ _ _ hG hS (lv_sub hl [2, 1, 0] rfl)
  · refine lv_aload_n hx hb dX5_twin_78 rfl (lv_at hl 0 rfl) ?_
    have hf := Option.some.inj hf
    subst hf
    exact gp_retR (v := some q13) hx hb hr hlocks hG hS (Nat.le_of_ble_eq_true rfl) (Nat.le_of_ble_eq_true rfl) dX5_twin_79
end
