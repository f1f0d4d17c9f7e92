section
variable {p : Program} {l : Launch} {e : Env} {s : State} {m : MethodId} {args : Array Value} {below : List Frame} {meth : Method} {c : Code} {D : va_G} {b : GB} {M : Nat} {cI cL : ClassId} {h0 : Nat} {gv : Nat → GV} {gh : Nat → va_E} {Q : State → Prop}
-- X5_room
abbrev rm_X5_room : Room := { frames := 0, cells := 0, slots := 0, locals := 0 }
set_option maxHeartbeats 4000000 in
set_option maxRecDepth 100000 in
theorem c_X5_room {R : Int32} (hf : f_X5_room h0 = some R) : Met l yX5_room wsX5_room rm_X5_room (va_Pc [.ref h0] (gPre D b M (gh) (gTy cI cL))) (gQ D b (some (.int R)) M (gh)) 0 0 (gA b) := by
  refine gp_met (cc := cX5_room) (maxL := 1) (ret := (some .int)) (by decide) rfl (Nat.le_of_ble_eq_true rfl) ?_
  intro p e s m below meth c X ls hG hl
  obtain ⟨H, hH0⟩ : ∃ H : Heap, H = s.heap := ⟨_, rfl⟩
  rw [← hH0] at hG ⊢
  have hS : va_S (gA b) s.heap H [] := by rw [hH0]; exact va_S.rf
  obtain ⟨locs, hlo⟩ : ∃ z : List Loc, z = [] := ⟨_, rfl⟩
  rw [← hlo] at hS ⊢
  unfold f_X5_room at hf
  obtain ⟨hx, hb, hr, hml, hown, hts, hlocks, hKn, hBs⟩ := id X
  have hK := hKn.1
  have hl : lv_has ls 1 [(0, .ref h0)] := hl
  refine lv_bipush (v := 9) hx hb dX5_room_0 (by decide) ?_
  have hf := Option.some.inj hf
  subst hf
  exact gp_retI hx hb hr hlocks hG hS (Nat.le_of_ble_eq_true rfl) (Nat.le_of_ble_eq_true rfl) dX5_room_2
-- X7_room
abbrev rm_X7_room : Room := { frames := 0, cells := 0, slots := 0, locals := 0 }
set_option maxHeartbeats 4000000 in
set_option maxRecDepth 100000 in
theorem c_X7_room {R : Int32} (hf : f_X7_room h0 = some R) : Met l yX7_room wsX7_room rm_X7_room (va_Pc [.ref h0] (gPre D b M (gh) (gTy cI cL))) (gQ D b (some (.int R)) M (gh)) 0 0 (gA b) := by
  refine gp_met (cc := cX7_room) (maxL := 1) (ret := (some .int)) (by decide) rfl (Nat.le_of_ble_eq_true rfl) ?_
  intro p e s m below meth c X ls hG hl
  obtain ⟨H, hH0⟩ : ∃ H : Heap, H = s.heap := ⟨_, rfl⟩
  rw [← hH0] at hG ⊢
  have hS : va_S (gA b) s.heap H [] := by rw [hH0]; exact va_S.rf
  obtain ⟨locs, hlo⟩ : ∃ z : List Loc, z = [] := ⟨_, rfl⟩
  rw [← hlo] at hS ⊢
  unfold f_X7_room at hf
  obtain ⟨hx, hb, hr, hml, hown, hts, hlocks, hKn, hBs⟩ := id X
  have hK := hKn.1
  have hl : lv_has ls 1 [(0, .ref h0)] := hl
  refine lv_iconst (v := 0) hx hb dX7_room_0 (by decide) ?_
  have hf := Option.some.inj hf
  subst hf
  exact gp_retI hx hb hr hlocks hG hS (Nat.le_of_ble_eq_true rfl) (Nat.le_of_ble_eq_true rfl) dX7_room_1
-- X5_whoKept
abbrev rm_X5_whoKept : Room := { frames := 0, cells := 0, slots := 0, locals := 0 }
set_option maxHeartbeats 4000000 in
set_option maxRecDepth 100000 in
theorem c_X5_whoKept {v1 : Int32} {R : Int32} (hf : f_X5_whoKept h0 v1 = some R) : Met l yX5_whoKept wsX5_whoKept rm_X5_whoKept (va_Pc [.ref h0, .int v1] (gPre D b M (gh) (gTy cI cL))) (gQ D b (some (.int R)) M (gh)) 0 0 (gA b) := by
  refine gp_met (cc := cX5_whoKept) (maxL := 2) (ret := (some .int)) (by decide) rfl (Nat.le_of_ble_eq_true rfl) ?_
  intro p e s m below meth c X ls hG hl
  obtain ⟨H, hH0⟩ : ∃ H : Heap, H = s.heap := ⟨_, rfl⟩
  rw [← hH0] at hG ⊢
  have hS : va_S (gA b) s.heap H [] := by rw [hH0]; exact va_S.rf
  obtain ⟨locs, hlo⟩ : ∃ z : List Loc, z = [] := ⟨_, rfl⟩
  rw [← hlo] at hS ⊢
  unfold f_X5_whoKept at hf
  obtain ⟨hx, hb, hr, hml, hown, hts, hlocks, hKn, hBs⟩ := id X
  have hK := hKn.1
  have hl : lv_has ls 2 [(0, .ref h0), (1, .int v1)] := hl
  refine lv_iload_n hx hb dX5_whoKept_0 rfl (lv_at hl 1 rfl) ?_
  have hf := Option.some.inj hf
  subst hf
  exact gp_retI hx hb hr hlocks hG hS (Nat.le_of_ble_eq_true rfl) (Nat.le_of_ble_eq_true rfl) dX5_whoKept_1
-- X9_of
abbrev rm_X9_of : Room := { frames := 0, cells := 0, slots := 0, locals := 0 }
set_option maxHeartbeats 4000000 in
set_option maxRecDepth 100000 in
theorem c_X9_of {v0 : Int32} {v1 : Int32} {v2 : Int32} {R : Int32} (hf : f_X9_of v0 v1 v2 = some R) : Met l yX9_of wsX9_of rm_X9_of (va_Pc [.int v0, .int v1, .int v2] (gPre D b M (gh) (gTy cI cL))) (gQ D b (some (.int R)) M (gh)) 0 0 (gA b) := by
  refine gp_met (cc := cX9_of) (maxL := 3) (ret := (some .int)) (by decide) rfl (Nat.le_of_ble_eq_true rfl) ?_
  intro p e s m below meth c X ls hG hl
  obtain ⟨H, hH0⟩ : ∃ H : Heap, H = s.heap := ⟨_, rfl⟩
  rw [← hH0] at hG ⊢
  have hS : va_S (gA b) s.heap H [] := by rw [hH0]; exact va_S.rf
  obtain ⟨locs, hlo⟩ : ∃ z : List Loc, z = [] := ⟨_, rfl⟩
  rw [← hlo] at hS ⊢
  unfold f_X9_of at hf
  obtain ⟨hx, hb, hr, hml, hown, hts, hlocks, hKn, hBs⟩ := id X
  have hK := hKn.1
  have hl : lv_has ls 3 [(0, .int v0), (1, .int v1), (2, .int v2)] := hl
  refine lv_iload_n hx hb dX9_of_0 rfl (lv_at hl 2 rfl) ?_
  refine lv_sipush (v := 1000) hx hb dX9_of_1 (by decide) ?_
  refine lv_imul hx hb dX9_of_4 ?_
  refine lv_iload_n hx hb dX9_of_5 rfl (lv_at hl 1 rfl) ?_
  refine lv_bipush (v := 10) hx hb dX9_of_6 (by decide) ?_
  refine lv_imul hx hb dX9_of_8 ?_
  refine lv_iadd hx hb dX9_of_9 ?_
  refine lv_iload_n hx hb dX9_of_10 rfl (lv_at hl 0 rfl) ?_
  refine lv_iadd hx hb dX9_of_11 ?_
  have hf := Option.some.inj hf
  subst hf
  exact gp_retI hx hb hr hlocks hG hS (Nat.le_of_ble_eq_true rfl) (Nat.le_of_ble_eq_true rfl) dX9_of_12
-- X5_keep
abbrev rm_X5_keep : Room := { frames := 2, cells := 0, slots := 0, locals := 43 }
set_option maxHeartbeats 4000000 in
set_option maxRecDepth 100000 in
theorem c_X5_keep {v1 : Int32} {v2 : Int32} {v3 : Int32} {R : (Nat → GV)} (hf : f_X5_keep gv h0 v1 v2 v3 = some R) : Met l yX5_keep wsX5_keep rm_X5_keep (va_Pc [.ref h0, .int v1, .int v2, .int v3] (gPre D b M (gW cI cL gv) (gTy cI cL))) (gQ D b none M (gW cI cL R)) 0 0 (gA b) := by
  refine gp_met (cc := cX5_keep) (maxL := 4) (ret := none) (by decide) rfl (Nat.le_of_ble_eq_true rfl) ?_
  intro p e s m below meth c X ls hG hl
  obtain ⟨H, hH0⟩ : ∃ H : Heap, H = s.heap := ⟨_, rfl⟩
  rw [← hH0] at hG ⊢
  have hS : va_S (gA b) s.heap H [] := by rw [hH0]; exact va_S.rf
  obtain ⟨locs, hlo⟩ : ∃ z : List Loc, z = [] := ⟨_, rfl⟩
  rw [← hlo] at hS ⊢
  unfold f_X5_keep at hf
  obtain ⟨hx, hb, hr, hml, hown, hts, hlocks, hKn, hBs⟩ := id X
  have hK := hKn.1
  have gclL : gcl gLC TX5 5 wsX5_keep := gcl_L (fun _ h => List.mem_cons_of_mem _ (List.mem_append_left _ (List.mem_append_left _ (List.mem_append_left _ (List.mem_append_left _ (List.mem_append_left _ (List.mem_append_left _ (List.mem_append_right _ h)))))))) (fun _ h => List.mem_cons_of_mem _ (List.mem_append_left _ (List.mem_append_left _ (List.mem_append_left _ (List.mem_append_left _ (List.mem_append_left _ (List.mem_append_right _ h))))))) (fun _ h => List.mem_cons_of_mem _ (List.mem_append_left _ (List.mem_append_left _ (List.mem_append_left _ (List.mem_append_left _ (List.mem_append_right _ h)))))) (fun _ h => List.mem_cons_of_mem _ (List.mem_append_left _ (List.mem_append_left _ (List.mem_append_left _ (List.mem_append_right _ h))))) (fun _ h => List.mem_cons_of_mem _ (List.mem_append_left _ (List.mem_append_left _ (List.mem_append_right _ h)))) (fun _ h => List.mem_cons_of_mem _ (List.mem_append_left _ (List.mem_append_right _ h))) (fun _ h => List.mem_cons_of_mem _ (List.mem_append_right _ h))
  have hl : lv_has ls 4 [(0, .ref h0), (1, .int v1), (2, .int v2), (3, .int v3)] := hl
  refine lv_aload_n hx hb dX5_keep_0 rfl (lv_at hl 0 rfl) ?_
  refine lv_aload_n hx hb dX5_keep_1 rfl (lv_at hl 0 rfl) ?_
  refine lv_iload_n hx hb dX5_keep_2 rfl (lv_at hl 2 rfl) ?_
  obtain ⟨o3, hc3, hf⟩ := gb_b hf
  have hrun3 : va_Run p l e rm_X5_keep s m [.ref h0, .int v1, .int v2, .int v3].toArray below meth c H locs 0 0 0 0 (F0 m 3 ls ([.int v2].reverse ++ .ref h0 :: [.ref h0])) [.ref h0] (gQ D b (some (.int o3)) M (gW cI cL gv) (Value.ref h0 :: [.int v2]).toArray) (gA b) := by
    obtain ⟨oc, hcO, hc3⟩ := gb_b hc3
    obtain ⟨hcg, hci⟩ := gfO_s hcO
    obtain ⟨kc, fc⟩ := oc
    dsimp only at hci hcg hc3
    rcases gLC_7 hci with rfl | rfl | rfl | rfl | rfl | rfl | rfl
    · have hc3 : f_X5_placeGivenUpFor h0 v2 = some o3 := hc3
      exact va_runU (As := [.int v2]) (rest := [.ref h0]) ⟨hx, hb, hml, hown, hts⟩ (c_X5_placeGivenUpFor (l := l) (D := D) (b := b) (cI := cI) (cL := cL) hc3) (va_cwU 1 hts gX5_keep_X5_placeGivenUpFor_u42X0 rfl rfl rfl rfl (by decide +kernel) ⟨Nat.le_of_ble_eq_true rfl, Nat.le_of_ble_eq_true rfl⟩) (gp_preV hKn hG (cp_obj hcg) rfl) rfl rfl hl.1 rfl (lv_room (Nat.le_of_ble_eq_true rfl)) dX5_keep_3 ⟨Nat.le_of_ble_eq_true rfl, Nat.le_of_ble_eq_true rfl⟩
    · have hc3 : f_X5_placeGivenUpFor h0 v2 = some o3 := hc3
      exact va_runU (As := [.int v2]) (rest := [.ref h0]) ⟨hx, hb, hml, hown, hts⟩ (c_X5_placeGivenUpFor (l := l) (D := D) (b := b) (cI := cI) (cL := cL) hc3) (va_cwU 1 hts gX5_keep_X5_placeGivenUpFor_u42X1 rfl rfl rfl rfl (by decide +kernel) ⟨Nat.le_of_ble_eq_true rfl, Nat.le_of_ble_eq_true rfl⟩) (gp_preV hKn hG (cp_obj hcg) rfl) rfl rfl hl.1 rfl (lv_room (Nat.le_of_ble_eq_true rfl)) dX5_keep_3 ⟨Nat.le_of_ble_eq_true rfl, Nat.le_of_ble_eq_true rfl⟩
    · have hc3 : f_X5_placeGivenUpFor h0 v2 = some o3 := hc3
      exact va_runU (As := [.int v2]) (rest := [.ref h0]) ⟨hx, hb, hml, hown, hts⟩ (c_X5_placeGivenUpFor (l := l) (D := D) (b := b) (cI := cI) (cL := cL) hc3) (va_cwU 1 hts gX5_keep_X5_placeGivenUpFor_u42X3 rfl rfl rfl rfl (by decide +kernel) ⟨Nat.le_of_ble_eq_true rfl, Nat.le_of_ble_eq_true rfl⟩) (gp_preV hKn hG (cp_obj hcg) rfl) rfl rfl hl.1 rfl (lv_room (Nat.le_of_ble_eq_true rfl)) dX5_keep_3 ⟨Nat.le_of_ble_eq_true rfl, Nat.le_of_ble_eq_true rfl⟩
    · have hc3 : f_X8_placeGivenUpFor gv h0 v2 = some o3 := hc3
      exact va_runU (As := [.int v2]) (rest := [.ref h0]) ⟨hx, hb, hml, hown, hts⟩ (c_X8_placeGivenUpFor (l := l) (D := D) (b := b) (cI := cI) (cL := cL) hc3) (va_cwO 1 hts gX5_keep_X8_placeGivenUpFor_u42X4 rfl rfl rfl (List.mem_of_getElem? (i := 8) rfl) (by decide +kernel) ⟨Nat.le_of_ble_eq_true rfl, Nat.le_of_ble_eq_true rfl⟩) (gp_preV hKn hG (cp_obj hcg) rfl) rfl rfl hl.1 rfl (lv_room (Nat.le_of_ble_eq_true rfl)) dX5_keep_3 ⟨Nat.le_of_ble_eq_true rfl, Nat.le_of_ble_eq_true rfl⟩
    · have hc3 : f_X5_placeGivenUpFor h0 v2 = some o3 := hc3
      exact va_runV (As := [.int v2]) (rest := [.ref h0]) ⟨hx, hb, hml, hown, hts⟩ (c_X5_placeGivenUpFor (l := l) (D := D) (b := b) (cI := cI) (cL := cL) hc3) (cwV 1 hts gX5_keep_X5_placeGivenUpFor rfl rfl rfl (by decide +kernel) ⟨Nat.le_of_ble_eq_true rfl, Nat.le_of_ble_eq_true rfl⟩) (gp_preV hKn hG (cp_obj hcg) rfl) rfl rfl hl.1 rfl (lv_room (Nat.le_of_ble_eq_true rfl)) dX5_keep_3 ⟨Nat.le_of_ble_eq_true rfl, Nat.le_of_ble_eq_true rfl⟩
    · have hc3 : f_X5_placeGivenUpFor h0 v2 = some o3 := hc3
      exact va_runU (As := [.int v2]) (rest := [.ref h0]) ⟨hx, hb, hml, hown, hts⟩ (c_X5_placeGivenUpFor (l := l) (D := D) (b := b) (cI := cI) (cL := cL) hc3) (va_cwU 1 hts gX5_keep_X5_placeGivenUpFor_u42X7 rfl rfl rfl rfl (by decide +kernel) ⟨Nat.le_of_ble_eq_true rfl, Nat.le_of_ble_eq_true rfl⟩) (gp_preV hKn hG (cp_obj hcg) rfl) rfl rfl hl.1 rfl (lv_room (Nat.le_of_ble_eq_true rfl)) dX5_keep_3 ⟨Nat.le_of_ble_eq_true rfl, Nat.le_of_ble_eq_true rfl⟩
    · have hc3 : f_X8_placeGivenUpFor gv h0 v2 = some o3 := hc3
      exact va_runU (As := [.int v2]) (rest := [.ref h0]) ⟨hx, hb, hml, hown, hts⟩ (c_X8_placeGivenUpFor (l := l) (D := D) (b := b) (cI := cI) (cL := cL) hc3) (va_cwO 1 hts gX5_keep_X8_placeGivenUpFor_u42X8 rfl rfl rfl (List.mem_of_getElem? (i := 8) rfl) (by decide +kernel) ⟨Nat.le_of_ble_eq_true rfl, Nat.le_of_ble_eq_true rfl⟩) (gp_preV hKn hG (cp_obj hcg) rfl) rfl rfl hl.1 rfl (lv_room (Nat.le_of_ble_eq_true rfl)) dX5_keep_3 ⟨Nat.le_of_ble_eq_true rfl, Nat.le_of_ble_eq_true rfl⟩
  refine gp_callI hrun3 hS (fun H locs hG hS => ?_)
  obtain ⟨o6, hc6, hf⟩ := gb_b hf
  have hrun6 : va_Run p l e rm_X5_keep s m [.ref h0, .int v1, .int v2, .int v3].toArray below meth c H locs 0 0 0 0 (F0 m 6 ls ([.int o3].reverse ++ .ref h0 :: [])) [] (gQ D b none M (gW cI cL o6) (Value.ref h0 :: [.int o3]).toArray) (gA b) := by
    obtain ⟨oc, hcO, hc6⟩ := gb_b hc6
    obtain ⟨hcg, hci⟩ := gfO_s hcO
    obtain ⟨kc, fc⟩ := oc
    dsimp only at hci hcg hc6
    rcases gLC_7 hci with rfl | rfl | rfl | rfl | rfl | rfl | rfl
    · exact va_runU (As := [.int o3]) (rest := []) ⟨hx, hb, hml, hown, hts⟩ (c_X5_takeOut (l := l) (D := D) (b := b) (cI := cI) (cL := cL) hc6) (va_cwU 1 hts gX5_keep_X5_takeOut_u46X0 rfl rfl rfl rfl (by decide +kernel) ⟨Nat.le_of_ble_eq_true rfl, Nat.le_of_ble_eq_true rfl⟩) (gp_preV hKn hG (cp_obj hcg) rfl) rfl rfl hl.1 rfl (lv_room (Nat.le_of_ble_eq_true rfl)) dX5_keep_6 ⟨Nat.le_of_ble_eq_true rfl, Nat.le_of_ble_eq_true rfl⟩
    · exact va_runU (As := [.int o3]) (rest := []) ⟨hx, hb, hml, hown, hts⟩ (c_X5_takeOut (l := l) (D := D) (b := b) (cI := cI) (cL := cL) hc6) (va_cwU 1 hts gX5_keep_X5_takeOut_u46X1 rfl rfl rfl rfl (by decide +kernel) ⟨Nat.le_of_ble_eq_true rfl, Nat.le_of_ble_eq_true rfl⟩) (gp_preV hKn hG (cp_obj hcg) rfl) rfl rfl hl.1 rfl (lv_room (Nat.le_of_ble_eq_true rfl)) dX5_keep_6 ⟨Nat.le_of_ble_eq_true rfl, Nat.le_of_ble_eq_true rfl⟩
    · exact va_runU (As := [.int o3]) (rest := []) ⟨hx, hb, hml, hown, hts⟩ (c_X5_takeOut (l := l) (D := D) (b := b) (cI := cI) (cL := cL) hc6) (va_cwU 1 hts gX5_keep_X5_takeOut_u46X3 rfl rfl rfl rfl (by decide +kernel) ⟨Nat.le_of_ble_eq_true rfl, Nat.le_of_ble_eq_true rfl⟩) (gp_preV hKn hG (cp_obj hcg) rfl) rfl rfl hl.1 rfl (lv_room (Nat.le_of_ble_eq_true rfl)) dX5_keep_6 ⟨Nat.le_of_ble_eq_true rfl, Nat.le_of_ble_eq_true rfl⟩
    · exact va_runU (As := [.int o3]) (rest := []) ⟨hx, hb, hml, hown, hts⟩ (c_X5_takeOut (l := l) (D := D) (b := b) (cI := cI) (cL := cL) hc6) (va_cwU 1 hts gX5_keep_X5_takeOut_u46X4 rfl rfl rfl rfl (by decide +kernel) ⟨Nat.le_of_ble_eq_true rfl, Nat.le_of_ble_eq_true rfl⟩) (gp_preV hKn hG (cp_obj hcg) rfl) rfl rfl hl.1 rfl (lv_room (Nat.le_of_ble_eq_true rfl)) dX5_keep_6 ⟨Nat.le_of_ble_eq_true rfl, Nat.le_of_ble_eq_true rfl⟩
    · exact va_runV (As := [.int o3]) (rest := []) ⟨hx, hb, hml, hown, hts⟩ (c_X5_takeOut (l := l) (D := D) (b := b) (cI := cI) (cL := cL) hc6) (cwV 1 hts gX5_keep_X5_takeOut rfl rfl rfl (by decide +kernel) ⟨Nat.le_of_ble_eq_true rfl, Nat.le_of_ble_eq_true rfl⟩) (gp_preV hKn hG (cp_obj hcg) rfl) rfl rfl hl.1 rfl (lv_room (Nat.le_of_ble_eq_true rfl)) dX5_keep_6 ⟨Nat.le_of_ble_eq_true rfl, Nat.le_of_ble_eq_true rfl⟩
    · exact va_runU (As := [.int o3]) (rest := []) ⟨hx, hb, hml, hown, hts⟩ (c_X5_takeOut (l := l) (D := D) (b := b) (cI := cI) (cL := cL) hc6) (va_cwU 1 hts gX5_keep_X5_takeOut_u46X7 rfl rfl rfl rfl (by decide +kernel) ⟨Nat.le_of_ble_eq_true rfl, Nat.le_of_ble_eq_true rfl⟩) (gp_preV hKn hG (cp_obj hcg) rfl) rfl rfl hl.1 rfl (lv_room (Nat.le_of_ble_eq_true rfl)) dX5_keep_6 ⟨Nat.le_of_ble_eq_true rfl, Nat.le_of_ble_eq_true rfl⟩
    · exact va_runU (As := [.int o3]) (rest := []) ⟨hx, hb, hml, hown, hts⟩ (c_X5_takeOut (l := l) (D := D) (b := b) (cI := cI) (cL := cL) hc6) (va_cwU 1 hts gX5_keep_X5_takeOut_u46X8 rfl rfl rfl rfl (by decide +kernel) ⟨Nat.le_of_ble_eq_true rfl, Nat.le_of_ble_eq_true rfl⟩) (gp_preV hKn hG (cp_obj hcg) rfl) rfl rfl hl.1 rfl (lv_room (Nat.le_of_ble_eq_true rfl)) dX5_keep_6 ⟨Nat.le_of_ble_eq_true rfl, Nat.le_of_ble_eq_true rfl⟩
  refine gp_callV hrun6 hS (fun H locs hG hS => ?_)
  refine lv_aload_n hx hb dX5_keep_9 rfl (lv_at hl 0 rfl) ?_
  obtain ⟨t10, ht10, hf⟩ := gb_b hf
  refine cp_get (v := .int t10) hx hb hts gclL hown hK hG 3 (gfI_s ht10) (by decide) (hts _ (List.mem_of_getElem? (i := 1) rfl)) (fun _ h9 => h9) dX5_keep_10 ?_
  refine lv_aload_n hx hb dX5_keep_13 rfl (lv_at hl 0 rfl) ?_
  obtain ⟨o14, hc14, hf⟩ := gb_b hf
  have hrun14 : va_Run p l e rm_X5_keep s m [.ref h0, .int v1, .int v2, .int v3].toArray below meth c H locs 0 0 0 0 (F0 m 14 ls ([].reverse ++ .ref h0 :: [.int t10])) [.int t10] (gQ D b (some (.int o14)) M (gW cI cL o6) (Value.ref h0 :: []).toArray) (gA b) := by
    obtain ⟨oc, hcO, hc14⟩ := gb_b hc14
    obtain ⟨hcg, hci⟩ := gfO_s hcO
    obtain ⟨kc, fc⟩ := oc
    dsimp only at hci hcg hc14
    rcases gLC_7 hci with rfl | rfl | rfl | rfl | rfl | rfl | rfl
    · have hc14 : f_X0_room h0 = some o14 := hc14
      exact va_runU (As := []) (rest := [.int t10]) ⟨hx, hb, hml, hown, hts⟩ (c_X0_room (l := l) (D := D) (b := b) (cI := cI) (cL := cL) hc14) (va_cwO 0 hts gX5_keep_X0_room_u53X0 rfl rfl rfl (List.mem_of_getElem? (i := 51) rfl) (by decide +kernel) ⟨Nat.le_of_ble_eq_true rfl, Nat.le_of_ble_eq_true rfl⟩) (gp_preV hKn hG (cp_obj hcg) rfl) rfl rfl hl.1 rfl (lv_room (Nat.le_of_ble_eq_true rfl)) dX5_keep_14 ⟨Nat.le_of_ble_eq_true rfl, Nat.le_of_ble_eq_true rfl⟩
    · have hc14 : f_X5_room h0 = some o14 := hc14
      exact va_runU (As := []) (rest := [.int t10]) ⟨hx, hb, hml, hown, hts⟩ (c_X5_room (l := l) (D := D) (b := b) (cI := cI) (cL := cL) hc14) (va_cwU 0 hts gX5_keep_X5_room_u53X1 rfl rfl rfl rfl (by decide +kernel) ⟨Nat.le_of_ble_eq_true rfl, Nat.le_of_ble_eq_true rfl⟩) (gp_preV hKn hG (cp_obj hcg) rfl) rfl rfl hl.1 rfl (lv_room (Nat.le_of_ble_eq_true rfl)) dX5_keep_14 ⟨Nat.le_of_ble_eq_true rfl, Nat.le_of_ble_eq_true rfl⟩
    · have hc14 : f_X5_room h0 = some o14 := hc14
      exact va_runU (As := []) (rest := [.int t10]) ⟨hx, hb, hml, hown, hts⟩ (c_X5_room (l := l) (D := D) (b := b) (cI := cI) (cL := cL) hc14) (va_cwU 0 hts gX5_keep_X5_room_u53X3 rfl rfl rfl rfl (by decide +kernel) ⟨Nat.le_of_ble_eq_true rfl, Nat.le_of_ble_eq_true rfl⟩) (gp_preV hKn hG (cp_obj hcg) rfl) rfl rfl hl.1 rfl (lv_room (Nat.le_of_ble_eq_true rfl)) dX5_keep_14 ⟨Nat.le_of_ble_eq_true rfl, Nat.le_of_ble_eq_true rfl⟩
    · have hc14 : f_X5_room h0 = some o14 := hc14
      exact va_runU (As := []) (rest := [.int t10]) ⟨hx, hb, hml, hown, hts⟩ (c_X5_room (l := l) (D := D) (b := b) (cI := cI) (cL := cL) hc14) (va_cwU 0 hts gX5_keep_X5_room_u53X4 rfl rfl rfl rfl (by decide +kernel) ⟨Nat.le_of_ble_eq_true rfl, Nat.le_of_ble_eq_true rfl⟩) (gp_preV hKn hG (cp_obj hcg) rfl) rfl rfl hl.1 rfl (lv_room (Nat.le_of_ble_eq_true rfl)) dX5_keep_14 ⟨Nat.le_of_ble_eq_true rfl, Nat.le_of_ble_eq_true rfl⟩
    · have hc14 : f_X5_room h0 = some o14 := hc14
      exact va_runV (As := []) (rest := [.int t10]) ⟨hx, hb, hml, hown, hts⟩ (c_X5_room (l := l) (D := D) (b := b) (cI := cI) (cL := cL) hc14) (cwV 0 hts gX5_keep_X5_room rfl rfl rfl (by decide +kernel) ⟨Nat.le_of_ble_eq_true rfl, Nat.le_of_ble_eq_true rfl⟩) (gp_preV hKn hG (cp_obj hcg) rfl) rfl rfl hl.1 rfl (lv_room (Nat.le_of_ble_eq_true rfl)) dX5_keep_14 ⟨Nat.le_of_ble_eq_true rfl, Nat.le_of_ble_eq_true rfl⟩
    · have hc14 : f_X7_room h0 = some o14 := hc14
      exact va_runU (As := []) (rest := [.int t10]) ⟨hx, hb, hml, hown, hts⟩ (c_X7_room (l := l) (D := D) (b := b) (cI := cI) (cL := cL) hc14) (va_cwO 0 hts gX5_keep_X7_room_u53X7 rfl rfl rfl (List.mem_of_getElem? (i := 51) rfl) (by decide +kernel) ⟨Nat.le_of_ble_eq_true rfl, Nat.le_of_ble_eq_true rfl⟩) (gp_preV hKn hG (cp_obj hcg) rfl) rfl rfl hl.1 rfl (lv_room (Nat.le_of_ble_eq_true rfl)) dX5_keep_14 ⟨Nat.le_of_ble_eq_true rfl, Nat.le_of_ble_eq_true rfl⟩
    · have hc14 : f_X5_room h0 = some o14 := hc14
      exact va_runU (As := []) (rest := [.int t10]) ⟨hx, hb, hml, hown, hts⟩ (c_X5_room (l := l) (D := D) (b := b) (cI := cI) (cL := cL) hc14) (va_cwU 0 hts gX5_keep_X5_room_u53X8 rfl rfl rfl rfl (by decide +kernel) ⟨Nat.le_of_ble_eq_true rfl, Nat.le_of_ble_eq_true rfl⟩) (gp_preV hKn hG (cp_obj hcg) rfl) rfl rfl hl.1 rfl (lv_room (Nat.le_of_ble_eq_true rfl)) dX5_keep_14 ⟨Nat.le_of_ble_eq_true rfl, Nat.le_of_ble_eq_true rfl⟩
  refine gp_callI hrun14 hS (fun H locs hG hS => ?_)
  obtain ⟨j17, hj17, hf⟩ := gb_b hf
  have hJ17 : ∀ (H : Heap) (locs : List Loc) (ls : Array Slot), GP D b M (gW cI cL j17) H → va_S (gA b) s.heap H locs → lv_has ls 4 [(0, .ref h0), (1, .int v1), (2, .int v2), (3, .int v3)] → W p l e rm_X5_keep s m [.ref h0, .int v1, .int v2, .int v3].toArray below meth c H locs 0 0 (MQ below (gQ D b none M (gW cI cL R)) [.ref h0, .int v1, .int v2, .int v3].toArray s 0 0 (gA b)) (F0 m 25 ls []) := by
    intro H locs ls hG hS hl
    refine lv_aload_n hx hb dX5_keep_25 rfl (lv_at hl 0 rfl) ?_
    obtain ⟨t26, ht26, hf⟩ := gb_b hf
    refine cp_get (v := .int t26) hx hb hts gclL hown hK hG 3 (gfI_s ht26) (by decide) (hts _ (List.mem_of_getElem? (i := 1) rfl)) (fun _ h9 => h9) dX5_keep_26 ?_
    obtain ⟨j29, hj29, hf⟩ := gb_b hf
    have hJ29 : ∀ (H : Heap) (locs : List Loc) (ls : Array Slot), GP D b M (gW cI cL j29) H → va_S (gA b) s.heap H locs → lv_has ls 4 [] → W p l e rm_X5_keep s m [.ref h0, .int v1, .int v2, .int v3].toArray below meth c H locs 0 0 (MQ below (gQ D b none M (gW cI cL R)) [.ref h0, .int v1, .int v2, .int v3].toArray s 0 0 (gA b)) (F0 m 84 ls []) := by
      intro H locs ls hG hS hl
      have hf := Option.some.inj hf
      subst hf
      exact gp_retV hx hb hr hlocks hG hS (Nat.le_of_ble_eq_true rfl) (Nat.le_of_ble_eq_true rfl) dX5_keep_84
    refine lv_if_lt (tgt := 84) hx hb dX5_keep_29 (by decide) (fun c29 => ?_) (fun c29 => ?_)
    · have hj29 := gb_t c29 hj29
      have hj29 := Option.some.inj hj29
      subst hj29
      exact (hJ29 H locs ls hG hS (lv_sub hl [] rfl))
    · have hj29 := gb_f c29 hj29
      refine lv_aload_n hx hb dX5_keep_32 rfl (lv_at hl 0 rfl) ?_
      obtain ⟨t33, ht33, hj29⟩ := gb_b hj29
      refine cp_get (v := .int t33) hx hb hts gclL hown hK hG 3 (gfI_s ht33) (by decide) (hts _ (List.mem_of_getElem? (i := 1) rfl)) (fun _ h9 => h9) dX5_keep_33 ?_
      refine lv_aload_n hx hb dX5_keep_36 rfl (lv_at hl 0 rfl) ?_
      obtain ⟨o37, hc37, hj29⟩ := gb_b hj29
      have hrun37 : va_Run p l e rm_X5_keep s m [.ref h0, .int v1, .int v2, .int v3].toArray below meth c H locs 0 0 0 0 (F0 m 37 ls ([].reverse ++ .ref h0 :: [.int t33])) [.int t33] (gQ D b (some (.int o37)) M (gW cI cL j17) (Value.ref h0 :: []).toArray) (gA b) := by
        obtain ⟨oc, hcO, hc37⟩ := gb_b hc37
        obtain ⟨hcg, hci⟩ := gfO_s hcO
        obtain ⟨kc, fc⟩ := oc
        dsimp only at hci hcg hc37
        rcases gLC_7 hci with rfl | rfl | rfl | rfl | rfl | rfl | rfl
        · have hc37 : f_X0_room h0 = some o37 := hc37
          exact va_runU (As := []) (rest := [.int t33]) ⟨hx, hb, hml, hown, hts⟩ (c_X0_room (l := l) (D := D) (b := b) (cI := cI) (cL := cL) hc37) (va_cwO 0 hts gX5_keep_X0_room_u53X0 rfl rfl rfl (List.mem_of_getElem? (i := 51) rfl) (by decide +kernel) ⟨Nat.le_of_ble_eq_true rfl, Nat.le_of_ble_eq_true rfl⟩) (gp_preV hKn hG (cp_obj hcg) rfl) rfl rfl hl.1 rfl (lv_room (Nat.le_of_ble_eq_true rfl)) dX5_keep_37 ⟨Nat.le_of_ble_eq_true rfl, Nat.le_of_ble_eq_true rfl⟩
        · have hc37 : f_X5_room h0 = some o37 := hc37
          exact va_runU (As := []) (rest := [.int t33]) ⟨hx, hb, hml, hown, hts⟩ (c_X5_room (l := l) (D := D) (b := b) (cI := cI) (cL := cL) hc37) (va_cwU 0 hts gX5_keep_X5_room_u53X1 rfl rfl rfl rfl (by decide +kernel) ⟨Nat.le_of_ble_eq_true rfl, Nat.le_of_ble_eq_true rfl⟩) (gp_preV hKn hG (cp_obj hcg) rfl) rfl rfl hl.1 rfl (lv_room (Nat.le_of_ble_eq_true rfl)) dX5_keep_37 ⟨Nat.le_of_ble_eq_true rfl, Nat.le_of_ble_eq_true rfl⟩
        · have hc37 : f_X5_room h0 = some o37 := hc37
          exact va_runU (As := []) (rest := [.int t33]) ⟨hx, hb, hml, hown, hts⟩ (c_X5_room (l := l) (D := D) (b := b) (cI := cI) (cL := cL) hc37) (va_cwU 0 hts gX5_keep_X5_room_u53X3 rfl rfl rfl rfl (by decide +kernel) ⟨Nat.le_of_ble_eq_true rfl, Nat.le_of_ble_eq_true rfl⟩) (gp_preV hKn hG (cp_obj hcg) rfl) rfl rfl hl.1 rfl (lv_room (Nat.le_of_ble_eq_true rfl)) dX5_keep_37 ⟨Nat.le_of_ble_eq_true rfl, Nat.le_of_ble_eq_true rfl⟩
        · have hc37 : f_X5_room h0 = some o37 := hc37
          exact va_runU (As := []) (rest := [.int t33]) ⟨hx, hb, hml, hown, hts⟩ (c_X5_room (l := l) (D := D) (b := b) (cI := cI) (cL := cL) hc37) (va_cwU 0 hts gX5_keep_X5_room_u53X4 rfl rfl rfl rfl (by decide +kernel) ⟨Nat.le_of_ble_eq_true rfl, Nat.le_of_ble_eq_true rfl⟩) (gp_preV hKn hG (cp_obj hcg) rfl) rfl rfl hl.1 rfl (lv_room (Nat.le_of_ble_eq_true rfl)) dX5_keep_37 ⟨Nat.le_of_ble_eq_true rfl, Nat.le_of_ble_eq_true rfl⟩
        · have hc37 : f_X5_room h0 = some o37 := hc37
          exact va_runV (As := []) (rest := [.int t33]) ⟨hx, hb, hml, hown, hts⟩ (c_X5_room (l := l) (D := D) (b := b) (cI := cI) (cL := cL) hc37) (cwV 0 hts gX5_keep_X5_room rfl rfl rfl (by decide +kernel) ⟨Nat.le_of_ble_eq_true rfl, Nat.le_of_ble_eq_true rfl⟩) (gp_preV hKn hG (cp_obj hcg) rfl) rfl rfl hl.1 rfl (lv_room (Nat.le_of_ble_eq_true rfl)) dX5_keep_37 ⟨Nat.le_of_ble_eq_true rfl, Nat.le_of_ble_eq_true rfl⟩
        · have hc37 : f_X7_room h0 = some o37 := hc37
          exact va_runU (As := []) (rest := [.int t33]) ⟨hx, hb, hml, hown, hts⟩ (c_X7_room (l := l) (D := D) (b := b) (cI := cI) (cL := cL) hc37) (va_cwO 0 hts gX5_keep_X7_room_u53X7 rfl rfl rfl (List.mem_of_getElem? (i := 51) rfl) (by decide +kernel) ⟨Nat.le_of_ble_eq_true rfl, Nat.le_of_ble_eq_true rfl⟩) (gp_preV hKn hG (cp_obj hcg) rfl) rfl rfl hl.1 rfl (lv_room (Nat.le_of_ble_eq_true rfl)) dX5_keep_37 ⟨Nat.le_of_ble_eq_true rfl, Nat.le_of_ble_eq_true rfl⟩
        · have hc37 : f_X5_room h0 = some o37 := hc37
          exact va_runU (As := []) (rest := [.int t33]) ⟨hx, hb, hml, hown, hts⟩ (c_X5_room (l := l) (D := D) (b := b) (cI := cI) (cL := cL) hc37) (va_cwU 0 hts gX5_keep_X5_room_u53X8 rfl rfl rfl rfl (by decide +kernel) ⟨Nat.le_of_ble_eq_true rfl, Nat.le_of_ble_eq_true rfl⟩) (gp_preV hKn hG (cp_obj hcg) rfl) rfl rfl hl.1 rfl (lv_room (Nat.le_of_ble_eq_true rfl)) dX5_keep_37 ⟨Nat.le_of_ble_eq_true rfl, Nat.le_of_ble_eq_true rfl⟩
      refine gp_callI hrun37 hS (fun H locs hG hS => ?_)
      refine lv_icmp_ge (tgt := 84) hx hb dX5_keep_40 (by decide) (fun c40 => ?_) (fun c40 => ?_)
      · have hj29 := gb_t c40 hj29
        have hj29 := Option.some.inj hj29
        subst hj29
        exact (hJ29 H locs ls hG hS (lv_sub hl [] rfl))
      · have hj29 := gb_f c40 hj29
        refine lv_aload_n hx hb dX5_keep_43 rfl (lv_at hl 0 rfl) ?_
        obtain ⟨t44, ht44, hj29⟩ := gb_b hj29
        refine cp_get (v := .int t44) hx hb hts gclL hown hK hG 3 (gfI_s ht44) (by decide) (hts _ (List.mem_of_getElem? (i := 1) rfl)) (fun _ h9 => h9) dX5_keep_44 ?_
        refine lv_aload_n hx hb dX5_keep_47 rfl (lv_at hl 0 rfl) ?_
        obtain ⟨t48, ht48, hj29⟩ := gb_b hj29
        refine cp_get (v := va_rf t48) hx hb hts gclL hown hK hG 4 (gfR_s ht48) (by decide) (hts _ (List.mem_of_getElem? (i := 2) rfl)) (fun _ h9 => h9) dX5_keep_48 ?_
        obtain ⟨q51, hq51, hj29⟩ := gb_b hj29
        refine W.eq (g2 := F0 m 51 ls [.ref q51, .int t44]) (congrArg (fun z => F0 m 51 ls [va_rf z, .int t44]) hq51) ?_
        obtain ⟨t51, ht51, hj29⟩ := gb_b hj29
        refine cp_alenI hx hb hK hG ht51 dX5_keep_51 ?_
        refine lv_icmp_ge (tgt := 84) hx hb dX5_keep_52 (by decide) (fun c52 => ?_) (fun c52 => ?_)
        · have hj29 := gb_t c52 hj29
          have hj29 := Option.some.inj hj29
          subst hj29
          exact (hJ29 H locs ls hG hS (lv_sub hl [] rfl))
        · have hj29 := gb_f c52 hj29
          refine lv_aload_n hx hb dX5_keep_55 rfl (lv_at hl 0 rfl) ?_
          obtain ⟨t56, ht56, hj29⟩ := gb_b hj29
          refine cp_get (v := va_rf t56) hx hb hts gclL hown hK hG 4 (gfR_s ht56) (by decide) (hts _ (List.mem_of_getElem? (i := 2) rfl)) (fun _ h9 => h9) dX5_keep_56 ?_
          refine lv_aload_n hx hb dX5_keep_59 rfl (lv_at hl 0 rfl) ?_
          obtain ⟨t60, ht60, hj29⟩ := gb_b hj29
          refine cp_get (v := .int t60) hx hb hts gclL hown hK hG 3 (gfI_s ht60) (by decide) (hts _ (List.mem_of_getElem? (i := 1) rfl)) (fun _ h9 => h9) dX5_keep_60 ?_
          refine lv_aload_n hx hb dX5_keep_63 rfl (lv_at hl 0 rfl) ?_
          refine lv_iload_n hx hb dX5_keep_64 rfl (lv_at hl 1 rfl) ?_
          obtain ⟨o65, hc65, hj29⟩ := gb_b hj29
          have hrun65 : va_Run p l e rm_X5_keep s m [.ref h0, .int v1, .int v2, .int v3].toArray below meth c H locs 0 0 0 0 (F0 m 65 ls ([.int v1].reverse ++ .ref h0 :: [.int t60, va_rf t56])) [.int t60, va_rf t56] (gQ D b (some (.int o65)) M (gW cI cL j17) (Value.ref h0 :: [.int v1]).toArray) (gA b) := by
            obtain ⟨oc, hcO, hc65⟩ := gb_b hc65
            obtain ⟨hcg, hci⟩ := gfO_s hcO
            obtain ⟨kc, fc⟩ := oc
            dsimp only at hci hcg hc65
            rcases gLC_7 hci with rfl | rfl | rfl | rfl | rfl | rfl | rfl
            · have hc65 : f_X3_whoKept h0 v1 = some o65 := hc65
              exact va_runU (As := [.int v1]) (rest := [.int t60, va_rf t56]) ⟨hx, hb, hml, hown, hts⟩ (c_X3_whoKept (l := l) (D := D) (b := b) (cI := cI) (cL := cL) hc65) (va_cwO 1 hts gX5_keep_X3_whoKept_u57X0 rfl rfl rfl (List.mem_of_getElem? (i := 70) rfl) (by decide +kernel) ⟨Nat.le_of_ble_eq_true rfl, Nat.le_of_ble_eq_true rfl⟩) (gp_preV hKn hG (cp_obj hcg) rfl) rfl rfl hl.1 rfl (lv_room (by simp [gcat_rf, gcat_ref, gcat_int, gcat_long, gcat_null])) dX5_keep_65 ⟨Nat.le_of_ble_eq_true rfl, Nat.le_of_ble_eq_true rfl⟩
            · have hc65 : f_X5_whoKept h0 v1 = some o65 := hc65
              exact va_runU (As := [.int v1]) (rest := [.int t60, va_rf t56]) ⟨hx, hb, hml, hown, hts⟩ (c_X5_whoKept (l := l) (D := D) (b := b) (cI := cI) (cL := cL) hc65) (va_cwU 1 hts gX5_keep_X5_whoKept_u57X1 rfl rfl rfl rfl (by decide +kernel) ⟨Nat.le_of_ble_eq_true rfl, Nat.le_of_ble_eq_true rfl⟩) (gp_preV hKn hG (cp_obj hcg) rfl) rfl rfl hl.1 rfl (lv_room (by simp [gcat_rf, gcat_ref, gcat_int, gcat_long, gcat_null])) dX5_keep_65 ⟨Nat.le_of_ble_eq_true rfl, Nat.le_of_ble_eq_true rfl⟩
            · have hc65 : f_X3_whoKept h0 v1 = some o65 := hc65
              exact va_runU (As := [.int v1]) (rest := [.int t60, va_rf t56]) ⟨hx, hb, hml, hown, hts⟩ (c_X3_whoKept (l := l) (D := D) (b := b) (cI := cI) (cL := cL) hc65) (va_cwO 1 hts gX5_keep_X3_whoKept_u57X3 rfl rfl rfl (List.mem_of_getElem? (i := 70) rfl) (by decide +kernel) ⟨Nat.le_of_ble_eq_true rfl, Nat.le_of_ble_eq_true rfl⟩) (gp_preV hKn hG (cp_obj hcg) rfl) rfl rfl hl.1 rfl (lv_room (by simp [gcat_rf, gcat_ref, gcat_int, gcat_long, gcat_null])) dX5_keep_65 ⟨Nat.le_of_ble_eq_true rfl, Nat.le_of_ble_eq_true rfl⟩
            · have hc65 : f_X5_whoKept h0 v1 = some o65 := hc65
              exact va_runU (As := [.int v1]) (rest := [.int t60, va_rf t56]) ⟨hx, hb, hml, hown, hts⟩ (c_X5_whoKept (l := l) (D := D) (b := b) (cI := cI) (cL := cL) hc65) (va_cwU 1 hts gX5_keep_X5_whoKept_u57X4 rfl rfl rfl rfl (by decide +kernel) ⟨Nat.le_of_ble_eq_true rfl, Nat.le_of_ble_eq_true rfl⟩) (gp_preV hKn hG (cp_obj hcg) rfl) rfl rfl hl.1 rfl (lv_room (by simp [gcat_rf, gcat_ref, gcat_int, gcat_long, gcat_null])) dX5_keep_65 ⟨Nat.le_of_ble_eq_true rfl, Nat.le_of_ble_eq_true rfl⟩
            · have hc65 : f_X5_whoKept h0 v1 = some o65 := hc65
              exact va_runV (As := [.int v1]) (rest := [.int t60, va_rf t56]) ⟨hx, hb, hml, hown, hts⟩ (c_X5_whoKept (l := l) (D := D) (b := b) (cI := cI) (cL := cL) hc65) (cwV 1 hts gX5_keep_X5_whoKept rfl rfl rfl (by decide +kernel) ⟨Nat.le_of_ble_eq_true rfl, Nat.le_of_ble_eq_true rfl⟩) (gp_preV hKn hG (cp_obj hcg) rfl) rfl rfl hl.1 rfl (lv_room (by simp [gcat_rf, gcat_ref, gcat_int, gcat_long, gcat_null])) dX5_keep_65 ⟨Nat.le_of_ble_eq_true rfl, Nat.le_of_ble_eq_true rfl⟩
            · have hc65 : f_X5_whoKept h0 v1 = some o65 := hc65
              exact va_runU (As := [.int v1]) (rest := [.int t60, va_rf t56]) ⟨hx, hb, hml, hown, hts⟩ (c_X5_whoKept (l := l) (D := D) (b := b) (cI := cI) (cL := cL) hc65) (va_cwU 1 hts gX5_keep_X5_whoKept_u57X7 rfl rfl rfl rfl (by decide +kernel) ⟨Nat.le_of_ble_eq_true rfl, Nat.le_of_ble_eq_true rfl⟩) (gp_preV hKn hG (cp_obj hcg) rfl) rfl rfl hl.1 rfl (lv_room (by simp [gcat_rf, gcat_ref, gcat_int, gcat_long, gcat_null])) dX5_keep_65 ⟨Nat.le_of_ble_eq_true rfl, Nat.le_of_ble_eq_true rfl⟩
            · have hc65 : f_X5_whoKept h0 v1 = some o65 := hc65
              exact va_runU (As := [.int v1]) (rest := [.int t60, va_rf t56]) ⟨hx, hb, hml, hown, hts⟩ (c_X5_whoKept (l := l) (D := D) (b := b) (cI := cI) (cL := cL) hc65) (va_cwU 1 hts gX5_keep_X5_whoKept_u57X8 rfl rfl rfl rfl (by decide +kernel) ⟨Nat.le_of_ble_eq_true rfl, Nat.le_of_ble_eq_true rfl⟩) (gp_preV hKn hG (cp_obj hcg) rfl) rfl rfl hl.1 rfl (lv_room (by simp [gcat_rf, gcat_ref, gcat_int, gcat_long, gcat_null])) dX5_keep_65 ⟨Nat.le_of_ble_eq_true rfl, Nat.le_of_ble_eq_true rfl⟩
          refine gp_callI hrun65 hS (fun H locs hG hS => ?_)
          refine lv_iload_n hx hb dX5_keep_68 rfl (lv_at hl 2 rfl) ?_
          refine lv_iload_n hx hb dX5_keep_69 rfl (lv_at hl 3 rfl) ?_
          obtain ⟨o70, hc70, hj29⟩ := gb_b hj29
          refine gp_callI (va_runS (As := [.int o65, .int v2, .int v3]) (rest := [.int t60, va_rf t56]) ⟨hx, hb, hml, hown, hts⟩ (c_X9_of (l := l) (D := D) (b := b) (cI := cI) (cL := cL) hc70) (va_cwS 3 hts gX5_keep_X9_of rfl rfl rfl (by decide +kernel) ⟨Nat.le_of_ble_eq_true rfl, Nat.le_of_ble_eq_true rfl⟩) (gp_preS hKn hG) rfl rfl hl.1 rfl (lv_room (by simp [gcat_rf, gcat_ref, gcat_int, gcat_long, gcat_null])) dX5_keep_70 ⟨Nat.le_of_ble_eq_true rfl, Nat.le_of_ble_eq_true rfl⟩) hS (fun H locs hG hS => ?_)
          obtain ⟨q73, hq73, hj29⟩ := gb_b hj29
          refine W.eq (g2 := F0 m 73 ls [.int o70, .int t60, .ref q73]) (congrArg (fun z => F0 m 73 ls [.int o70, .int t60, va_rf z]) hq73) ?_
          obtain ⟨g73, ht73, hj29⟩ := gb_b hj29
          refine cp_iast hx hb hK hG hS ht73 dX5_keep_73 (fun H locs hG hS => ?_)
          refine lv_aload_n hx hb dX5_keep_74 rfl (lv_at hl 0 rfl) ?_
          refine lv_dup hx hb dX5_keep_75 rfl ?_
          obtain ⟨t76, ht76, hj29⟩ := gb_b hj29
          refine cp_get (v := .int t76) hx hb hts gclL hown hK hG 3 (gfI_s ht76) (by decide) (hts _ (List.mem_of_getElem? (i := 1) rfl)) (fun _ h9 => h9) dX5_keep_76 ?_
          refine lv_iconst (v := 1) hx hb dX5_keep_79 (by decide) ?_
          refine lv_iadd hx hb dX5_keep_80 ?_
          obtain ⟨g81, ht81, hj29⟩ := gb_b hj29
          refine cp_put (tyk := .int) hx hb hts gclL tyX5 tyX5_ok nmX5 hown hK hG hS 3 ht81 (by decide) (hts _ (List.mem_of_getElem? (i := 1) rfl)) (fun _ h9 => h9) rfl (by decide +kernel) rfl rfl dX5_keep_81 (fun H locs hG hS => ?_)
          have hj29 := Option.some.inj hj29
          subst hj29
          exact (hJ29 H locs ls hG hS (lv_sub hl [] rfl))
  refine lv_icmp_lt (tgt := 25) hx hb dX5_keep_17 (by decide) (fun c17 => ?_) (fun c17 => ?_)
  · have hj17 := gb_t c17 hj17
    have hj17 := Option.some.inj hj17
    subst hj17
    exact (hJ17 H locs ls hG hS (lv_sub hl [0, 1, 2, 3] rfl))
  · have hj17 := gb_f c17 hj17
    refine lv_aload_n hx hb dX5_keep_20 rfl (lv_at hl 0 rfl) ?_
    refine lv_iconst (v := 0) hx hb dX5_keep_21 (by decide) ?_
    obtain ⟨o22, hc22, hj17⟩ := gb_b hj17
    have hrun22 : va_Run p l e rm_X5_keep s m [.ref h0, .int v1, .int v2, .int v3].toArray below meth c H locs 0 0 0 0 (F0 m 22 ls ([.int 0].reverse ++ .ref h0 :: [])) [] (gQ D b none M (gW cI cL o22) (Value.ref h0 :: [.int 0]).toArray) (gA b) := by
      obtain ⟨oc, hcO, hc22⟩ := gb_b hc22
      obtain ⟨hcg, hci⟩ := gfO_s hcO
      obtain ⟨kc, fc⟩ := oc
      dsimp only at hci hcg hc22
      rcases gLC_7 hci with rfl | rfl | rfl | rfl | rfl | rfl | rfl
      · exact va_runU (As := [.int 0]) (rest := []) ⟨hx, hb, hml, hown, hts⟩ (c_X5_takeOut (l := l) (D := D) (b := b) (cI := cI) (cL := cL) hc22) (va_cwU 1 hts gX5_keep_X5_takeOut_u46X0 rfl rfl rfl rfl (by decide +kernel) ⟨Nat.le_of_ble_eq_true rfl, Nat.le_of_ble_eq_true rfl⟩) (gp_preV hKn hG (cp_obj hcg) rfl) rfl rfl hl.1 rfl (lv_room (Nat.le_of_ble_eq_true rfl)) dX5_keep_22 ⟨Nat.le_of_ble_eq_true rfl, Nat.le_of_ble_eq_true rfl⟩
      · exact va_runU (As := [.int 0]) (rest := []) ⟨hx, hb, hml, hown, hts⟩ (c_X5_takeOut (l := l) (D := D) (b := b) (cI := cI) (cL := cL) hc22) (va_cwU 1 hts gX5_keep_X5_takeOut_u46X1 rfl rfl rfl rfl (by decide +kernel) ⟨Nat.le_of_ble_eq_true rfl, Nat.le_of_ble_eq_true rfl⟩) (gp_preV hKn hG (cp_obj hcg) rfl) rfl rfl hl.1 rfl (lv_room (Nat.le_of_ble_eq_true rfl)) dX5_keep_22 ⟨Nat.le_of_ble_eq_true rfl, Nat.le_of_ble_eq_true rfl⟩
      · exact va_runU (As := [.int 0]) (rest := []) ⟨hx, hb, hml, hown, hts⟩ (c_X5_takeOut (l := l) (D := D) (b := b) (cI := cI) (cL := cL) hc22) (va_cwU 1 hts gX5_keep_X5_takeOut_u46X3 rfl rfl rfl rfl (by decide +kernel) ⟨Nat.le_of_ble_eq_true rfl, Nat.le_of_ble_eq_true rfl⟩) (gp_preV hKn hG (cp_obj hcg) rfl) rfl rfl hl.1 rfl (lv_room (Nat.le_of_ble_eq_true rfl)) dX5_keep_22 ⟨Nat.le_of_ble_eq_true rfl, Nat.le_of_ble_eq_true rfl⟩
      · exact va_runU (As := [.int 0]) (rest := []) ⟨hx, hb, hml, hown, hts⟩ (c_X5_takeOut (l := l) (D := D) (b := b) (cI := cI) (cL := cL) hc22) (va_cwU 1 hts gX5_keep_X5_takeOut_u46X4 rfl rfl rfl rfl (by decide +kernel) ⟨Nat.le_of_ble_eq_true rfl, Nat.le_of_ble_eq_true rfl⟩) (gp_preV hKn hG (cp_obj hcg) rfl) rfl rfl hl.1 rfl (lv_room (Nat.le_of_ble_eq_true rfl)) dX5_keep_22 ⟨Nat.le_of_ble_eq_true rfl, Nat.le_of_ble_eq_true rfl⟩
      · exact va_runV (As := [.int 0]) (rest := []) ⟨hx, hb, hml, hown, hts⟩ (c_X5_takeOut (l := l) (D := D) (b := b) (cI := cI) (cL := cL) hc22) (cwV 1 hts gX5_keep_X5_takeOut rfl rfl rfl (by decide +kernel) ⟨Nat.le_of_ble_eq_true rfl, Nat.le_of_ble_eq_true rfl⟩) (gp_preV hKn hG (cp_obj hcg) rfl) rfl rfl hl.1 rfl (lv_room (Nat.le_of_ble_eq_true rfl)) dX5_keep_22 ⟨Nat.le_of_ble_eq_true rfl, Nat.le_of_ble_eq_true rfl⟩
      · exact va_runU (As := [.int 0]) (rest := []) ⟨hx, hb, hml, hown, hts⟩ (c_X5_takeOut (l := l) (D := D) (b := b) (cI := cI) (cL := cL) hc22) (va_cwU 1 hts gX5_keep_X5_takeOut_u46X7 rfl rfl rfl rfl (by decide +kernel) ⟨Nat.le_of_ble_eq_true rfl, Nat.le_of_ble_eq_true rfl⟩) (gp_preV hKn hG (cp_obj hcg) rfl) rfl rfl hl.1 rfl (lv_room (Nat.le_of_ble_eq_true rfl)) dX5_keep_22 ⟨Nat.le_of_ble_eq_true rfl, Nat.le_of_ble_eq_true rfl⟩
      · exact va_runU (As := [.int 0]) (rest := []) ⟨hx, hb, hml, hown, hts⟩ (c_X5_takeOut (l := l) (D := D) (b := b) (cI := cI) (cL := cL) hc22) (va_cwU 1 hts gX5_keep_X5_takeOut_u46X8 rfl rfl rfl rfl (by decide +kernel) ⟨Nat.le_of_ble_eq_true rfl, Nat.le_of_ble_eq_true rfl⟩) (gp_preV hKn hG (cp_obj hcg) rfl) rfl rfl hl.1 rfl (lv_room (Nat.le_of_ble_eq_true rfl)) dX5_keep_22 ⟨Nat.le_of_ble_eq_true rfl, Nat.le_of_ble_eq_true rfl⟩
    refine gp_callV hrun22 hS (fun H locs hG hS => ?_)
    have hj17 := Option.some.inj hj17
    subst hj17
    exact (hJ17 H locs ls hG hS (lv_sub hl [0, 1, 2, 3] rfl))
-- X5_kind
abbrev rm_X5_kind : Room := { frames := 0, cells := 0, slots := 0, locals := 0 }
set_option maxHeartbeats 4000000 in
set_option maxRecDepth 100000 in
theorem c_X5_kind {R : Int32} (hf : f_X5_kind h0 = some R) : Met l yX5_kind wsX5_kind rm_X5_kind (va_Pc [.ref h0] (gPre D b M (gh) (gTy cI cL))) (gQ D b (some (.int R)) M (gh)) 0 0 (gA b) := by
  refine gp_met (cc := cX5_kind) (maxL := 1) (ret := (some .int)) (by decide) rfl (Nat.le_of_ble_eq_true rfl) ?_
  intro p e s m below meth c X ls hG hl
  obtain ⟨H, hH0⟩ : ∃ H : Heap, H = s.heap := ⟨_, rfl⟩
  rw [← hH0] at hG ⊢
  have hS : va_S (gA b) s.heap H [] := by rw [hH0]; exact va_S.rf
  obtain ⟨locs, hlo⟩ : ∃ z : List Loc, z = [] := ⟨_, rfl⟩
  rw [← hlo] at hS ⊢
  unfold f_X5_kind at hf
  obtain ⟨hx, hb, hr, hml, hown, hts, hlocks, hKn, hBs⟩ := id X
  have hK := hKn.1
  have hl : lv_has ls 1 [(0, .ref h0)] := hl
  refine lv_iconst (v := 0) hx hb dX5_kind_0 (by decide) ?_
  have hf := Option.some.inj hf
  subst hf
  exact gp_retI hx hb hr hlocks hG hS (Nat.le_of_ble_eq_true rfl) (Nat.le_of_ble_eq_true rfl) dX5_kind_1
-- X5_leftByScenes
abbrev rm_X5_leftByScenes : Room := { frames := 2, cells := 0, slots := 0, locals := 53 }
set_option maxHeartbeats 4000000 in
set_option maxRecDepth 100000 in
theorem w_X5_leftByScenes_6 {α : Type} {R : α} {K66 : Int64 → Option α} {v0 : Nat} {v1 : Int32} {v2 : Int32} {v3 : Int64} (X : gC p s m args meth c cX5_leftByScenes 10 (some .long) wsX5_leftByScenes RX5 D b (gTy cI cL)) : ∀ (n : Nat) (v5 : Int64) (v7 : Int32), L_X5_leftByScenes_6 K66 gv v0 v1 v2 v3 n v5 v7 = some R → (∀ (x : Int64), K66 x = some R → ∀ (H : Heap) (locs : List Loc) (ls : Array Slot), GP D b M (gW cI cL gv) H → va_S (gA b) s.heap H locs → lv_has ls 10 [(5, .long x)] → W p l e rm_X5_leftByScenes s m args below meth c H locs 0 0 Q (F0 m 66 ls [])) → ∀ (H : Heap) (locs : List Loc) (ls : Array Slot), GP D b M (gW cI cL gv) H → va_S (gA b) s.heap H locs → lv_has ls 10 [(0, .ref v0), (1, .int v1), (2, .int v2), (3, .long v3), (5, .long v5), (7, .int v7)] → W p l e rm_X5_leftByScenes s m args below meth c H locs 0 0 Q (F0 m 6 ls []) := by
  obtain ⟨hx, hb, hr, hml, hown, hts, hlocks, hKn, hBs⟩ := id X
  have hK := hKn.1
  have gclL : gcl gLC TX5 5 wsX5_leftByScenes := gcl_L (fun _ h => List.mem_cons_of_mem _ (List.mem_append_left _ (List.mem_append_left _ (List.mem_append_left _ (List.mem_append_left _ (List.mem_append_left _ (List.mem_append_left _ (List.mem_append_right _ h)))))))) (fun _ h => List.mem_cons_of_mem _ (List.mem_append_left _ (List.mem_append_left _ (List.mem_append_left _ (List.mem_append_left _ (List.mem_append_left _ (List.mem_append_right _ h))))))) (fun _ h => List.mem_cons_of_mem _ (List.mem_append_left _ (List.mem_append_left _ (List.mem_append_left _ (List.mem_append_left _ (List.mem_append_right _ h)))))) (fun _ h => List.mem_cons_of_mem _ (List.mem_append_left _ (List.mem_append_left _ (List.mem_append_left _ (List.mem_append_right _ h))))) (fun _ h => List.mem_cons_of_mem _ (List.mem_append_left _ (List.mem_append_left _ (List.mem_append_right _ h)))) (fun _ h => List.mem_cons_of_mem _ (List.mem_append_left _ (List.mem_append_right _ h))) (fun _ h => List.mem_cons_of_mem _ (List.mem_append_right _ h))
  intro n
  induction n with
  | zero =>
    intro v5 v7 hf
    cases hf
  | succ n ih =>
    intro v5 v7 hf hk66 H locs ls hG hS hl
    rw [L_X5_leftByScenes_6.eq_2] at hf
    refine lv_iload hx hb dX5_leftByScenes_6 (lv_at hl 5 rfl) ?_
    refine lv_aload_n hx hb dX5_leftByScenes_8 rfl (lv_at hl 0 rfl) ?_
    obtain ⟨t9, ht9, hf⟩ := gb_b hf
    refine cp_get (v := .int t9) hx hb hts gclL hown hK hG 3 (gfI_s ht9) (by decide) (hts _ (List.mem_of_getElem? (i := 1) rfl)) (fun _ h9 => h9) dX5_leftByScenes_9 ?_
    refine lv_icmp_ge (tgt := 66) hx hb dX5_leftByScenes_12 (by decide) (fun c12 => ?_) (fun c12 => ?_)
    · have hf := gb_t c12 hf
      exact (hk66 _ hf _ _ _ hG hS (lv_sub hl [4] rfl))
    · have hf := gb_f c12 hf
      refine lv_aload_n hx hb dX5_leftByScenes_15 rfl (lv_at hl 0 rfl) ?_
      refine lv_iload hx hb dX5_leftByScenes_16 (lv_at hl 5 rfl) ?_
      obtain ⟨o18, hc18, hf⟩ := gb_b hf
      have hrun18 : va_Run p l e rm_X5_leftByScenes s m args below meth c H locs 0 0 0 0 (F0 m 18 ls ([.int v7].reverse ++ .ref v0 :: [])) [] (gQ D b (some (.int o18)) M (gW cI cL gv) (Value.ref v0 :: [.int v7]).toArray) (gA b) := by
        obtain ⟨oc, hcO, hc18⟩ := gb_b hc18
        obtain ⟨hcg, hci⟩ := gfO_s hcO
        obtain ⟨kc, fc⟩ := oc
        dsimp only at hci hcg hc18
        rcases gLC_7 hci with rfl | rfl | rfl | rfl | rfl | rfl | rfl
        · exact va_runU (As := [.int v7]) (rest := []) ⟨hx, hb, hml, hown, hts⟩ (c_X5_sceneAt (l := l) (D := D) (b := b) (cI := cI) (cL := cL) hc18) (va_cwU 1 hts gX5_leftByScenes_X5_sceneAt_u96X0 rfl rfl rfl rfl (by decide +kernel) ⟨Nat.le_of_ble_eq_true rfl, Nat.le_of_ble_eq_true rfl⟩) (gp_preV hKn hG (cp_obj hcg) rfl) rfl rfl hl.1 rfl (lv_room (Nat.le_of_ble_eq_true rfl)) dX5_leftByScenes_18 ⟨Nat.le_of_ble_eq_true rfl, Nat.le_of_ble_eq_true rfl⟩
        · exact va_runU (As := [.int v7]) (rest := []) ⟨hx, hb, hml, hown, hts⟩ (c_X5_sceneAt (l := l) (D := D) (b := b) (cI := cI) (cL := cL) hc18) (va_cwU 1 hts gX5_leftByScenes_X5_sceneAt_u96X1 rfl rfl rfl rfl (by decide +kernel) ⟨Nat.le_of_ble_eq_true rfl, Nat.le_of_ble_eq_true rfl⟩) (gp_preV hKn hG (cp_obj hcg) rfl) rfl rfl hl.1 rfl (lv_room (Nat.le_of_ble_eq_true rfl)) dX5_leftByScenes_18 ⟨Nat.le_of_ble_eq_true rfl, Nat.le_of_ble_eq_true rfl⟩
        · exact va_runU (As := [.int v7]) (rest := []) ⟨hx, hb, hml, hown, hts⟩ (c_X5_sceneAt (l := l) (D := D) (b := b) (cI := cI) (cL := cL) hc18) (va_cwU 1 hts gX5_leftByScenes_X5_sceneAt_u96X3 rfl rfl rfl rfl (by decide +kernel) ⟨Nat.le_of_ble_eq_true rfl, Nat.le_of_ble_eq_true rfl⟩) (gp_preV hKn hG (cp_obj hcg) rfl) rfl rfl hl.1 rfl (lv_room (Nat.le_of_ble_eq_true rfl)) dX5_leftByScenes_18 ⟨Nat.le_of_ble_eq_true rfl, Nat.le_of_ble_eq_true rfl⟩
        · exact va_runU (As := [.int v7]) (rest := []) ⟨hx, hb, hml, hown, hts⟩ (c_X5_sceneAt (l := l) (D := D) (b := b) (cI := cI) (cL := cL) hc18) (va_cwU 1 hts gX5_leftByScenes_X5_sceneAt_u96X4 rfl rfl rfl rfl (by decide +kernel) ⟨Nat.le_of_ble_eq_true rfl, Nat.le_of_ble_eq_true rfl⟩) (gp_preV hKn hG (cp_obj hcg) rfl) rfl rfl hl.1 rfl (lv_room (Nat.le_of_ble_eq_true rfl)) dX5_leftByScenes_18 ⟨Nat.le_of_ble_eq_true rfl, Nat.le_of_ble_eq_true rfl⟩
        · exact va_runV (As := [.int v7]) (rest := []) ⟨hx, hb, hml, hown, hts⟩ (c_X5_sceneAt (l := l) (D := D) (b := b) (cI := cI) (cL := cL) hc18) (cwV 1 hts gX5_leftByScenes_X5_sceneAt rfl rfl rfl (by decide +kernel) ⟨Nat.le_of_ble_eq_true rfl, Nat.le_of_ble_eq_true rfl⟩) (gp_preV hKn hG (cp_obj hcg) rfl) rfl rfl hl.1 rfl (lv_room (Nat.le_of_ble_eq_true rfl)) dX5_leftByScenes_18 ⟨Nat.le_of_ble_eq_true rfl, Nat.le_of_ble_eq_true rfl⟩
        · exact va_runU (As := [.int v7]) (rest := []) ⟨hx, hb, hml, hown, hts⟩ (c_X5_sceneAt (l := l) (D := D) (b := b) (cI := cI) (cL := cL) hc18) (va_cwU 1 hts gX5_leftByScenes_X5_sceneAt_u96X7 rfl rfl rfl rfl (by decide +kernel) ⟨Nat.le_of_ble_eq_true rfl, Nat.le_of_ble_eq_true rfl⟩) (gp_preV hKn hG (cp_obj hcg) rfl) rfl rfl hl.1 rfl (lv_room (Nat.le_of_ble_eq_true rfl)) dX5_leftByScenes_18 ⟨Nat.le_of_ble_eq_true rfl, Nat.le_of_ble_eq_true rfl⟩
        · exact va_runU (As := [.int v7]) (rest := []) ⟨hx, hb, hml, hown, hts⟩ (c_X5_sceneAt (l := l) (D := D) (b := b) (cI := cI) (cL := cL) hc18) (va_cwU 1 hts gX5_leftByScenes_X5_sceneAt_u96X8 rfl rfl rfl rfl (by decide +kernel) ⟨Nat.le_of_ble_eq_true rfl, Nat.le_of_ble_eq_true rfl⟩) (gp_preV hKn hG (cp_obj hcg) rfl) rfl rfl hl.1 rfl (lv_room (Nat.le_of_ble_eq_true rfl)) dX5_leftByScenes_18 ⟨Nat.le_of_ble_eq_true rfl, Nat.le_of_ble_eq_true rfl⟩
      refine gp_callI hrun18 hS (fun H locs hG hS => ?_)
      refine lv_istore (lv' := [(8, .int o18), (0, .ref v0), (1, .int v1), (2, .int v2), (3, .long v3), (5, .long v5), (7, .int v7)]) hx hb dX5_leftByScenes_21 hl (by decide) rfl (fun ls hl => ?_)
      refine lv_iload hx hb dX5_leftByScenes_23 (lv_at hl 0 rfl) ?_
      obtain ⟨o25, hc25, hf⟩ := gb_b hf
      refine gp_callI (va_runS (As := [.int o18]) (rest := []) ⟨hx, hb, hml, hown, hts⟩ (c_X9_whoIn (l := l) (D := D) (b := b) (cI := cI) (cL := cL) hc25) (va_cwS 1 hts gX5_leftByScenes_X9_whoIn rfl rfl rfl (by decide +kernel) ⟨Nat.le_of_ble_eq_true rfl, Nat.le_of_ble_eq_true rfl⟩) (gp_preS hKn hG) rfl rfl hl.1 rfl (lv_room (Nat.le_of_ble_eq_true rfl)) dX5_leftByScenes_25 ⟨Nat.le_of_ble_eq_true rfl, Nat.le_of_ble_eq_true rfl⟩) hS (fun H locs hG hS => ?_)
      refine lv_iload_n hx hb dX5_leftByScenes_28 rfl (lv_at hl 2 rfl) ?_
      obtain ⟨j29, hj29, hf⟩ := gb_b hf
      have hJ29 : ∀ (H : Heap) (locs : List Loc) (ls : Array Slot), GP D b M (gW cI cL gv) H → va_S (gA b) s.heap H locs → lv_has ls 10 [(0, .ref v0), (1, .int v1), (2, .int v2), (3, .long v3), (5, .long j29), (7, .int v7)] → W p l e rm_X5_leftByScenes s m args below meth c H locs 0 0 Q (F0 m 60 ls []) := by
        intro H locs ls hG hS hl
        refine lv_iinc (v := v7 + 1) (lv' := [(7, .int (v7 + 1)), (0, .ref v0), (1, .int v1), (2, .int v2), (3, .long v3), (5, .long j29)]) hx hb dX5_leftByScenes_60 hl (k := 5) rfl rfl (by decide) rfl (fun ls hl => ?_)
        refine lv_goto (tgt := 6) hx hb dX5_leftByScenes_63 (by decide) ?_
        exact ih _ _ hf hk66 _ _ _ hG hS (lv_sub hl [1, 2, 3, 4, 5, 0] rfl)
      refine lv_icmp_ne (tgt := 60) hx hb dX5_leftByScenes_29 (by decide) (fun c29 => ?_) (fun c29 => ?_)
      · have hj29 := gb_f c29 hj29
        have hj29 := Option.some.inj hj29
        subst hj29
        exact (hJ29 H locs ls hG hS (lv_sub hl [1, 2, 3, 4, 5, 6] rfl))
      · have hj29 := gb_t c29 hj29
        refine lv_iload_n hx hb dX5_leftByScenes_32 rfl (lv_at hl 3 rfl) ?_
        refine lv_iload hx hb dX5_leftByScenes_33 (lv_at hl 0 rfl) ?_
        obtain ⟨o35, hc35, hj29⟩ := gb_b hj29
        refine gp_callI (va_runS (As := [.int o18]) (rest := [.int v2]) ⟨hx, hb, hml, hown, hts⟩ (c_X9_minuteIn (l := l) (D := D) (b := b) (cI := cI) (cL := cL) hc35) (va_cwS 1 hts gX5_leftByScenes_X9_minuteIn rfl rfl rfl (by decide +kernel) ⟨Nat.le_of_ble_eq_true rfl, Nat.le_of_ble_eq_true rfl⟩) (gp_preS hKn hG) rfl rfl hl.1 rfl (lv_room (Nat.le_of_ble_eq_true rfl)) dX5_leftByScenes_35 ⟨Nat.le_of_ble_eq_true rfl, Nat.le_of_ble_eq_true rfl⟩) hS (fun H locs hG hS => ?_)
        refine lv_isub hx hb dX5_leftByScenes_38 ?_
        refine va_mabs hx hb (hml.trans hl.1.symm) hown (hts _ (List.mem_of_getElem? (i := 2) rfl)) (hts _ (List.mem_of_getElem? (i := 3) rfl)) (hts _ (List.mem_of_getElem? (i := 4) rfl)) (hts _ (List.mem_of_getElem? (i := 5) rfl)) (Nat.le_of_ble_eq_true rfl) (Nat.le_of_ble_eq_true rfl) (Nat.le_of_ble_eq_true rfl) (Nat.le_of_ble_eq_true rfl) dX5_leftByScenes_39 ?_
        refine lv_istore (lv' := [(9, .int (if 0 ≤ (v2 - o35) then v2 - o35 else 0 - (v2 - o35))), (8, .int o18), (0, .ref v0), (1, .int v1), (2, .int v2), (3, .long v3), (5, .long v5), (7, .int v7)]) hx hb dX5_leftByScenes_42 hl (by decide) rfl (fun ls hl => ?_)
        refine lv_lload hx hb dX5_leftByScenes_44 (lv_at hl 6 rfl) ?_
        refine lv_iload hx hb dX5_leftByScenes_46 (lv_at hl 1 rfl) ?_
        obtain ⟨o48, hc48, hj29⟩ := gb_b hj29
        refine gp_callI (va_runS (As := [.int o18]) (rest := [.long v5]) ⟨hx, hb, hml, hown, hts⟩ (c_X9_cellIn (l := l) (D := D) (b := b) (cI := cI) (cL := cL) hc48) (va_cwS 1 hts gX5_leftByScenes_X9_cellIn rfl rfl rfl (by decide +kernel) ⟨Nat.le_of_ble_eq_true rfl, Nat.le_of_ble_eq_true rfl⟩) (gp_preS hKn hG) rfl rfl hl.1 rfl (lv_room (Nat.le_of_ble_eq_true rfl)) dX5_leftByScenes_48 ⟨Nat.le_of_ble_eq_true rfl, Nat.le_of_ble_eq_true rfl⟩) hS (fun H locs hG hS => ?_)
        refine lv_iload hx hb dX5_leftByScenes_51 (lv_at hl 0 rfl) ?_
        refine lv_lload_n hx hb dX5_leftByScenes_53 rfl (lv_at hl 5 rfl) ?_
        obtain ⟨o54, hc54, hj29⟩ := gb_b hj29
        refine gp_callL (va_runS (As := [.int o48, .int (if 0 ≤ (v2 - o35) then v2 - o35 else 0 - (v2 - o35)), .long v3]) (rest := [.long v5]) ⟨hx, hb, hml, hown, hts⟩ (c_X2_within (l := l) (D := D) (b := b) (cI := cI) (cL := cL) hc54) (va_cwS 3 hts gX5_leftByScenes_X2_within rfl rfl rfl (by decide +kernel) ⟨Nat.le_of_ble_eq_true rfl, Nat.le_of_ble_eq_true rfl⟩) (gp_preS hKn hG) rfl rfl hl.1 rfl (lv_room (Nat.le_of_ble_eq_true rfl)) dX5_leftByScenes_54 ⟨Nat.le_of_ble_eq_true rfl, Nat.le_of_ble_eq_true rfl⟩) hS (fun H locs hG hS => ?_)
        refine lv_land hx hb dX5_leftByScenes_57 ?_
        refine lv_lstore (lv' := [(5, .long (v5 &&& o54)), (9, .int (if 0 ≤ (v2 - o35) then v2 - o35 else 0 - (v2 - o35))), (8, .int o18), (0, .ref v0), (1, .int v1), (2, .int v2), (3, .long v3), (7, .int v7)]) hx hb dX5_leftByScenes_58 hl (by decide) rfl (fun ls hl => ?_)
        have hj29 := Option.some.inj hj29
        subst hj29
        exact (hJ29 H locs ls hG hS (lv_sub hl [3, 4, 5, 6, 0, 7] rfl))
set_option maxHeartbeats 4000000 in
set_option maxRecDepth 100000 in
theorem c_X5_leftByScenes {v1 : Int32} {v2 : Int32} {v3 : Int64} {R : Int64} (hf : f_X5_leftByScenes gv h0 v1 v2 v3 = some R) : Met l yX5_leftByScenes wsX5_leftByScenes rm_X5_leftByScenes (va_Pc [.ref h0, .int v1, .int v2, .long v3] (gPre D b M (gW cI cL gv) (gTy cI cL))) (gQ D b (some (.long R)) M (gW cI cL gv)) 0 0 (gA b) := by
  refine gp_met (cc := cX5_leftByScenes) (maxL := 10) (ret := (some .long)) (by decide) rfl (Nat.le_of_ble_eq_true rfl) ?_
  intro p e s m below meth c X ls hG hl
  obtain ⟨H, hH0⟩ : ∃ H : Heap, H = s.heap := ⟨_, rfl⟩
  rw [← hH0] at hG ⊢
  have hS : va_S (gA b) s.heap H [] := by rw [hH0]; exact va_S.rf
  obtain ⟨locs, hlo⟩ : ∃ z : List Loc, z = [] := ⟨_, rfl⟩
  rw [← hlo] at hS ⊢
  unfold f_X5_leftByScenes at hf
  obtain ⟨hx, hb, hr, hml, hown, hts, hlocks, hKn, hBs⟩ := id X
  have hK := hKn.1
  have gclL : gcl gLC TX5 5 wsX5_leftByScenes := gcl_L (fun _ h => List.mem_cons_of_mem _ (List.mem_append_left _ (List.mem_append_left _ (List.mem_append_left _ (List.mem_append_left _ (List.mem_append_left _ (List.mem_append_left _ (List.mem_append_right _ h)))))))) (fun _ h => List.mem_cons_of_mem _ (List.mem_append_left _ (List.mem_append_left _ (List.mem_append_left _ (List.mem_append_left _ (List.mem_append_left _ (List.mem_append_right _ h))))))) (fun _ h => List.mem_cons_of_mem _ (List.mem_append_left _ (List.mem_append_left _ (List.mem_append_left _ (List.mem_append_left _ (List.mem_append_right _ h)))))) (fun _ h => List.mem_cons_of_mem _ (List.mem_append_left _ (List.mem_append_left _ (List.mem_append_left _ (List.mem_append_right _ h))))) (fun _ h => List.mem_cons_of_mem _ (List.mem_append_left _ (List.mem_append_left _ (List.mem_append_right _ h)))) (fun _ h => List.mem_cons_of_mem _ (List.mem_append_left _ (List.mem_append_right _ h))) (fun _ h => List.mem_cons_of_mem _ (List.mem_append_right _ h))
  have hl : lv_has ls 10 [(0, .ref h0), (1, .int v1), (2, .int v2), (3, .long v3)] := hl
  refine lv_lload_n hx hb dX5_leftByScenes_0 rfl (lv_at hl 3 rfl) ?_
  refine lv_lstore (lv' := [(5, .long v3), (0, .ref h0), (1, .int v1), (2, .int v2), (3, .long v3)]) hx hb dX5_leftByScenes_1 hl (by decide) rfl (fun ls hl => ?_)
  refine lv_iconst (v := 0) hx hb dX5_leftByScenes_3 (by decide) ?_
  refine lv_istore (lv' := [(7, .int 0), (5, .long v3), (0, .ref h0), (1, .int v1), (2, .int v2), (3, .long v3)]) hx hb dX5_leftByScenes_4 hl (by decide) rfl (fun ls hl => ?_)
  refine w_X5_leftByScenes_6 X _ _ _ hf (fun x6_66 hf H locs ls hG hS hl => ?_) _ _ _ hG hS (lv_sub hl [2, 3, 4, 5, 1, 0] rfl)
  · refine lv_lload hx hb dX5_leftByScenes_66 (lv_at hl 0 rfl) ?_
    have hf := Option.some.inj hf
    subst hf
    exact gp_retL hx hb hr hlocks hG hS (Nat.le_of_ble_eq_true rfl) (Nat.le_of_ble_eq_true rfl) dX5_leftByScenes_68
end
