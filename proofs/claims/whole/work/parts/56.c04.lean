section
variable {p : Program} {l : Launch} {e : Env} {s : State} {m : MethodId} {args : Array Value} {below : List Frame} {meth : Method} {c : Code} {D : va_G} {b : GB} {M : Nat} {cI cL : ClassId} {h0 : Nat} {gv : Nat → GV} {gh : Nat → va_E} {Q : State → Prop}
-- X3_kind
abbrev rm_X3_kind : Room := { frames := 0, cells := 0, slots := 0, locals := 0 }
set_option maxHeartbeats 4000000 in
set_option maxRecDepth 100000 in
theorem c_X3_kind {R : Int32} (hf : f_X3_kind h0 = some R) : Met l yX3_kind wsX3_kind rm_X3_kind (va_Pc [.ref h0] (gPre D b M (gh) (gTy cI cL))) (gQ D b (some (.int R)) M (gh)) 0 0 (gA b) := by
  refine gp_met (cc := cX3_kind) (maxL := 1) (ret := (some .int)) (by decide) rfl (Nat.le_of_ble_eq_true rfl) ?_
  intro p e s m below meth c X ls hG hl
  obtain ⟨H, hH0⟩ : ∃ H : Heap, H = s.heap := ⟨_, rfl⟩
  rw [← hH0] at hG ⊢
  have hS : va_S (gA b) s.heap H [] := by rw [hH0]; exact va_S.rf
  obtain ⟨locs, hlo⟩ : ∃ z : List Loc, z = [] := ⟨_, rfl⟩
  rw [← hlo] at hS ⊢
  unfold f_X3_kind at hf
  obtain ⟨hx, hb, hr, hml, hown, hts, hlocks, hKn, hBs⟩ := id X
  have hK := hKn.1
  have hl : lv_has ls 1 [(0, .ref h0)] := hl
  refine lv_iconst (v := 1) hx hb dX3_kind_0 (by decide) ?_
  have hf := Option.some.inj hf
  subst hf
  exact gp_retI hx hb hr hlocks hG hS (Nat.le_of_ble_eq_true rfl) (Nat.le_of_ble_eq_true rfl) dX3_kind_1
-- X3_whoKept
abbrev rm_X3_whoKept : Room := { frames := 0, cells := 0, slots := 0, locals := 0 }
set_option maxHeartbeats 4000000 in
set_option maxRecDepth 100000 in
theorem c_X3_whoKept {v1 : Int32} {R : Int32} (hf : f_X3_whoKept h0 v1 = some R) : Met l yX3_whoKept wsX3_whoKept rm_X3_whoKept (va_Pc [.ref h0, .int v1] (gPre D b M (gh) (gTy cI cL))) (gQ D b (some (.int R)) M (gh)) 0 0 (gA b) := by
  refine gp_met (cc := cX3_whoKept) (maxL := 2) (ret := (some .int)) (by decide) rfl (Nat.le_of_ble_eq_true rfl) ?_
  intro p e s m below meth c X ls hG hl
  obtain ⟨H, hH0⟩ : ∃ H : Heap, H = s.heap := ⟨_, rfl⟩
  rw [← hH0] at hG ⊢
  have hS : va_S (gA b) s.heap H [] := by rw [hH0]; exact va_S.rf
  obtain ⟨locs, hlo⟩ : ∃ z : List Loc, z = [] := ⟨_, rfl⟩
  rw [← hlo] at hS ⊢
  unfold f_X3_whoKept at hf
  obtain ⟨hx, hb, hr, hml, hown, hts, hlocks, hKn, hBs⟩ := id X
  have hK := hKn.1
  have hl : lv_has ls 2 [(0, .ref h0), (1, .int v1)] := hl
  refine lv_bipush (v := 9) hx hb dX3_whoKept_0 (by decide) ?_
  have hf := Option.some.inj hf
  subst hf
  exact gp_retI hx hb hr hlocks hG hS (Nat.le_of_ble_eq_true rfl) (Nat.le_of_ble_eq_true rfl) dX3_whoKept_2
-- X8_init
abbrev rm_X8_init : Room := { frames := 2, cells := 1, slots := 9, locals := 48 }
set_option maxHeartbeats 4000000 in
set_option maxRecDepth 100000 in
theorem c_X8_init {R : (Nat → GV) × Nat} (hf : f_X8_init gv M h0 = some R) : Met l yX8_init wsX8_init rm_X8_init (va_Pc [.ref h0] (gPre D b M (gW cI cL gv) (gTy cI cL))) (gQ D b none R.2 (gW cI cL R.1)) 1 9 (gA b) := by
  refine gp_metI (cc := cX8_init) (maxL := 1) (ret := none) (by decide) rfl (Nat.le_of_ble_eq_true rfl) ?_
  intro p e s m below meth c X hin0 ls hG hl
  obtain ⟨H, hH0⟩ : ∃ H : Heap, H = s.heap := ⟨_, rfl⟩
  rw [← hH0] at hG ⊢
  have hS : va_S (gA b) s.heap H [] := by rw [hH0]; exact va_S.rf
  obtain ⟨locs, hlo⟩ : ∃ z : List Loc, z = [] := ⟨_, rfl⟩
  rw [← hlo] at hS ⊢
  unfold f_X8_init at hf
  obtain ⟨hx, hb, hr, hml, hown, hts, hlocks, hKn, hBs⟩ := id X
  have hK := hKn.1
  have hl : lv_has ls 1 [(0, .ref h0)] := hl
  refine lv_aload_n hx hb dX8_init_0 rfl (lv_at hl 0 rfl) ?_
  obtain ⟨o1, hc1, hf⟩ := gb_b hf
  refine gp_callV (va_runIN (As := []) (rest := []) ⟨hx, hb, hml, hown, hts⟩ (c_X5_init (l := l) (D := D) (b := b) (cI := cI) (cL := cL) hc1) ⟨va_cnB 0 hts gX8_init_X5_init_n3 rfl rfl rfl (hKn.2.1 _ (List.mem_of_getElem? (i := 11) rfl)) (hts _ (List.mem_of_getElem? (i := 2) rfl)) (by decide +kernel) ⟨Nat.le_of_ble_eq_true rfl, Nat.le_of_ble_eq_true rfl⟩, rfl, (hts _ (List.mem_of_getElem? (i := 1) rfl))⟩ (gp_preS hKn hG) rfl rfl hl.1 rfl (lv_room (Nat.le_of_ble_eq_true rfl)) dX8_init_1 ⟨Nat.le_of_ble_eq_true rfl, Nat.le_of_ble_eq_true rfl⟩) hS (fun H locs hG hS => ?_)
  have hf := Option.some.inj hf
  subst hf
  exact gp_retV hx hb hr hlocks hG hS (Nat.le_of_ble_eq_true rfl) (Nat.le_of_ble_eq_true rfl) dX8_init_4
-- X4_init
abbrev rm_X4_init : Room := { frames := 3, cells := 1, slots := 9, locals := 68 }
set_option maxHeartbeats 4000000 in
set_option maxRecDepth 100000 in
theorem c_X4_init {R : (Nat → GV) × Nat} (hf : f_X4_init gv M h0 = some R) : Met l yX4_init wsX4_init rm_X4_init (va_Pc [.ref h0] (gPre D b M (gW cI cL gv) (gTy cI cL))) (gQ D b none R.2 (gW cI cL R.1)) 1 9 (gA b) := by
  refine gp_metI (cc := cX4_init) (maxL := 1) (ret := none) (by decide) rfl (Nat.le_of_ble_eq_true rfl) ?_
  intro p e s m below meth c X hin0 ls hG hl
  obtain ⟨H, hH0⟩ : ∃ H : Heap, H = s.heap := ⟨_, rfl⟩
  rw [← hH0] at hG ⊢
  have hS : va_S (gA b) s.heap H [] := by rw [hH0]; exact va_S.rf
  obtain ⟨locs, hlo⟩ : ∃ z : List Loc, z = [] := ⟨_, rfl⟩
  rw [← hlo] at hS ⊢
  unfold f_X4_init at hf
  obtain ⟨hx, hb, hr, hml, hown, hts, hlocks, hKn, hBs⟩ := id X
  have hK := hKn.1
  have hl : lv_has ls 1 [(0, .ref h0)] := hl
  refine lv_aload_n hx hb dX4_init_0 rfl (lv_at hl 0 rfl) ?_
  obtain ⟨o1, hc1, hf⟩ := gb_b hf
  refine gp_callV (va_runIN (As := []) (rest := []) ⟨hx, hb, hml, hown, hts⟩ (c_X8_init (l := l) (D := D) (b := b) (cI := cI) (cL := cL) hc1) ⟨va_cnB 0 hts gX4_init_X8_init_n1 rfl rfl rfl (hKn.2.1 _ (List.mem_of_getElem? (i := 13) rfl)) (hts _ (List.mem_of_getElem? (i := 2) rfl)) (by decide +kernel) ⟨Nat.le_of_ble_eq_true rfl, Nat.le_of_ble_eq_true rfl⟩, rfl, (hts _ (List.mem_of_getElem? (i := 1) rfl))⟩ (gp_preS hKn hG) rfl rfl hl.1 rfl (lv_room (Nat.le_of_ble_eq_true rfl)) dX4_init_1 ⟨Nat.le_of_ble_eq_true rfl, Nat.le_of_ble_eq_true rfl⟩) hS (fun H locs hG hS => ?_)
  have hf := Option.some.inj hf
  subst hf
  exact gp_retV hx hb hr hlocks hG hS (Nat.le_of_ble_eq_true rfl) (Nat.le_of_ble_eq_true rfl) dX4_init_4
-- X4_kind
abbrev rm_X4_kind : Room := { frames := 0, cells := 0, slots := 0, locals := 0 }
set_option maxHeartbeats 4000000 in
set_option maxRecDepth 100000 in
theorem c_X4_kind {R : Int32} (hf : f_X4_kind h0 = some R) : Met l yX4_kind wsX4_kind rm_X4_kind (va_Pc [.ref h0] (gPre D b M (gh) (gTy cI cL))) (gQ D b (some (.int R)) M (gh)) 0 0 (gA b) := by
  refine gp_met (cc := cX4_kind) (maxL := 1) (ret := (some .int)) (by decide) rfl (Nat.le_of_ble_eq_true rfl) ?_
  intro p e s m below meth c X ls hG hl
  obtain ⟨H, hH0⟩ : ∃ H : Heap, H = s.heap := ⟨_, rfl⟩
  rw [← hH0] at hG ⊢
  have hS : va_S (gA b) s.heap H [] := by rw [hH0]; exact va_S.rf
  obtain ⟨locs, hlo⟩ : ∃ z : List Loc, z = [] := ⟨_, rfl⟩
  rw [← hlo] at hS ⊢
  unfold f_X4_kind at hf
  obtain ⟨hx, hb, hr, hml, hown, hts, hlocks, hKn, hBs⟩ := id X
  have hK := hKn.1
  have hl : lv_has ls 1 [(0, .ref h0)] := hl
  refine lv_bipush (v := 6) hx hb dX4_kind_0 (by decide) ?_
  have hf := Option.some.inj hf
  subst hf
  exact gp_retI hx hb hr hlocks hG hS (Nat.le_of_ble_eq_true rfl) (Nat.le_of_ble_eq_true rfl) dX4_kind_2
-- X4_showsOldestFirst
abbrev rm_X4_showsOldestFirst : Room := { frames := 0, cells := 0, slots := 0, locals := 0 }
set_option maxHeartbeats 4000000 in
set_option maxRecDepth 100000 in
theorem c_X4_showsOldestFirst {R : Int32} (hf : f_X4_showsOldestFirst h0 = some R) : Met l yX4_showsOldestFirst wsX4_showsOldestFirst rm_X4_showsOldestFirst (va_Pc [.ref h0] (gPre D b M (gh) (gTy cI cL))) (gQ D b (some (.int R)) M (gh)) 0 0 (gA b) := by
  refine gp_met (cc := cX4_showsOldestFirst) (maxL := 1) (ret := (some .boolean)) (by decide) rfl (Nat.le_of_ble_eq_true rfl) ?_
  intro p e s m below meth c X ls hG hl
  obtain ⟨H, hH0⟩ : ∃ H : Heap, H = s.heap := ⟨_, rfl⟩
  rw [← hH0] at hG ⊢
  have hS : va_S (gA b) s.heap H [] := by rw [hH0]; exact va_S.rf
  obtain ⟨locs, hlo⟩ : ∃ z : List Loc, z = [] := ⟨_, rfl⟩
  rw [← hlo] at hS ⊢
  unfold f_X4_showsOldestFirst at hf
  obtain ⟨hx, hb, hr, hml, hown, hts, hlocks, hKn, hBs⟩ := id X
  have hK := hKn.1
  have hl : lv_has ls 1 [(0, .ref h0)] := hl
  refine lv_iconst (v := 1) hx hb dX4_showsOldestFirst_0 (by decide) ?_
  have hf := Option.some.inj hf
  subst hf
  exact gp_retZ hx hb hr (Or.inr rfl) hlocks hG hS (Nat.le_of_ble_eq_true rfl) (Nat.le_of_ble_eq_true rfl) dX4_showsOldestFirst_1
-- X5_breakDown
abbrev rm_X5_breakDown : Room := { frames := 0, cells := 0, slots := 0, locals := 0 }
set_option maxHeartbeats 4000000 in
set_option maxRecDepth 100000 in
theorem c_X5_breakDown {R : (Nat → GV)} (hf : f_X5_breakDown gv h0 = some R) : Met l yX5_breakDown wsX5_breakDown rm_X5_breakDown (va_Pc [.ref h0] (gPre D b M (gW cI cL gv) (gTy cI cL))) (gQ D b none M (gW cI cL R)) 0 0 (gA b) := by
  refine gp_met (cc := cX5_breakDown) (maxL := 1) (ret := none) (by decide) rfl (Nat.le_of_ble_eq_true rfl) ?_
  intro p e s m below meth c X ls hG hl
  obtain ⟨H, hH0⟩ : ∃ H : Heap, H = s.heap := ⟨_, rfl⟩
  rw [← hH0] at hG ⊢
  have hS : va_S (gA b) s.heap H [] := by rw [hH0]; exact va_S.rf
  obtain ⟨locs, hlo⟩ : ∃ z : List Loc, z = [] := ⟨_, rfl⟩
  rw [← hlo] at hS ⊢
  unfold f_X5_breakDown at hf
  obtain ⟨hx, hb, hr, hml, hown, hts, hlocks, hKn, hBs⟩ := id X
  have hK := hKn.1
  have gclL : gcl gLC TX5 5 wsX5_breakDown := gcl_L (fun _ h => List.mem_cons_of_mem _ (List.mem_append_left _ (List.mem_append_left _ (List.mem_append_left _ (List.mem_append_left _ (List.mem_append_left _ (List.mem_append_left _ (List.mem_append_right _ h)))))))) (fun _ h => List.mem_cons_of_mem _ (List.mem_append_left _ (List.mem_append_left _ (List.mem_append_left _ (List.mem_append_left _ (List.mem_append_left _ (List.mem_append_right _ h))))))) (fun _ h => List.mem_cons_of_mem _ (List.mem_append_left _ (List.mem_append_left _ (List.mem_append_left _ (List.mem_append_left _ (List.mem_append_right _ h)))))) (fun _ h => List.mem_cons_of_mem _ (List.mem_append_left _ (List.mem_append_left _ (List.mem_append_left _ (List.mem_append_right _ h))))) (fun _ h => List.mem_cons_of_mem _ (List.mem_append_left _ (List.mem_append_left _ (List.mem_append_right _ h)))) (fun _ h => List.mem_cons_of_mem _ (List.mem_append_left _ (List.mem_append_right _ h))) (fun _ h => List.mem_cons_of_mem _ (List.mem_append_right _ h))
  have hl : lv_has ls 1 [(0, .ref h0)] := hl
  refine lv_aload_n hx hb dX5_breakDown_0 rfl (lv_at hl 0 rfl) ?_
  refine lv_iconst (v := 0) hx hb dX5_breakDown_1 (by decide) ?_
  obtain ⟨g2, ht2, hf⟩ := gb_b hf
  refine cp_put (tyk := .int) hx hb hts gclL tyX5 tyX5_ok nmX5 hown hK hG hS 3 ht2 (by decide) (hts _ (List.mem_of_getElem? (i := 1) rfl)) (fun _ h9 => h9) rfl (by decide +kernel) rfl rfl dX5_breakDown_2 (fun H locs hG hS => ?_)
  refine lv_aload_n hx hb dX5_breakDown_5 rfl (lv_at hl 0 rfl) ?_
  refine lv_iconst (v := 0) hx hb dX5_breakDown_6 (by decide) ?_
  obtain ⟨g7, ht7, hf⟩ := gb_b hf
  refine cp_put (tyk := .boolean) hx hb hts gclL tyX5 tyX5_ok nmX5 hown hK hG hS 2 ht7 (by decide) (hts _ (List.mem_of_getElem? (i := 2) rfl)) (fun _ h9 => h9) rfl (by decide +kernel) (by decide) (by decide) dX5_breakDown_7 (fun H locs hG hS => ?_)
  have hf := Option.some.inj hf
  subst hf
  exact gp_retV hx hb hr hlocks hG hS (Nat.le_of_ble_eq_true rfl) (Nat.le_of_ble_eq_true rfl) dX5_breakDown_10
-- X5_cellNow
abbrev rm_X5_cellNow : Room := { frames := 0, cells := 0, slots := 0, locals := 0 }
set_option maxHeartbeats 4000000 in
set_option maxRecDepth 100000 in
theorem c_X5_cellNow {v1 : Option Nat} {R : Int32} (hf : f_X5_cellNow gv h0 v1 = some R) : Met l yX5_cellNow wsX5_cellNow rm_X5_cellNow (va_Pc [.ref h0, va_rf v1] (gPre D b M (gW cI cL gv) (gTy cI cL))) (gQ D b (some (.int R)) M (gW cI cL gv)) 0 0 (gA b) := by
  refine gp_met (cc := cX5_cellNow) (maxL := 2) (ret := (some .int)) (by decide) rfl (by simp [lg_sl, gcat_rf, gcat_ref, gcat_int, gcat_long]) ?_
  intro p e s m below meth c X ls hG hl
  obtain ⟨H, hH0⟩ : ∃ H : Heap, H = s.heap := ⟨_, rfl⟩
  rw [← hH0] at hG ⊢
  have hS : va_S (gA b) s.heap H [] := by rw [hH0]; exact va_S.rf
  obtain ⟨locs, hlo⟩ : ∃ z : List Loc, z = [] := ⟨_, rfl⟩
  rw [← hlo] at hS ⊢
  unfold f_X5_cellNow at hf
  obtain ⟨hx, hb, hr, hml, hown, hts, hlocks, hKn, hBs⟩ := id X
  have hK := hKn.1
  have gclL : gcl gLC TX5 5 wsX5_cellNow := gcl_L (fun _ h => List.mem_cons_of_mem _ (List.mem_append_left _ (List.mem_append_left _ (List.mem_append_left _ (List.mem_append_left _ (List.mem_append_left _ (List.mem_append_left _ (List.mem_append_right _ h)))))))) (fun _ h => List.mem_cons_of_mem _ (List.mem_append_left _ (List.mem_append_left _ (List.mem_append_left _ (List.mem_append_left _ (List.mem_append_left _ (List.mem_append_right _ h))))))) (fun _ h => List.mem_cons_of_mem _ (List.mem_append_left _ (List.mem_append_left _ (List.mem_append_left _ (List.mem_append_left _ (List.mem_append_right _ h)))))) (fun _ h => List.mem_cons_of_mem _ (List.mem_append_left _ (List.mem_append_left _ (List.mem_append_left _ (List.mem_append_right _ h))))) (fun _ h => List.mem_cons_of_mem _ (List.mem_append_left _ (List.mem_append_left _ (List.mem_append_right _ h)))) (fun _ h => List.mem_cons_of_mem _ (List.mem_append_left _ (List.mem_append_right _ h))) (fun _ h => List.mem_cons_of_mem _ (List.mem_append_right _ h))
  have hl : lv_has ls 2 [(0, .ref h0), (1, va_rf v1)] := by simpa [lv_args, gcat_rf, gcat_ref, gcat_int, gcat_long] using hl
  refine lv_aload_n hx hb dX5_cellNow_0 rfl (lv_at hl 0 rfl) ?_
  obtain ⟨t1, ht1, hf⟩ := gb_b hf
  refine cp_get (v := .int t1) hx hb hts gclL hown hK hG 0 (gfI_s ht1) (by decide) (hts _ (List.mem_of_getElem? (i := 1) rfl)) (fun _ h9 => h9) dX5_cellNow_1 ?_
  have hf := Option.some.inj hf
  subst hf
  exact gp_retI hx hb hr hlocks hG hS (Nat.le_of_ble_eq_true rfl) (Nat.le_of_ble_eq_true rfl) dX5_cellNow_4
-- X5_sceneAt
abbrev rm_X5_sceneAt : Room := { frames := 0, cells := 0, slots := 0, locals := 0 }
set_option maxHeartbeats 4000000 in
set_option maxRecDepth 100000 in
theorem c_X5_sceneAt {v1 : Int32} {R : Int32} (hf : f_X5_sceneAt gv h0 v1 = some R) : Met l yX5_sceneAt wsX5_sceneAt rm_X5_sceneAt (va_Pc [.ref h0, .int v1] (gPre D b M (gW cI cL gv) (gTy cI cL))) (gQ D b (some (.int R)) M (gW cI cL gv)) 0 0 (gA b) := by
  refine gp_met (cc := cX5_sceneAt) (maxL := 2) (ret := (some .int)) (by decide) rfl (Nat.le_of_ble_eq_true rfl) ?_
  intro p e s m below meth c X ls hG hl
  obtain ⟨H, hH0⟩ : ∃ H : Heap, H = s.heap := ⟨_, rfl⟩
  rw [← hH0] at hG ⊢
  have hS : va_S (gA b) s.heap H [] := by rw [hH0]; exact va_S.rf
  obtain ⟨locs, hlo⟩ : ∃ z : List Loc, z = [] := ⟨_, rfl⟩
  rw [← hlo] at hS ⊢
  unfold f_X5_sceneAt at hf
  obtain ⟨hx, hb, hr, hml, hown, hts, hlocks, hKn, hBs⟩ := id X
  have hK := hKn.1
  have gclL : gcl gLC TX5 5 wsX5_sceneAt := gcl_L (fun _ h => List.mem_cons_of_mem _ (List.mem_append_left _ (List.mem_append_left _ (List.mem_append_left _ (List.mem_append_left _ (List.mem_append_left _ (List.mem_append_left _ (List.mem_append_right _ h)))))))) (fun _ h => List.mem_cons_of_mem _ (List.mem_append_left _ (List.mem_append_left _ (List.mem_append_left _ (List.mem_append_left _ (List.mem_append_left _ (List.mem_append_right _ h))))))) (fun _ h => List.mem_cons_of_mem _ (List.mem_append_left _ (List.mem_append_left _ (List.mem_append_left _ (List.mem_append_left _ (List.mem_append_right _ h)))))) (fun _ h => List.mem_cons_of_mem _ (List.mem_append_left _ (List.mem_append_left _ (List.mem_append_left _ (List.mem_append_right _ h))))) (fun _ h => List.mem_cons_of_mem _ (List.mem_append_left _ (List.mem_append_left _ (List.mem_append_right _ h)))) (fun _ h => List.mem_cons_of_mem _ (List.mem_append_left _ (List.mem_append_right _ h))) (fun _ h => List.mem_cons_of_mem _ (List.mem_append_right _ h))
  have hl : lv_has ls 2 [(0, .ref h0), (1, .int v1)] := hl
  refine lv_iload_n hx hb dX5_sceneAt_0 rfl (lv_at hl 1 rfl) ?_
  obtain ⟨j1, hj1, hf⟩ := gb_b hf
  have hJ1 : ∀ (H : Heap) (locs : List Loc) (ls : Array Slot), GP D b M (gW cI cL gv) H → va_S (gA b) s.heap H locs → lv_has ls 2 [] → W p l e rm_X5_sceneAt s m [.ref h0, .int v1].toArray below meth c H locs 0 0 (MQ below (gQ D b (some (.int R)) M (gW cI cL gv)) [.ref h0, .int v1].toArray s 0 0 (gA b)) (F0 m 32 ls [.int j1]) := by
    intro H locs ls hG hS hl
    have hf := Option.some.inj hf
    subst hf
    exact gp_retI hx hb hr hlocks hG hS (Nat.le_of_ble_eq_true rfl) (Nat.le_of_ble_eq_true rfl) dX5_sceneAt_32
  refine lv_if_lt (tgt := 30) hx hb dX5_sceneAt_1 (by decide) (fun c1 => ?_) (fun c1 => ?_)
  · have hj1 := gb_t c1 hj1
    refine lv_bipush (v := (-9 : Int32)) hx hb dX5_sceneAt_30 (by decide) ?_
    have hj1 := Option.some.inj hj1
    subst hj1
    exact (hJ1 H locs ls hG hS (lv_sub hl [] rfl))
  · have hj1 := gb_f c1 hj1
    refine lv_iload_n hx hb dX5_sceneAt_4 rfl (lv_at hl 1 rfl) ?_
    refine lv_aload_n hx hb dX5_sceneAt_5 rfl (lv_at hl 0 rfl) ?_
    obtain ⟨t6, ht6, hj1⟩ := gb_b hj1
    refine cp_get (v := .int t6) hx hb hts gclL hown hK hG 3 (gfI_s ht6) (by decide) (hts _ (List.mem_of_getElem? (i := 1) rfl)) (fun _ h9 => h9) dX5_sceneAt_6 ?_
    refine lv_icmp_ge (tgt := 30) hx hb dX5_sceneAt_9 (by decide) (fun c9 => ?_) (fun c9 => ?_)
    · have hj1 := gb_t c9 hj1
      refine lv_bipush (v := (-9 : Int32)) hx hb dX5_sceneAt_30 (by decide) ?_
      have hj1 := Option.some.inj hj1
      subst hj1
      exact (hJ1 H locs ls hG hS (lv_sub hl [] rfl))
    · have hj1 := gb_f c9 hj1
      refine lv_iload_n hx hb dX5_sceneAt_12 rfl (lv_at hl 1 rfl) ?_
      refine lv_aload_n hx hb dX5_sceneAt_13 rfl (lv_at hl 0 rfl) ?_
      obtain ⟨t14, ht14, hj1⟩ := gb_b hj1
      refine cp_get (v := va_rf t14) hx hb hts gclL hown hK hG 4 (gfR_s ht14) (by decide) (hts _ (List.mem_of_getElem? (i := 2) rfl)) (fun _ h9 => h9) dX5_sceneAt_14 ?_
      obtain ⟨q17, hq17, hj1⟩ := gb_b hj1
      refine W.eq (g2 := F0 m 17 ls [.ref q17, .int v1]) (congrArg (fun z => F0 m 17 ls [va_rf z, .int v1]) hq17) ?_
      obtain ⟨t17, ht17, hj1⟩ := gb_b hj1
      refine cp_alenI hx hb hK hG ht17 dX5_sceneAt_17 ?_
      refine lv_icmp_ge (tgt := 30) hx hb dX5_sceneAt_18 (by decide) (fun c18 => ?_) (fun c18 => ?_)
      · have hj1 := gb_t c18 hj1
        refine lv_bipush (v := (-9 : Int32)) hx hb dX5_sceneAt_30 (by decide) ?_
        have hj1 := Option.some.inj hj1
        subst hj1
        exact (hJ1 H locs ls hG hS (lv_sub hl [] rfl))
      · have hj1 := gb_f c18 hj1
        refine lv_aload_n hx hb dX5_sceneAt_21 rfl (lv_at hl 0 rfl) ?_
        obtain ⟨t22, ht22, hj1⟩ := gb_b hj1
        refine cp_get (v := va_rf t22) hx hb hts gclL hown hK hG 4 (gfR_s ht22) (by decide) (hts _ (List.mem_of_getElem? (i := 2) rfl)) (fun _ h9 => h9) dX5_sceneAt_22 ?_
        refine lv_iload_n hx hb dX5_sceneAt_25 rfl (lv_at hl 1 rfl) ?_
        obtain ⟨q26, hq26, hj1⟩ := gb_b hj1
        refine W.eq (g2 := F0 m 26 ls [.int v1, .ref q26]) (congrArg (fun z => F0 m 26 ls [.int v1, va_rf z]) hq26) ?_
        obtain ⟨t26, ht26, hj1⟩ := gb_b hj1
        refine cp_iald hx hb hK hG ht26 dX5_sceneAt_26 ?_
        refine lv_goto (tgt := 32) hx hb dX5_sceneAt_27 (by decide) ?_
        have hj1 := Option.some.inj hj1
        subst hj1
        exact (hJ1 H locs ls hG hS (lv_sub hl [] rfl))
-- X9_whoIn
abbrev rm_X9_whoIn : Room := { frames := 0, cells := 0, slots := 0, locals := 0 }
set_option maxHeartbeats 4000000 in
set_option maxRecDepth 100000 in
theorem c_X9_whoIn {v0 : Int32} {R : Int32} (hf : f_X9_whoIn v0 = some R) : Met l yX9_whoIn wsX9_whoIn rm_X9_whoIn (va_Pc [.int v0] (gPre D b M (gh) (gTy cI cL))) (gQ D b (some (.int R)) M (gh)) 0 0 (gA b) := by
  refine gp_met (cc := cX9_whoIn) (maxL := 1) (ret := (some .int)) (by decide) rfl (Nat.le_of_ble_eq_true rfl) ?_
  intro p e s m below meth c X ls hG hl
  obtain ⟨H, hH0⟩ : ∃ H : Heap, H = s.heap := ⟨_, rfl⟩
  rw [← hH0] at hG ⊢
  have hS : va_S (gA b) s.heap H [] := by rw [hH0]; exact va_S.rf
  obtain ⟨locs, hlo⟩ : ∃ z : List Loc, z = [] := ⟨_, rfl⟩
  rw [← hlo] at hS ⊢
  unfold f_X9_whoIn at hf
  obtain ⟨hx, hb, hr, hml, hown, hts, hlocks, hKn, hBs⟩ := id X
  have hK := hKn.1
  have hl : lv_has ls 1 [(0, .int v0)] := hl
  refine lv_iload_n hx hb dX9_whoIn_0 rfl (lv_at hl 0 rfl) ?_
  refine lv_bipush (v := 10) hx hb dX9_whoIn_1 (by decide) ?_
  refine lv_irem hx hb dX9_whoIn_3 (by decide) ?_
  have hf := Option.some.inj hf
  subst hf
  exact gp_retI hx hb hr hlocks hG hS (Nat.le_of_ble_eq_true rfl) (Nat.le_of_ble_eq_true rfl) dX9_whoIn_4
-- X5_everSeen
abbrev rm_X5_everSeen : Room := { frames := 1, cells := 0, slots := 0, locals := 21 }
set_option maxHeartbeats 4000000 in
set_option maxRecDepth 100000 in
theorem w_X5_everSeen_4 {α : Type} {R : α} {K39 : Int32 → Option α} {v0 : Nat} (X : gC p s m args meth c cX5_everSeen 4 (some .int) wsX5_everSeen RX5 D b (gTy cI cL)) : ∀ (n : Nat) (v1 : Int32) (v2 : Int32), L_X5_everSeen_4 K39 gv v0 n v1 v2 = some R → (∀ (x : Int32), K39 x = some R → ∀ (H : Heap) (locs : List Loc) (ls : Array Slot), GP D b M (gW cI cL gv) H → va_S (gA b) s.heap H locs → lv_has ls 4 [(1, .int x)] → W p l e rm_X5_everSeen s m args below meth c H locs 0 0 Q (F0 m 39 ls [])) → ∀ (H : Heap) (locs : List Loc) (ls : Array Slot), GP D b M (gW cI cL gv) H → va_S (gA b) s.heap H locs → lv_has ls 4 [(0, .ref v0), (1, .int v1), (2, .int v2)] → W p l e rm_X5_everSeen s m args below meth c H locs 0 0 Q (F0 m 4 ls []) := by
  obtain ⟨hx, hb, hr, hml, hown, hts, hlocks, hKn, hBs⟩ := id X
  have hK := hKn.1
  have gclL : gcl gLC TX5 5 wsX5_everSeen := gcl_L (fun _ h => List.mem_cons_of_mem _ (List.mem_append_left _ (List.mem_append_left _ (List.mem_append_left _ (List.mem_append_left _ (List.mem_append_left _ (List.mem_append_left _ (List.mem_append_right _ h)))))))) (fun _ h => List.mem_cons_of_mem _ (List.mem_append_left _ (List.mem_append_left _ (List.mem_append_left _ (List.mem_append_left _ (List.mem_append_left _ (List.mem_append_right _ h))))))) (fun _ h => List.mem_cons_of_mem _ (List.mem_append_left _ (List.mem_append_left _ (List.mem_append_left _ (List.mem_append_left _ (List.mem_append_right _ h)))))) (fun _ h => List.mem_cons_of_mem _ (List.mem_append_left _ (List.mem_append_left _ (List.mem_append_left _ (List.mem_append_right _ h))))) (fun _ h => List.mem_cons_of_mem _ (List.mem_append_left _ (List.mem_append_left _ (List.mem_append_right _ h)))) (fun _ h => List.mem_cons_of_mem _ (List.mem_append_left _ (List.mem_append_right _ h))) (fun _ h => List.mem_cons_of_mem _ (List.mem_append_right _ h))
  intro n
  induction n with
  | zero =>
    intro v1 v2 hf
    cases hf
  | succ n ih =>
    intro v1 v2 hf hk39 H locs ls hG hS hl
    rw [L_X5_everSeen_4.eq_2] at hf
    refine lv_iload_n hx hb dX5_everSeen_4 rfl (lv_at hl 2 rfl) ?_
    refine lv_aload_n hx hb dX5_everSeen_5 rfl (lv_at hl 0 rfl) ?_
    obtain ⟨t6, ht6, hf⟩ := gb_b hf
    refine cp_get (v := .int t6) hx hb hts gclL hown hK hG 3 (gfI_s ht6) (by decide) (hts _ (List.mem_of_getElem? (i := 1) rfl)) (fun _ h9 => h9) dX5_everSeen_6 ?_
    refine lv_icmp_ge (tgt := 39) hx hb dX5_everSeen_9 (by decide) (fun c9 => ?_) (fun c9 => ?_)
    · have hf := gb_t c9 hf
      exact (hk39 _ hf _ _ _ hG hS (lv_sub hl [1] rfl))
    · have hf := gb_f c9 hf
      refine lv_aload_n hx hb dX5_everSeen_12 rfl (lv_at hl 0 rfl) ?_
      refine lv_iload_n hx hb dX5_everSeen_13 rfl (lv_at hl 2 rfl) ?_
      obtain ⟨o14, hc14, hf⟩ := gb_b hf
      have hrun14 : va_Run p l e rm_X5_everSeen s m args below meth c H locs 0 0 0 0 (F0 m 14 ls ([.int v2].reverse ++ .ref v0 :: [])) [] (gQ D b (some (.int o14)) M (gW cI cL gv) (Value.ref v0 :: [.int v2]).toArray) (gA b) := by
        obtain ⟨oc, hcO, hc14⟩ := gb_b hc14
        obtain ⟨hcg, hci⟩ := gfO_s hcO
        obtain ⟨kc, fc⟩ := oc
        dsimp only at hci hcg hc14
        rcases gLC_7 hci with rfl | rfl | rfl | rfl | rfl | rfl | rfl
        · exact va_runU (As := [.int v2]) (rest := []) ⟨hx, hb, hml, hown, hts⟩ (c_X5_sceneAt (l := l) (D := D) (b := b) (cI := cI) (cL := cL) hc14) (va_cwU 1 hts gX5_everSeen_X5_sceneAt_u96X0 rfl rfl rfl rfl (by decide +kernel) ⟨Nat.le_of_ble_eq_true rfl, Nat.le_of_ble_eq_true rfl⟩) (gp_preV hKn hG (cp_obj hcg) rfl) rfl rfl hl.1 rfl (lv_room (Nat.le_of_ble_eq_true rfl)) dX5_everSeen_14 ⟨Nat.le_of_ble_eq_true rfl, Nat.le_of_ble_eq_true rfl⟩
        · exact va_runU (As := [.int v2]) (rest := []) ⟨hx, hb, hml, hown, hts⟩ (c_X5_sceneAt (l := l) (D := D) (b := b) (cI := cI) (cL := cL) hc14) (va_cwU 1 hts gX5_everSeen_X5_sceneAt_u96X1 rfl rfl rfl rfl (by decide +kernel) ⟨Nat.le_of_ble_eq_true rfl, Nat.le_of_ble_eq_true rfl⟩) (gp_preV hKn hG (cp_obj hcg) rfl) rfl rfl hl.1 rfl (lv_room (Nat.le_of_ble_eq_true rfl)) dX5_everSeen_14 ⟨Nat.le_of_ble_eq_true rfl, Nat.le_of_ble_eq_true rfl⟩
        · exact va_runU (As := [.int v2]) (rest := []) ⟨hx, hb, hml, hown, hts⟩ (c_X5_sceneAt (l := l) (D := D) (b := b) (cI := cI) (cL := cL) hc14) (va_cwU 1 hts gX5_everSeen_X5_sceneAt_u96X3 rfl rfl rfl rfl (by decide +kernel) ⟨Nat.le_of_ble_eq_true rfl, Nat.le_of_ble_eq_true rfl⟩) (gp_preV hKn hG (cp_obj hcg) rfl) rfl rfl hl.1 rfl (lv_room (Nat.le_of_ble_eq_true rfl)) dX5_everSeen_14 ⟨Nat.le_of_ble_eq_true rfl, Nat.le_of_ble_eq_true rfl⟩
        · exact va_runU (As := [.int v2]) (rest := []) ⟨hx, hb, hml, hown, hts⟩ (c_X5_sceneAt (l := l) (D := D) (b := b) (cI := cI) (cL := cL) hc14) (va_cwU 1 hts gX5_everSeen_X5_sceneAt_u96X4 rfl rfl rfl rfl (by decide +kernel) ⟨Nat.le_of_ble_eq_true rfl, Nat.le_of_ble_eq_true rfl⟩) (gp_preV hKn hG (cp_obj hcg) rfl) rfl rfl hl.1 rfl (lv_room (Nat.le_of_ble_eq_true rfl)) dX5_everSeen_14 ⟨Nat.le_of_ble_eq_true rfl, Nat.le_of_ble_eq_true rfl⟩
        · exact va_runV (As := [.int v2]) (rest := []) ⟨hx, hb, hml, hown, hts⟩ (c_X5_sceneAt (l := l) (D := D) (b := b) (cI := cI) (cL := cL) hc14) (cwV 1 hts gX5_everSeen_X5_sceneAt rfl rfl rfl (by decide +kernel) ⟨Nat.le_of_ble_eq_true rfl, Nat.le_of_ble_eq_true rfl⟩) (gp_preV hKn hG (cp_obj hcg) rfl) rfl rfl hl.1 rfl (lv_room (Nat.le_of_ble_eq_true rfl)) dX5_everSeen_14 ⟨Nat.le_of_ble_eq_true rfl, Nat.le_of_ble_eq_true rfl⟩
        · exact va_runU (As := [.int v2]) (rest := []) ⟨hx, hb, hml, hown, hts⟩ (c_X5_sceneAt (l := l) (D := D) (b := b) (cI := cI) (cL := cL) hc14) (va_cwU 1 hts gX5_everSeen_X5_sceneAt_u96X7 rfl rfl rfl rfl (by decide +kernel) ⟨Nat.le_of_ble_eq_true rfl, Nat.le_of_ble_eq_true rfl⟩) (gp_preV hKn hG (cp_obj hcg) rfl) rfl rfl hl.1 rfl (lv_room (Nat.le_of_ble_eq_true rfl)) dX5_everSeen_14 ⟨Nat.le_of_ble_eq_true rfl, Nat.le_of_ble_eq_true rfl⟩
        · exact va_runU (As := [.int v2]) (rest := []) ⟨hx, hb, hml, hown, hts⟩ (c_X5_sceneAt (l := l) (D := D) (b := b) (cI := cI) (cL := cL) hc14) (va_cwU 1 hts gX5_everSeen_X5_sceneAt_u96X8 rfl rfl rfl rfl (by decide +kernel) ⟨Nat.le_of_ble_eq_true rfl, Nat.le_of_ble_eq_true rfl⟩) (gp_preV hKn hG (cp_obj hcg) rfl) rfl rfl hl.1 rfl (lv_room (Nat.le_of_ble_eq_true rfl)) dX5_everSeen_14 ⟨Nat.le_of_ble_eq_true rfl, Nat.le_of_ble_eq_true rfl⟩
      refine gp_callI hrun14 hS (fun H locs hG hS => ?_)
      obtain ⟨o17, hc17, hf⟩ := gb_b hf
      refine gp_callI (va_runS (As := [.int o14]) (rest := []) ⟨hx, hb, hml, hown, hts⟩ (c_X9_whoIn (l := l) (D := D) (b := b) (cI := cI) (cL := cL) hc17) (va_cwS 1 hts gX5_everSeen_X9_whoIn rfl rfl rfl (by decide +kernel) ⟨Nat.le_of_ble_eq_true rfl, Nat.le_of_ble_eq_true rfl⟩) (gp_preS hKn hG) rfl rfl hl.1 rfl (lv_room (Nat.le_of_ble_eq_true rfl)) dX5_everSeen_17 ⟨Nat.le_of_ble_eq_true rfl, Nat.le_of_ble_eq_true rfl⟩) hS (fun H locs hG hS => ?_)
      refine lv_istore_n (lv' := [(3, .int o17), (0, .ref v0), (1, .int v1), (2, .int v2)]) hx hb dX5_everSeen_20 rfl hl (by decide) rfl (fun ls hl => ?_)
      refine lv_iload_n hx hb dX5_everSeen_21 rfl (lv_at hl 0 rfl) ?_
      refine lv_bipush (v := 9) hx hb dX5_everSeen_22 (by decide) ?_
      obtain ⟨j24, hj24, hf⟩ := gb_b hf
      have hJ24 : ∀ (H : Heap) (locs : List Loc) (ls : Array Slot), GP D b M (gW cI cL gv) H → va_S (gA b) s.heap H locs → lv_has ls 4 [(0, .ref v0), (1, .int j24), (2, .int v2)] → W p l e rm_X5_everSeen s m args below meth c H locs 0 0 Q (F0 m 33 ls []) := by
        intro H locs ls hG hS hl
        refine lv_iinc (v := v2 + 1) (lv' := [(2, .int (v2 + 1)), (0, .ref v0), (1, .int j24)]) hx hb dX5_everSeen_33 hl (k := 2) rfl rfl (by decide) rfl (fun ls hl => ?_)
        refine lv_goto (tgt := 4) hx hb dX5_everSeen_36 (by decide) ?_
        exact ih _ _ hf hk39 _ _ _ hG hS (lv_sub hl [1, 2, 0] rfl)
      refine lv_icmp_eq (tgt := 33) hx hb dX5_everSeen_24 (by decide) (fun c24 => ?_) (fun c24 => ?_)
      · have hj24 := gb_t c24 hj24
        have hj24 := Option.some.inj hj24
        subst hj24
        exact (hJ24 H locs ls hG hS (lv_sub hl [1, 2, 3] rfl))
      · have hj24 := gb_f c24 hj24
        refine lv_iload_n hx hb dX5_everSeen_27 rfl (lv_at hl 2 rfl) ?_
        refine lv_iconst (v := 1) hx hb dX5_everSeen_28 (by decide) ?_
        refine lv_iload_n hx hb dX5_everSeen_29 rfl (lv_at hl 0 rfl) ?_
        refine lv_ishl hx hb dX5_everSeen_30 ?_
        refine lv_ior hx hb dX5_everSeen_31 ?_
        refine lv_istore_n (lv' := [(1, .int (v1 ||| ((1 : Int32) <<< (o17 &&& 31)))), (3, .int o17), (0, .ref v0), (2, .int v2)]) hx hb dX5_everSeen_32 rfl hl (by decide) rfl (fun ls hl => ?_)
        have hj24 := Option.some.inj hj24
        subst hj24
        exact (hJ24 H locs ls hG hS (lv_sub hl [2, 0, 3] rfl))
set_option maxHeartbeats 4000000 in
set_option maxRecDepth 100000 in
theorem c_X5_everSeen {R : Int32} (hf : f_X5_everSeen gv h0 = some R) : Met l yX5_everSeen wsX5_everSeen rm_X5_everSeen (va_Pc [.ref h0] (gPre D b M (gW cI cL gv) (gTy cI cL))) (gQ D b (some (.int R)) M (gW cI cL gv)) 0 0 (gA b) := by
  refine gp_met (cc := cX5_everSeen) (maxL := 4) (ret := (some .int)) (by decide) rfl (Nat.le_of_ble_eq_true rfl) ?_
  intro p e s m below meth c X ls hG hl
  obtain ⟨H, hH0⟩ : ∃ H : Heap, H = s.heap := ⟨_, rfl⟩
  rw [← hH0] at hG ⊢
  have hS : va_S (gA b) s.heap H [] := by rw [hH0]; exact va_S.rf
  obtain ⟨locs, hlo⟩ : ∃ z : List Loc, z = [] := ⟨_, rfl⟩
  rw [← hlo] at hS ⊢
  unfold f_X5_everSeen at hf
  obtain ⟨hx, hb, hr, hml, hown, hts, hlocks, hKn, hBs⟩ := id X
  have hK := hKn.1
  have gclL : gcl gLC TX5 5 wsX5_everSeen := gcl_L (fun _ h => List.mem_cons_of_mem _ (List.mem_append_left _ (List.mem_append_left _ (List.mem_append_left _ (List.mem_append_left _ (List.mem_append_left _ (List.mem_append_left _ (List.mem_append_right _ h)))))))) (fun _ h => List.mem_cons_of_mem _ (List.mem_append_left _ (List.mem_append_left _ (List.mem_append_left _ (List.mem_append_left _ (List.mem_append_left _ (List.mem_append_right _ h))))))) (fun _ h => List.mem_cons_of_mem _ (List.mem_append_left _ (List.mem_append_left _ (List.mem_append_left _ (List.mem_append_left _ (List.mem_append_right _ h)))))) (fun _ h => List.mem_cons_of_mem _ (List.mem_append_left _ (List.mem_append_left _ (List.mem_append_left _ (List.mem_append_right _ h))))) (fun _ h => List.mem_cons_of_mem _ (List.mem_append_left _ (List.mem_append_left _ (List.mem_append_right _ h)))) (fun _ h => List.mem_cons_of_mem _ (List.mem_append_left _ (List.mem_append_right _ h))) (fun _ h => List.mem_cons_of_mem _ (List.mem_append_right _ h))
  have hl : lv_has ls 4 [(0, .ref h0)] := hl
  refine lv_iconst (v := 0) hx hb dX5_everSeen_0 (by decide) ?_
  refine lv_istore_n (lv' := [(1, .int 0), (0, .ref h0)]) hx hb dX5_everSeen_1 rfl hl (by decide) rfl (fun ls hl => ?_)
  refine lv_iconst (v := 0) hx hb dX5_everSeen_2 (by decide) ?_
  refine lv_istore_n (lv' := [(2, .int 0), (1, .int 0), (0, .ref h0)]) hx hb dX5_everSeen_3 rfl hl (by decide) rfl (fun ls hl => ?_)
  refine w_X5_everSeen_4 X _ _ _ hf (fun x4_39 hf H locs ls hG hS hl => ?_) _ _ _ hG hS (lv_sub hl [2, 1, 0] rfl)
  · refine lv_iload_n hx hb dX5_everSeen_39 rfl (lv_at hl 0 rfl) ?_
    have hf := Option.some.inj hf
    subst hf
    exact gp_retI hx hb hr hlocks hG hS (Nat.le_of_ble_eq_true rfl) (Nat.le_of_ble_eq_true rfl) dX5_everSeen_40
-- X10_free
abbrev rm_X10_free : Room := { frames := 0, cells := 0, slots := 0, locals := 0 }
set_option maxHeartbeats 4000000 in
set_option maxRecDepth 100000 in
theorem c_X10_free {R : Int64} (hf : f_X10_free gv h0 = some R) : Met l yX10_free wsX10_free rm_X10_free (va_Pc [.ref h0] (gPre D b M (gW cI cL gv) (gTy cI cL))) (gQ D b (some (.long R)) M (gW cI cL gv)) 0 0 (gA b) := by
  refine gp_met (cc := cX10_free) (maxL := 1) (ret := (some .long)) (by decide) rfl (Nat.le_of_ble_eq_true rfl) ?_
  intro p e s m below meth c X ls hG hl
  obtain ⟨H, hH0⟩ : ∃ H : Heap, H = s.heap := ⟨_, rfl⟩
  rw [← hH0] at hG ⊢
  have hS : va_S (gA b) s.heap H [] := by rw [hH0]; exact va_S.rf
  obtain ⟨locs, hlo⟩ : ∃ z : List Loc, z = [] := ⟨_, rfl⟩
  rw [← hlo] at hS ⊢
  unfold f_X10_free at hf
  obtain ⟨hx, hb, hr, hml, hown, hts, hlocks, hKn, hBs⟩ := id X
  have hK := hKn.1
  have gclX10 : gcl [8] TX10 6 wsX10_free := gcl_1 rfl (fun _ h => List.mem_cons_of_mem _ (List.mem_append_right _ h))
  have hl : lv_has ls 1 [(0, .ref h0)] := hl
  refine lv_ldc2 (v := (68719476735 : Int64)) hx hb hown (hts _ (List.mem_of_getElem? (i := 1) rfl)) dX10_free_0 ?_
  refine lv_aload_n hx hb dX10_free_3 rfl (lv_at hl 0 rfl) ?_
  obtain ⟨t4, ht4, hf⟩ := gb_b hf
  refine cp_get (v := .long t4) hx hb hts gclX10 hown hK hG 2 (gfJ_s ht4) (by decide) (hts _ (List.mem_of_getElem? (i := 2) rfl)) (fun _ h9 => h9) dX10_free_4 ?_
  refine lv_ldc2 (v := (-1 : Int64)) hx hb hown (hts _ (List.mem_of_getElem? (i := 3) rfl)) dX10_free_7 ?_
  refine lv_lxor hx hb dX10_free_10 ?_
  refine lv_land hx hb dX10_free_11 ?_
  have hf := Option.some.inj hf
  subst hf
  exact gp_retL hx hb hr hlocks hG hS (Nat.le_of_ble_eq_true rfl) (Nat.le_of_ble_eq_true rfl) dX10_free_12
-- X5_glow
abbrev rm_X5_glow : Room := { frames := 2, cells := 0, slots := 0, locals := 53 }
set_option maxHeartbeats 4000000 in
set_option maxRecDepth 100000 in
theorem c_X5_glow {v1 : Option Nat} {R : Int64} (hf : f_X5_glow gv h0 v1 = some R) : Met l yX5_glow wsX5_glow rm_X5_glow (va_Pc [.ref h0, va_rf v1] (gPre D b M (gW cI cL gv) (gTy cI cL))) (gQ D b (some (.long R)) M (gW cI cL gv)) 0 0 (gA b) := by
  refine gp_met (cc := cX5_glow) (maxL := 2) (ret := (some .long)) (by decide) rfl (by simp [lg_sl, gcat_rf, gcat_ref, gcat_int, gcat_long]) ?_
  intro p e s m below meth c X ls hG hl
  obtain ⟨H, hH0⟩ : ∃ H : Heap, H = s.heap := ⟨_, rfl⟩
  rw [← hH0] at hG ⊢
  have hS : va_S (gA b) s.heap H [] := by rw [hH0]; exact va_S.rf
  obtain ⟨locs, hlo⟩ : ∃ z : List Loc, z = [] := ⟨_, rfl⟩
  rw [← hlo] at hS ⊢
  unfold f_X5_glow at hf
  obtain ⟨hx, hb, hr, hml, hown, hts, hlocks, hKn, hBs⟩ := id X
  have hK := hKn.1
  have gclL : gcl gLC TX5 5 wsX5_glow := gcl_L (fun _ h => List.mem_cons_of_mem _ (List.mem_append_left _ (List.mem_append_left _ (List.mem_append_left _ (List.mem_append_left _ (List.mem_append_left _ (List.mem_append_left _ (List.mem_append_left _ (List.mem_append_right _ h))))))))) (fun _ h => List.mem_cons_of_mem _ (List.mem_append_left _ (List.mem_append_left _ (List.mem_append_left _ (List.mem_append_left _ (List.mem_append_left _ (List.mem_append_left _ (List.mem_append_right _ h)))))))) (fun _ h => List.mem_cons_of_mem _ (List.mem_append_left _ (List.mem_append_left _ (List.mem_append_left _ (List.mem_append_left _ (List.mem_append_left _ (List.mem_append_right _ h))))))) (fun _ h => List.mem_cons_of_mem _ (List.mem_append_left _ (List.mem_append_left _ (List.mem_append_left _ (List.mem_append_left _ (List.mem_append_right _ h)))))) (fun _ h => List.mem_cons_of_mem _ (List.mem_append_left _ (List.mem_append_left _ (List.mem_append_left _ (List.mem_append_right _ h))))) (fun _ h => List.mem_cons_of_mem _ (List.mem_append_left _ (List.mem_append_left _ (List.mem_append_right _ h)))) (fun _ h => List.mem_cons_of_mem _ (List.mem_append_left _ (List.mem_append_right _ h)))
  have hl : lv_has ls 2 [(0, .ref h0), (1, va_rf v1)] := by simpa [lv_args, gcat_rf, gcat_ref, gcat_int, gcat_long] using hl
  refine gp_aload_n (x := v1) hx hb dX5_glow_0 rfl (lv_at hl 1 rfl) ?_
  obtain ⟨j1, hj1, hf⟩ := gb_b hf
  have hJ1 : ∀ (H : Heap) (locs : List Loc) (ls : Array Slot), GP D b M (gW cI cL gv) H → va_S (gA b) s.heap H locs → lv_has ls 2 [] → W p l e rm_X5_glow s m [.ref h0, va_rf v1].toArray below meth c H locs 0 0 (MQ below (gQ D b (some (.long R)) M (gW cI cL gv)) [.ref h0, va_rf v1].toArray s 0 0 (gA b)) (F0 m 24 ls [.long j1]) := by
    intro H locs ls hG hS hl
    have hf := Option.some.inj hf
    subst hf
    exact gp_retL hx hb hr hlocks hG hS (Nat.le_of_ble_eq_true rfl) (Nat.le_of_ble_eq_true rfl) dX5_glow_24
  refine gp_ifnonnull (x := v1) (tgt := 8) hx hb dX5_glow_1 (by decide) ?_ ?_
  · intro n1 e1
    rw [e1] at hl
    rw [e1] at hj1
    dsimp only at hj1
    refine lv_aload_n hx hb dX5_glow_8 rfl (lv_at hl 0 rfl) ?_
    refine lv_aload_n hx hb dX5_glow_9 rfl (lv_at hl 1 rfl) ?_
    obtain ⟨o10, hc10, hj1⟩ := gb_b hj1
    have hrun10 : va_Run p l e rm_X5_glow s m [.ref h0, va_rf v1].toArray below meth c H locs 0 0 0 0 (F0 m 10 ls ([.ref n1].reverse ++ .ref h0 :: [])) [] (gQ D b (some (.int o10)) M (gW cI cL gv) (Value.ref h0 :: [.ref n1]).toArray) (gA b) := by
      obtain ⟨oc, hcO, hc10⟩ := gb_b hc10
      obtain ⟨hcg, hci⟩ := gfO_s hcO
      obtain ⟨kc, fc⟩ := oc
      dsimp only at hci hcg hc10
      rcases gLC_7 hci with rfl | rfl | rfl | rfl | rfl | rfl | rfl
      · have hc10 : f_X5_cellNow gv h0 (some n1) = some o10 := hc10
        exact va_runU (As := [.ref n1]) (rest := []) ⟨hx, hb, hml, hown, hts⟩ (c_X5_cellNow (l := l) (D := D) (b := b) (cI := cI) (cL := cL) hc10) (va_cwU 1 hts gX5_glow_X5_cellNow_u76X0 rfl rfl rfl rfl (by decide +kernel) ⟨Nat.le_of_ble_eq_true rfl, Nat.le_of_ble_eq_true rfl⟩) (gp_preV hKn hG (cp_obj hcg) rfl) rfl rfl hl.1 rfl (lv_room (Nat.le_of_ble_eq_true rfl)) dX5_glow_10 ⟨Nat.le_of_ble_eq_true rfl, Nat.le_of_ble_eq_true rfl⟩
      · have hc10 : f_X1_cellNow gv h0 (some n1) = some o10 := hc10
        exact va_runU (As := [.ref n1]) (rest := []) ⟨hx, hb, hml, hown, hts⟩ (c_X1_cellNow (l := l) (D := D) (b := b) (cI := cI) (cL := cL) hc10) (va_cwO 1 hts gX5_glow_X1_cellNow_u76X1 rfl rfl rfl (List.mem_of_getElem? (i := 7) rfl) (by decide +kernel) ⟨Nat.le_of_ble_eq_true rfl, Nat.le_of_ble_eq_true rfl⟩) (gp_preV hKn hG (cp_obj hcg) rfl) rfl rfl hl.1 rfl (lv_room (Nat.le_of_ble_eq_true rfl)) dX5_glow_10 ⟨Nat.le_of_ble_eq_true rfl, Nat.le_of_ble_eq_true rfl⟩
      · have hc10 : f_X5_cellNow gv h0 (some n1) = some o10 := hc10
        exact va_runU (As := [.ref n1]) (rest := []) ⟨hx, hb, hml, hown, hts⟩ (c_X5_cellNow (l := l) (D := D) (b := b) (cI := cI) (cL := cL) hc10) (va_cwU 1 hts gX5_glow_X5_cellNow_u76X3 rfl rfl rfl rfl (by decide +kernel) ⟨Nat.le_of_ble_eq_true rfl, Nat.le_of_ble_eq_true rfl⟩) (gp_preV hKn hG (cp_obj hcg) rfl) rfl rfl hl.1 rfl (lv_room (Nat.le_of_ble_eq_true rfl)) dX5_glow_10 ⟨Nat.le_of_ble_eq_true rfl, Nat.le_of_ble_eq_true rfl⟩
      · have hc10 : f_X5_cellNow gv h0 (some n1) = some o10 := hc10
        exact va_runU (As := [.ref n1]) (rest := []) ⟨hx, hb, hml, hown, hts⟩ (c_X5_cellNow (l := l) (D := D) (b := b) (cI := cI) (cL := cL) hc10) (va_cwU 1 hts gX5_glow_X5_cellNow_u76X4 rfl rfl rfl rfl (by decide +kernel) ⟨Nat.le_of_ble_eq_true rfl, Nat.le_of_ble_eq_true rfl⟩) (gp_preV hKn hG (cp_obj hcg) rfl) rfl rfl hl.1 rfl (lv_room (Nat.le_of_ble_eq_true rfl)) dX5_glow_10 ⟨Nat.le_of_ble_eq_true rfl, Nat.le_of_ble_eq_true rfl⟩
      · have hc10 : f_X5_cellNow gv h0 (some n1) = some o10 := hc10
        exact va_runV (As := [.ref n1]) (rest := []) ⟨hx, hb, hml, hown, hts⟩ (c_X5_cellNow (l := l) (D := D) (b := b) (cI := cI) (cL := cL) hc10) (cwV 1 hts gX5_glow_X5_cellNow rfl rfl rfl (by decide +kernel) ⟨Nat.le_of_ble_eq_true rfl, Nat.le_of_ble_eq_true rfl⟩) (gp_preV hKn hG (cp_obj hcg) rfl) rfl rfl hl.1 rfl (lv_room (Nat.le_of_ble_eq_true rfl)) dX5_glow_10 ⟨Nat.le_of_ble_eq_true rfl, Nat.le_of_ble_eq_true rfl⟩
      · have hc10 : f_X5_cellNow gv h0 (some n1) = some o10 := hc10
        exact va_runU (As := [.ref n1]) (rest := []) ⟨hx, hb, hml, hown, hts⟩ (c_X5_cellNow (l := l) (D := D) (b := b) (cI := cI) (cL := cL) hc10) (va_cwU 1 hts gX5_glow_X5_cellNow_u76X7 rfl rfl rfl rfl (by decide +kernel) ⟨Nat.le_of_ble_eq_true rfl, Nat.le_of_ble_eq_true rfl⟩) (gp_preV hKn hG (cp_obj hcg) rfl) rfl rfl hl.1 rfl (lv_room (Nat.le_of_ble_eq_true rfl)) dX5_glow_10 ⟨Nat.le_of_ble_eq_true rfl, Nat.le_of_ble_eq_true rfl⟩
      · have hc10 : f_X5_cellNow gv h0 (some n1) = some o10 := hc10
        exact va_runU (As := [.ref n1]) (rest := []) ⟨hx, hb, hml, hown, hts⟩ (c_X5_cellNow (l := l) (D := D) (b := b) (cI := cI) (cL := cL) hc10) (va_cwU 1 hts gX5_glow_X5_cellNow_u76X8 rfl rfl rfl rfl (by decide +kernel) ⟨Nat.le_of_ble_eq_true rfl, Nat.le_of_ble_eq_true rfl⟩) (gp_preV hKn hG (cp_obj hcg) rfl) rfl rfl hl.1 rfl (lv_room (Nat.le_of_ble_eq_true rfl)) dX5_glow_10 ⟨Nat.le_of_ble_eq_true rfl, Nat.le_of_ble_eq_true rfl⟩
    refine gp_callI hrun10 hS (fun H locs hG hS => ?_)
    refine lv_aload_n hx hb dX5_glow_13 rfl (lv_at hl 0 rfl) ?_
    obtain ⟨t14, ht14, hj1⟩ := gb_b hj1
    refine cp_get (v := .int t14) hx hb hts gclL hown hK hG 1 (gfI_s ht14) (by decide) (hts _ (List.mem_of_getElem? (i := 1) rfl)) (fun _ h9 => h9) dX5_glow_14 ?_
    refine lv_aload_n hx hb dX5_glow_17 rfl (lv_at hl 1 rfl) ?_
    obtain ⟨o18, hc18, hj1⟩ := gb_b hj1
    obtain ⟨oc18, hcO18, hc18⟩ := gb_b hc18
    obtain ⟨hcg18, hci18⟩ := gfO_s hcO18
    have hci18 := List.mem_singleton.mp hci18
    obtain ⟨kc18, fc18⟩ := oc18
    dsimp only at hci18 hcg18
    subst hci18
    refine gp_callL (va_runV (As := []) (rest := [.int t14, .int o10]) ⟨hx, hb, hml, hown, hts⟩ (c_X10_free (l := l) (D := D) (b := b) (cI := cI) (cL := cL) hc18) (cwV 0 hts gX5_glow_X10_free rfl rfl rfl (by decide +kernel) ⟨Nat.le_of_ble_eq_true rfl, Nat.le_of_ble_eq_true rfl⟩) (gp_preV hKn hG (cp_obj hcg18) rfl) rfl rfl hl.1 rfl (lv_room (Nat.le_of_ble_eq_true rfl)) dX5_glow_18 ⟨Nat.le_of_ble_eq_true rfl, Nat.le_of_ble_eq_true rfl⟩) hS (fun H locs hG hS => ?_)
    obtain ⟨o21, hc21, hj1⟩ := gb_b hj1
    refine gp_callL (va_runS (As := [.int o10, .int t14, .long o18]) (rest := []) ⟨hx, hb, hml, hown, hts⟩ (c_X2_within (l := l) (D := D) (b := b) (cI := cI) (cL := cL) hc21) (va_cwS 3 hts gX5_glow_X2_within rfl rfl rfl (by decide +kernel) ⟨Nat.le_of_ble_eq_true rfl, Nat.le_of_ble_eq_true rfl⟩) (gp_preS hKn hG) rfl rfl hl.1 rfl (lv_room (Nat.le_of_ble_eq_true rfl)) dX5_glow_21 ⟨Nat.le_of_ble_eq_true rfl, Nat.le_of_ble_eq_true rfl⟩) hS (fun H locs hG hS => ?_)
    have hj1 := Option.some.inj hj1
    subst hj1
    exact (hJ1 H locs ls hG hS (lv_sub hl [] rfl))
  · intro e1
    rw [e1] at hl
    rw [e1] at hj1
    dsimp only at hj1
    refine lv_lconst (v := (0 : Int64)) hx hb dX5_glow_4 (by decide) ?_
    refine lv_goto (tgt := 24) hx hb dX5_glow_5 (by decide) ?_
    have hj1 := Option.some.inj hj1
    subst hj1
    exact (hJ1 H locs ls hG hS (lv_sub hl [] rfl))
-- X9_minuteIn
abbrev rm_X9_minuteIn : Room := { frames := 0, cells := 0, slots := 0, locals := 0 }
set_option maxHeartbeats 4000000 in
set_option maxRecDepth 100000 in
theorem c_X9_minuteIn {v0 : Int32} {R : Int32} (hf : f_X9_minuteIn v0 = some R) : Met l yX9_minuteIn wsX9_minuteIn rm_X9_minuteIn (va_Pc [.int v0] (gPre D b M (gh) (gTy cI cL))) (gQ D b (some (.int R)) M (gh)) 0 0 (gA b) := by
  refine gp_met (cc := cX9_minuteIn) (maxL := 1) (ret := (some .int)) (by decide) rfl (Nat.le_of_ble_eq_true rfl) ?_
  intro p e s m below meth c X ls hG hl
  obtain ⟨H, hH0⟩ : ∃ H : Heap, H = s.heap := ⟨_, rfl⟩
  rw [← hH0] at hG ⊢
  have hS : va_S (gA b) s.heap H [] := by rw [hH0]; exact va_S.rf
  obtain ⟨locs, hlo⟩ : ∃ z : List Loc, z = [] := ⟨_, rfl⟩
  rw [← hlo] at hS ⊢
  unfold f_X9_minuteIn at hf
  obtain ⟨hx, hb, hr, hml, hown, hts, hlocks, hKn, hBs⟩ := id X
  have hK := hKn.1
  have hl : lv_has ls 1 [(0, .int v0)] := hl
  refine lv_iload_n hx hb dX9_minuteIn_0 rfl (lv_at hl 0 rfl) ?_
  refine lv_sipush (v := 1000) hx hb dX9_minuteIn_1 (by decide) ?_
  refine lv_idiv hx hb dX9_minuteIn_4 (by decide) ?_
  have hf := Option.some.inj hf
  subst hf
  exact gp_retI hx hb hr hlocks hG hS (Nat.le_of_ble_eq_true rfl) (Nat.le_of_ble_eq_true rfl) dX9_minuteIn_5
end
