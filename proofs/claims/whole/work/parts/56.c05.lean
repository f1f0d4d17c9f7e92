section
variable {p : Program} {l : Launch} {e : Env} {s : State} {m : MethodId} {args : Array Value} {below : List Frame} {meth : Method} {c : Code} {D : va_G} {b : GB} {M : Nat} {cI cL : ClassId} {h0 : Nat} {gv : Nat → GV} {gh : Nat → va_E} {Q : State → Prop}
-- X5_placeOfMinute
abbrev rm_X5_placeOfMinute : Room := { frames := 1, cells := 0, slots := 0, locals := 21 }
set_option maxHeartbeats 4000000 in
set_option maxRecDepth 100000 in
theorem w_X5_placeOfMinute_2 {α : Type} {R : α} {K22 : Int32 → Option α} {K30 : Unit → Option α} {v0 : Nat} {v1 : Int32} (X : gC p s m args meth c cX5_placeOfMinute 3 (some .int) wsX5_placeOfMinute RX5 D b (gTy cI cL)) : ∀ (n : Nat) (v2 : Int32), L_X5_placeOfMinute_2 K22 K30 gv v0 v1 n v2 = some R → (∀ (x : Int32), K22 x = some R → ∀ (H : Heap) (locs : List Loc) (ls : Array Slot), GP D b M (gW cI cL gv) H → va_S (gA b) s.heap H locs → lv_has ls 3 [(2, .int x)] → W p l e rm_X5_placeOfMinute s m args below meth c H locs 0 0 Q (F0 m 22 ls [])) → (∀ (x : Unit), K30 x = some R → ∀ (H : Heap) (locs : List Loc) (ls : Array Slot), GP D b M (gW cI cL gv) H → va_S (gA b) s.heap H locs → lv_has ls 3 [] → W p l e rm_X5_placeOfMinute s m args below meth c H locs 0 0 Q (F0 m 30 ls [])) → ∀ (H : Heap) (locs : List Loc) (ls : Array Slot), GP D b M (gW cI cL gv) H → va_S (gA b) s.heap H locs → lv_has ls 3 [(0, .ref v0), (1, .int v1), (2, .int v2)] → W p l e rm_X5_placeOfMinute s m args below meth c H locs 0 0 Q (F0 m 2 ls []) := by
  obtain ⟨hx, hb, hr, hml, hown, hts, hlocks, hKn, hBs⟩ := id X
  have hK := hKn.1
  have gclL : gcl gLC TX5 5 wsX5_placeOfMinute := gcl_L (fun _ h => List.mem_cons_of_mem _ (List.mem_append_left _ (List.mem_append_left _ (List.mem_append_left _ (List.mem_append_left _ (List.mem_append_left _ (List.mem_append_left _ (List.mem_append_right _ h)))))))) (fun _ h => List.mem_cons_of_mem _ (List.mem_append_left _ (List.mem_append_left _ (List.mem_append_left _ (List.mem_append_left _ (List.mem_append_left _ (List.mem_append_right _ h))))))) (fun _ h => List.mem_cons_of_mem _ (List.mem_append_left _ (List.mem_append_left _ (List.mem_append_left _ (List.mem_append_left _ (List.mem_append_right _ h)))))) (fun _ h => List.mem_cons_of_mem _ (List.mem_append_left _ (List.mem_append_left _ (List.mem_append_left _ (List.mem_append_right _ h))))) (fun _ h => List.mem_cons_of_mem _ (List.mem_append_left _ (List.mem_append_left _ (List.mem_append_right _ h)))) (fun _ h => List.mem_cons_of_mem _ (List.mem_append_left _ (List.mem_append_right _ h))) (fun _ h => List.mem_cons_of_mem _ (List.mem_append_right _ h))
  intro n
  induction n with
  | zero =>
    intro v2 hf
    cases hf
  | succ n ih =>
    intro v2 hf hk22 hk30 H locs ls hG hS hl
    rw [L_X5_placeOfMinute_2.eq_2] at hf
    refine lv_iload_n hx hb dX5_placeOfMinute_2 rfl (lv_at hl 2 rfl) ?_
    refine lv_aload_n hx hb dX5_placeOfMinute_3 rfl (lv_at hl 0 rfl) ?_
    obtain ⟨t4, ht4, hf⟩ := gb_b hf
    refine cp_get (v := .int t4) hx hb hts gclL hown hK hG 3 (gfI_s ht4) (by decide) (hts _ (List.mem_of_getElem? (i := 1) rfl)) (fun _ h9 => h9) dX5_placeOfMinute_4 ?_
    refine lv_icmp_ge (tgt := 30) hx hb dX5_placeOfMinute_7 (by decide) (fun c7 => ?_) (fun c7 => ?_)
    · have hf := gb_t c7 hf
      exact (hk30 _ hf _ _ _ hG hS (lv_sub hl [] rfl))
    · have hf := gb_f c7 hf
      refine lv_aload_n hx hb dX5_placeOfMinute_10 rfl (lv_at hl 0 rfl) ?_
      refine lv_iload_n hx hb dX5_placeOfMinute_11 rfl (lv_at hl 2 rfl) ?_
      obtain ⟨o12, hc12, hf⟩ := gb_b hf
      have hrun12 : va_Run p l e rm_X5_placeOfMinute s m args below meth c H locs 0 0 0 0 (F0 m 12 ls ([.int v2].reverse ++ .ref v0 :: [])) [] (gQ D b (some (.int o12)) M (gW cI cL gv) (Value.ref v0 :: [.int v2]).toArray) (gA b) := by
        obtain ⟨oc, hcO, hc12⟩ := gb_b hc12
        obtain ⟨hcg, hci⟩ := gfO_s hcO
        obtain ⟨kc, fc⟩ := oc
        dsimp only at hci hcg hc12
        rcases gLC_7 hci with rfl | rfl | rfl | rfl | rfl | rfl | rfl
        · exact va_runU (As := [.int v2]) (rest := []) ⟨hx, hb, hml, hown, hts⟩ (c_X5_sceneAt (l := l) (D := D) (b := b) (cI := cI) (cL := cL) hc12) (va_cwU 1 hts gX5_placeOfMinute_X5_sceneAt_u96X0 rfl rfl rfl rfl (by decide +kernel) ⟨Nat.le_of_ble_eq_true rfl, Nat.le_of_ble_eq_true rfl⟩) (gp_preV hKn hG (cp_obj hcg) rfl) rfl rfl hl.1 rfl (lv_room (Nat.le_of_ble_eq_true rfl)) dX5_placeOfMinute_12 ⟨Nat.le_of_ble_eq_true rfl, Nat.le_of_ble_eq_true rfl⟩
        · exact va_runU (As := [.int v2]) (rest := []) ⟨hx, hb, hml, hown, hts⟩ (c_X5_sceneAt (l := l) (D := D) (b := b) (cI := cI) (cL := cL) hc12) (va_cwU 1 hts gX5_placeOfMinute_X5_sceneAt_u96X1 rfl rfl rfl rfl (by decide +kernel) ⟨Nat.le_of_ble_eq_true rfl, Nat.le_of_ble_eq_true rfl⟩) (gp_preV hKn hG (cp_obj hcg) rfl) rfl rfl hl.1 rfl (lv_room (Nat.le_of_ble_eq_true rfl)) dX5_placeOfMinute_12 ⟨Nat.le_of_ble_eq_true rfl, Nat.le_of_ble_eq_true rfl⟩
        · exact va_runU (As := [.int v2]) (rest := []) ⟨hx, hb, hml, hown, hts⟩ (c_X5_sceneAt (l := l) (D := D) (b := b) (cI := cI) (cL := cL) hc12) (va_cwU 1 hts gX5_placeOfMinute_X5_sceneAt_u96X3 rfl rfl rfl rfl (by decide +kernel) ⟨Nat.le_of_ble_eq_true rfl, Nat.le_of_ble_eq_true rfl⟩) (gp_preV hKn hG (cp_obj hcg) rfl) rfl rfl hl.1 rfl (lv_room (Nat.le_of_ble_eq_true rfl)) dX5_placeOfMinute_12 ⟨Nat.le_of_ble_eq_true rfl, Nat.le_of_ble_eq_true rfl⟩
        · exact va_runU (As := [.int v2]) (rest := []) ⟨hx, hb, hml, hown, hts⟩ (c_X5_sceneAt (l := l) (D := D) (b := b) (cI := cI) (cL := cL) hc12) (va_cwU 1 hts gX5_placeOfMinute_X5_sceneAt_u96X4 rfl rfl rfl rfl (by decide +kernel) ⟨Nat.le_of_ble_eq_true rfl, Nat.le_of_ble_eq_true rfl⟩) (gp_preV hKn hG (cp_obj hcg) rfl) rfl rfl hl.1 rfl (lv_room (Nat.le_of_ble_eq_true rfl)) dX5_placeOfMinute_12 ⟨Nat.le_of_ble_eq_true rfl, Nat.le_of_ble_eq_true rfl⟩
        · exact va_runV (As := [.int v2]) (rest := []) ⟨hx, hb, hml, hown, hts⟩ (c_X5_sceneAt (l := l) (D := D) (b := b) (cI := cI) (cL := cL) hc12) (cwV 1 hts gX5_placeOfMinute_X5_sceneAt rfl rfl rfl (by decide +kernel) ⟨Nat.le_of_ble_eq_true rfl, Nat.le_of_ble_eq_true rfl⟩) (gp_preV hKn hG (cp_obj hcg) rfl) rfl rfl hl.1 rfl (lv_room (Nat.le_of_ble_eq_true rfl)) dX5_placeOfMinute_12 ⟨Nat.le_of_ble_eq_true rfl, Nat.le_of_ble_eq_true rfl⟩
        · exact va_runU (As := [.int v2]) (rest := []) ⟨hx, hb, hml, hown, hts⟩ (c_X5_sceneAt (l := l) (D := D) (b := b) (cI := cI) (cL := cL) hc12) (va_cwU 1 hts gX5_placeOfMinute_X5_sceneAt_u96X7 rfl rfl rfl rfl (by decide +kernel) ⟨Nat.le_of_ble_eq_true rfl, Nat.le_of_ble_eq_true rfl⟩) (gp_preV hKn hG (cp_obj hcg) rfl) rfl rfl hl.1 rfl (lv_room (Nat.le_of_ble_eq_true rfl)) dX5_placeOfMinute_12 ⟨Nat.le_of_ble_eq_true rfl, Nat.le_of_ble_eq_true rfl⟩
        · exact va_runU (As := [.int v2]) (rest := []) ⟨hx, hb, hml, hown, hts⟩ (c_X5_sceneAt (l := l) (D := D) (b := b) (cI := cI) (cL := cL) hc12) (va_cwU 1 hts gX5_placeOfMinute_X5_sceneAt_u96X8 rfl rfl rfl rfl (by decide +kernel) ⟨Nat.le_of_ble_eq_true rfl, Nat.le_of_ble_eq_true rfl⟩) (gp_preV hKn hG (cp_obj hcg) rfl) rfl rfl hl.1 rfl (lv_room (Nat.le_of_ble_eq_true rfl)) dX5_placeOfMinute_12 ⟨Nat.le_of_ble_eq_true rfl, Nat.le_of_ble_eq_true rfl⟩
      refine gp_callI hrun12 hS (fun H locs hG hS => ?_)
      obtain ⟨o15, hc15, hf⟩ := gb_b hf
      refine gp_callI (va_runS (As := [.int o12]) (rest := []) ⟨hx, hb, hml, hown, hts⟩ (c_X9_minuteIn (l := l) (D := D) (b := b) (cI := cI) (cL := cL) hc15) (va_cwS 1 hts gX5_placeOfMinute_X9_minuteIn rfl rfl rfl (by decide +kernel) ⟨Nat.le_of_ble_eq_true rfl, Nat.le_of_ble_eq_true rfl⟩) (gp_preS hKn hG) rfl rfl hl.1 rfl (lv_room (Nat.le_of_ble_eq_true rfl)) dX5_placeOfMinute_15 ⟨Nat.le_of_ble_eq_true rfl, Nat.le_of_ble_eq_true rfl⟩) hS (fun H locs hG hS => ?_)
      refine lv_iload_n hx hb dX5_placeOfMinute_18 rfl (lv_at hl 1 rfl) ?_
      refine lv_icmp_ne (tgt := 24) hx hb dX5_placeOfMinute_19 (by decide) (fun c19 => ?_) (fun c19 => ?_)
      · have hf := gb_f c19 hf
        refine lv_iinc (v := v2 + 1) (lv' := [(2, .int (v2 + 1)), (0, .ref v0), (1, .int v1)]) hx hb dX5_placeOfMinute_24 hl (k := 2) rfl rfl (by decide) rfl (fun ls hl => ?_)
        refine lv_goto (tgt := 2) hx hb dX5_placeOfMinute_27 (by decide) ?_
        exact ih _ hf hk22 hk30 _ _ _ hG hS (lv_sub hl [1, 2, 0] rfl)
      · have hf := gb_t c19 hf
        exact (hk22 _ hf _ _ _ hG hS (lv_sub hl [2] rfl))
set_option maxHeartbeats 4000000 in
set_option maxRecDepth 100000 in
theorem c_X5_placeOfMinute {v1 : Int32} {R : Int32} (hf : f_X5_placeOfMinute gv h0 v1 = some R) : Met l yX5_placeOfMinute wsX5_placeOfMinute rm_X5_placeOfMinute (va_Pc [.ref h0, .int v1] (gPre D b M (gW cI cL gv) (gTy cI cL))) (gQ D b (some (.int R)) M (gW cI cL gv)) 0 0 (gA b) := by
  refine gp_met (cc := cX5_placeOfMinute) (maxL := 3) (ret := (some .int)) (by decide) rfl (Nat.le_of_ble_eq_true rfl) ?_
  intro p e s m below meth c X ls hG hl
  obtain ⟨H, hH0⟩ : ∃ H : Heap, H = s.heap := ⟨_, rfl⟩
  rw [← hH0] at hG ⊢
  have hS : va_S (gA b) s.heap H [] := by rw [hH0]; exact va_S.rf
  obtain ⟨locs, hlo⟩ : ∃ z : List Loc, z = [] := ⟨_, rfl⟩
  rw [← hlo] at hS ⊢
  unfold f_X5_placeOfMinute at hf
  obtain ⟨hx, hb, hr, hml, hown, hts, hlocks, hKn, hBs⟩ := id X
  have hK := hKn.1
  have gclL : gcl gLC TX5 5 wsX5_placeOfMinute := gcl_L (fun _ h => List.mem_cons_of_mem _ (List.mem_append_left _ (List.mem_append_left _ (List.mem_append_left _ (List.mem_append_left _ (List.mem_append_left _ (List.mem_append_left _ (List.mem_append_right _ h)))))))) (fun _ h => List.mem_cons_of_mem _ (List.mem_append_left _ (List.mem_append_left _ (List.mem_append_left _ (List.mem_append_left _ (List.mem_append_left _ (List.mem_append_right _ h))))))) (fun _ h => List.mem_cons_of_mem _ (List.mem_append_left _ (List.mem_append_left _ (List.mem_append_left _ (List.mem_append_left _ (List.mem_append_right _ h)))))) (fun _ h => List.mem_cons_of_mem _ (List.mem_append_left _ (List.mem_append_left _ (List.mem_append_left _ (List.mem_append_right _ h))))) (fun _ h => List.mem_cons_of_mem _ (List.mem_append_left _ (List.mem_append_left _ (List.mem_append_right _ h)))) (fun _ h => List.mem_cons_of_mem _ (List.mem_append_left _ (List.mem_append_right _ h))) (fun _ h => List.mem_cons_of_mem _ (List.mem_append_right _ h))
  have hl : lv_has ls 3 [(0, .ref h0), (1, .int v1)] := hl
  refine lv_iconst (v := 0) hx hb dX5_placeOfMinute_0 (by decide) ?_
  refine lv_istore_n (lv' := [(2, .int 0), (0, .ref h0), (1, .int v1)]) hx hb dX5_placeOfMinute_1 rfl hl (by decide) rfl (fun ls hl => ?_)
  refine w_X5_placeOfMinute_2 X _ _ hf (fun x2_22 hf H locs ls hG hS hl => ?_) (fun x2_30 hf H locs ls hG hS hl => ?_) _ _ _ hG hS (lv_sub hl [1, 2, 0] rfl)
  · refine lv_iload_n hx hb dX5_placeOfMinute_22 rfl (lv_at hl 0 rfl) ?_
    have hf := Option.some.inj hf
    subst hf
    exact gp_retI hx hb hr hlocks hG hS (Nat.le_of_ble_eq_true rfl) (Nat.le_of_ble_eq_true rfl) dX5_placeOfMinute_23
  · refine lv_bipush (v := (-9 : Int32)) hx hb dX5_placeOfMinute_30 (by decide) ?_
    have hf := Option.some.inj hf
    subst hf
    exact gp_retI hx hb hr hlocks hG hS (Nat.le_of_ble_eq_true rfl) (Nat.le_of_ble_eq_true rfl) dX5_placeOfMinute_32
-- X5_hasScene
abbrev rm_X5_hasScene : Room := { frames := 2, cells := 0, slots := 0, locals := 43 }
set_option maxHeartbeats 4000000 in
set_option maxRecDepth 100000 in
theorem c_X5_hasScene {v1 : Int32} {R : Int32} (hf : f_X5_hasScene gv h0 v1 = some R) : Met l yX5_hasScene wsX5_hasScene rm_X5_hasScene (va_Pc [.ref h0, .int v1] (gPre D b M (gW cI cL gv) (gTy cI cL))) (gQ D b (some (.int R)) M (gW cI cL gv)) 0 0 (gA b) := by
  refine gp_met (cc := cX5_hasScene) (maxL := 3) (ret := (some .boolean)) (by decide) rfl (Nat.le_of_ble_eq_true rfl) ?_
  intro p e s m below meth c X ls hG hl
  obtain ⟨H, hH0⟩ : ∃ H : Heap, H = s.heap := ⟨_, rfl⟩
  rw [← hH0] at hG ⊢
  have hS : va_S (gA b) s.heap H [] := by rw [hH0]; exact va_S.rf
  obtain ⟨locs, hlo⟩ : ∃ z : List Loc, z = [] := ⟨_, rfl⟩
  rw [← hlo] at hS ⊢
  unfold f_X5_hasScene at hf
  obtain ⟨hx, hb, hr, hml, hown, hts, hlocks, hKn, hBs⟩ := id X
  have hK := hKn.1
  have hl : lv_has ls 3 [(0, .ref h0), (1, .int v1)] := hl
  refine lv_aload_n hx hb dX5_hasScene_0 rfl (lv_at hl 0 rfl) ?_
  refine lv_iload_n hx hb dX5_hasScene_1 rfl (lv_at hl 1 rfl) ?_
  obtain ⟨o2, hc2, hf⟩ := gb_b hf
  refine gp_callI (va_runS (As := [.int v1]) (rest := [.ref h0]) ⟨hx, hb, hml, hown, hts⟩ (c_X9_minuteIn (l := l) (D := D) (b := b) (cI := cI) (cL := cL) hc2) (va_cwS 1 hts gX5_hasScene_X9_minuteIn rfl rfl rfl (by decide +kernel) ⟨Nat.le_of_ble_eq_true rfl, Nat.le_of_ble_eq_true rfl⟩) (gp_preS hKn hG) rfl rfl hl.1 rfl (lv_room (Nat.le_of_ble_eq_true rfl)) dX5_hasScene_2 ⟨Nat.le_of_ble_eq_true rfl, Nat.le_of_ble_eq_true rfl⟩) hS (fun H locs hG hS => ?_)
  obtain ⟨o5, hc5, hf⟩ := gb_b hf
  have hrun5 : va_Run p l e rm_X5_hasScene s m [.ref h0, .int v1].toArray below meth c H locs 0 0 0 0 (F0 m 5 ls ([.int o2].reverse ++ .ref h0 :: [])) [] (gQ D b (some (.int o5)) M (gW cI cL gv) (Value.ref h0 :: [.int o2]).toArray) (gA b) := by
    obtain ⟨oc, hcO, hc5⟩ := gb_b hc5
    obtain ⟨hcg, hci⟩ := gfO_s hcO
    obtain ⟨kc, fc⟩ := oc
    dsimp only at hci hcg hc5
    rcases gLC_7 hci with rfl | rfl | rfl | rfl | rfl | rfl | rfl
    · exact va_runU (As := [.int o2]) (rest := []) ⟨hx, hb, hml, hown, hts⟩ (c_X5_placeOfMinute (l := l) (D := D) (b := b) (cI := cI) (cL := cL) hc5) (va_cwU 1 hts gX5_hasScene_X5_placeOfMinute_u102X0 rfl rfl rfl rfl (by decide +kernel) ⟨Nat.le_of_ble_eq_true rfl, Nat.le_of_ble_eq_true rfl⟩) (gp_preV hKn hG (cp_obj hcg) rfl) rfl rfl hl.1 rfl (lv_room (Nat.le_of_ble_eq_true rfl)) dX5_hasScene_5 ⟨Nat.le_of_ble_eq_true rfl, Nat.le_of_ble_eq_true rfl⟩
    · exact va_runU (As := [.int o2]) (rest := []) ⟨hx, hb, hml, hown, hts⟩ (c_X5_placeOfMinute (l := l) (D := D) (b := b) (cI := cI) (cL := cL) hc5) (va_cwU 1 hts gX5_hasScene_X5_placeOfMinute_u102X1 rfl rfl rfl rfl (by decide +kernel) ⟨Nat.le_of_ble_eq_true rfl, Nat.le_of_ble_eq_true rfl⟩) (gp_preV hKn hG (cp_obj hcg) rfl) rfl rfl hl.1 rfl (lv_room (Nat.le_of_ble_eq_true rfl)) dX5_hasScene_5 ⟨Nat.le_of_ble_eq_true rfl, Nat.le_of_ble_eq_true rfl⟩
    · exact va_runU (As := [.int o2]) (rest := []) ⟨hx, hb, hml, hown, hts⟩ (c_X5_placeOfMinute (l := l) (D := D) (b := b) (cI := cI) (cL := cL) hc5) (va_cwU 1 hts gX5_hasScene_X5_placeOfMinute_u102X3 rfl rfl rfl rfl (by decide +kernel) ⟨Nat.le_of_ble_eq_true rfl, Nat.le_of_ble_eq_true rfl⟩) (gp_preV hKn hG (cp_obj hcg) rfl) rfl rfl hl.1 rfl (lv_room (Nat.le_of_ble_eq_true rfl)) dX5_hasScene_5 ⟨Nat.le_of_ble_eq_true rfl, Nat.le_of_ble_eq_true rfl⟩
    · exact va_runU (As := [.int o2]) (rest := []) ⟨hx, hb, hml, hown, hts⟩ (c_X5_placeOfMinute (l := l) (D := D) (b := b) (cI := cI) (cL := cL) hc5) (va_cwU 1 hts gX5_hasScene_X5_placeOfMinute_u102X4 rfl rfl rfl rfl (by decide +kernel) ⟨Nat.le_of_ble_eq_true rfl, Nat.le_of_ble_eq_true rfl⟩) (gp_preV hKn hG (cp_obj hcg) rfl) rfl rfl hl.1 rfl (lv_room (Nat.le_of_ble_eq_true rfl)) dX5_hasScene_5 ⟨Nat.le_of_ble_eq_true rfl, Nat.le_of_ble_eq_true rfl⟩
    · exact va_runV (As := [.int o2]) (rest := []) ⟨hx, hb, hml, hown, hts⟩ (c_X5_placeOfMinute (l := l) (D := D) (b := b) (cI := cI) (cL := cL) hc5) (cwV 1 hts gX5_hasScene_X5_placeOfMinute rfl rfl rfl (by decide +kernel) ⟨Nat.le_of_ble_eq_true rfl, Nat.le_of_ble_eq_true rfl⟩) (gp_preV hKn hG (cp_obj hcg) rfl) rfl rfl hl.1 rfl (lv_room (Nat.le_of_ble_eq_true rfl)) dX5_hasScene_5 ⟨Nat.le_of_ble_eq_true rfl, Nat.le_of_ble_eq_true rfl⟩
    · exact va_runU (As := [.int o2]) (rest := []) ⟨hx, hb, hml, hown, hts⟩ (c_X5_placeOfMinute (l := l) (D := D) (b := b) (cI := cI) (cL := cL) hc5) (va_cwU 1 hts gX5_hasScene_X5_placeOfMinute_u102X7 rfl rfl rfl rfl (by decide +kernel) ⟨Nat.le_of_ble_eq_true rfl, Nat.le_of_ble_eq_true rfl⟩) (gp_preV hKn hG (cp_obj hcg) rfl) rfl rfl hl.1 rfl (lv_room (Nat.le_of_ble_eq_true rfl)) dX5_hasScene_5 ⟨Nat.le_of_ble_eq_true rfl, Nat.le_of_ble_eq_true rfl⟩
    · exact va_runU (As := [.int o2]) (rest := []) ⟨hx, hb, hml, hown, hts⟩ (c_X5_placeOfMinute (l := l) (D := D) (b := b) (cI := cI) (cL := cL) hc5) (va_cwU 1 hts gX5_hasScene_X5_placeOfMinute_u102X8 rfl rfl rfl rfl (by decide +kernel) ⟨Nat.le_of_ble_eq_true rfl, Nat.le_of_ble_eq_true rfl⟩) (gp_preV hKn hG (cp_obj hcg) rfl) rfl rfl hl.1 rfl (lv_room (Nat.le_of_ble_eq_true rfl)) dX5_hasScene_5 ⟨Nat.le_of_ble_eq_true rfl, Nat.le_of_ble_eq_true rfl⟩
  refine gp_callI hrun5 hS (fun H locs hG hS => ?_)
  refine lv_istore_n (lv' := [(2, .int o5), (0, .ref h0), (1, .int v1)]) hx hb dX5_hasScene_8 rfl hl (by decide) rfl (fun ls hl => ?_)
  refine lv_iload_n hx hb dX5_hasScene_9 rfl (lv_at hl 0 rfl) ?_
  obtain ⟨j10, hj10, hf⟩ := gb_b hf
  have hJ10 : ∀ (H : Heap) (locs : List Loc) (ls : Array Slot), GP D b M (gW cI cL gv) H → va_S (gA b) s.heap H locs → lv_has ls 3 [] → W p l e rm_X5_hasScene s m [.ref h0, .int v1].toArray below meth c H locs 0 0 (MQ below (gQ D b (some (.int R)) M (gW cI cL gv)) [.ref h0, .int v1].toArray s 0 0 (gA b)) (F0 m 27 ls [.int j10]) := by
    intro H locs ls hG hS hl
    obtain ⟨z27, hf⟩ := gb_zb hf
    have hf := Option.some.inj hf
    subst hf
    exact gp_retZ hx hb hr z27 hlocks hG hS (Nat.le_of_ble_eq_true rfl) (Nat.le_of_ble_eq_true rfl) dX5_hasScene_27
  refine lv_if_lt (tgt := 26) hx hb dX5_hasScene_10 (by decide) (fun c10 => ?_) (fun c10 => ?_)
  · have hj10 := gb_t c10 hj10
    refine lv_iconst (v := 0) hx hb dX5_hasScene_26 (by decide) ?_
    have hj10 := Option.some.inj hj10
    subst hj10
    exact (hJ10 H locs ls hG hS (lv_sub hl [] rfl))
  · have hj10 := gb_f c10 hj10
    refine lv_aload_n hx hb dX5_hasScene_13 rfl (lv_at hl 1 rfl) ?_
    refine lv_iload_n hx hb dX5_hasScene_14 rfl (lv_at hl 0 rfl) ?_
    obtain ⟨o15, hc15, hj10⟩ := gb_b hj10
    have hrun15 : va_Run p l e rm_X5_hasScene s m [.ref h0, .int v1].toArray below meth c H locs 0 0 0 0 (F0 m 15 ls ([.int o5].reverse ++ .ref h0 :: [])) [] (gQ D b (some (.int o15)) M (gW cI cL gv) (Value.ref h0 :: [.int o5]).toArray) (gA b) := by
      obtain ⟨oc, hcO, hc15⟩ := gb_b hc15
      obtain ⟨hcg, hci⟩ := gfO_s hcO
      obtain ⟨kc, fc⟩ := oc
      dsimp only at hci hcg hc15
      rcases gLC_7 hci with rfl | rfl | rfl | rfl | rfl | rfl | rfl
      · exact va_runU (As := [.int o5]) (rest := []) ⟨hx, hb, hml, hown, hts⟩ (c_X5_sceneAt (l := l) (D := D) (b := b) (cI := cI) (cL := cL) hc15) (va_cwU 1 hts gX5_hasScene_X5_sceneAt_u96X0 rfl rfl rfl rfl (by decide +kernel) ⟨Nat.le_of_ble_eq_true rfl, Nat.le_of_ble_eq_true rfl⟩) (gp_preV hKn hG (cp_obj hcg) rfl) rfl rfl hl.1 rfl (lv_room (Nat.le_of_ble_eq_true rfl)) dX5_hasScene_15 ⟨Nat.le_of_ble_eq_true rfl, Nat.le_of_ble_eq_true rfl⟩
      · exact va_runU (As := [.int o5]) (rest := []) ⟨hx, hb, hml, hown, hts⟩ (c_X5_sceneAt (l := l) (D := D) (b := b) (cI := cI) (cL := cL) hc15) (va_cwU 1 hts gX5_hasScene_X5_sceneAt_u96X1 rfl rfl rfl rfl (by decide +kernel) ⟨Nat.le_of_ble_eq_true rfl, Nat.le_of_ble_eq_true rfl⟩) (gp_preV hKn hG (cp_obj hcg) rfl) rfl rfl hl.1 rfl (lv_room (Nat.le_of_ble_eq_true rfl)) dX5_hasScene_15 ⟨Nat.le_of_ble_eq_true rfl, Nat.le_of_ble_eq_true rfl⟩
      · exact va_runU (As := [.int o5]) (rest := []) ⟨hx, hb, hml, hown, hts⟩ (c_X5_sceneAt (l := l) (D := D) (b := b) (cI := cI) (cL := cL) hc15) (va_cwU 1 hts gX5_hasScene_X5_sceneAt_u96X3 rfl rfl rfl rfl (by decide +kernel) ⟨Nat.le_of_ble_eq_true rfl, Nat.le_of_ble_eq_true rfl⟩) (gp_preV hKn hG (cp_obj hcg) rfl) rfl rfl hl.1 rfl (lv_room (Nat.le_of_ble_eq_true rfl)) dX5_hasScene_15 ⟨Nat.le_of_ble_eq_true rfl, Nat.le_of_ble_eq_true rfl⟩
      · exact va_runU (As := [.int o5]) (rest := []) ⟨hx, hb, hml, hown, hts⟩ (c_X5_sceneAt (l := l) (D := D) (b := b) (cI := cI) (cL := cL) hc15) (va_cwU 1 hts gX5_hasScene_X5_sceneAt_u96X4 rfl rfl rfl rfl (by decide +kernel) ⟨Nat.le_of_ble_eq_true rfl, Nat.le_of_ble_eq_true rfl⟩) (gp_preV hKn hG (cp_obj hcg) rfl) rfl rfl hl.1 rfl (lv_room (Nat.le_of_ble_eq_true rfl)) dX5_hasScene_15 ⟨Nat.le_of_ble_eq_true rfl, Nat.le_of_ble_eq_true rfl⟩
      · exact va_runV (As := [.int o5]) (rest := []) ⟨hx, hb, hml, hown, hts⟩ (c_X5_sceneAt (l := l) (D := D) (b := b) (cI := cI) (cL := cL) hc15) (cwV 1 hts gX5_hasScene_X5_sceneAt rfl rfl rfl (by decide +kernel) ⟨Nat.le_of_ble_eq_true rfl, Nat.le_of_ble_eq_true rfl⟩) (gp_preV hKn hG (cp_obj hcg) rfl) rfl rfl hl.1 rfl (lv_room (Nat.le_of_ble_eq_true rfl)) dX5_hasScene_15 ⟨Nat.le_of_ble_eq_true rfl, Nat.le_of_ble_eq_true rfl⟩
      · exact va_runU (As := [.int o5]) (rest := []) ⟨hx, hb, hml, hown, hts⟩ (c_X5_sceneAt (l := l) (D := D) (b := b) (cI := cI) (cL := cL) hc15) (va_cwU 1 hts gX5_hasScene_X5_sceneAt_u96X7 rfl rfl rfl rfl (by decide +kernel) ⟨Nat.le_of_ble_eq_true rfl, Nat.le_of_ble_eq_true rfl⟩) (gp_preV hKn hG (cp_obj hcg) rfl) rfl rfl hl.1 rfl (lv_room (Nat.le_of_ble_eq_true rfl)) dX5_hasScene_15 ⟨Nat.le_of_ble_eq_true rfl, Nat.le_of_ble_eq_true rfl⟩
      · exact va_runU (As := [.int o5]) (rest := []) ⟨hx, hb, hml, hown, hts⟩ (c_X5_sceneAt (l := l) (D := D) (b := b) (cI := cI) (cL := cL) hc15) (va_cwU 1 hts gX5_hasScene_X5_sceneAt_u96X8 rfl rfl rfl rfl (by decide +kernel) ⟨Nat.le_of_ble_eq_true rfl, Nat.le_of_ble_eq_true rfl⟩) (gp_preV hKn hG (cp_obj hcg) rfl) rfl rfl hl.1 rfl (lv_room (Nat.le_of_ble_eq_true rfl)) dX5_hasScene_15 ⟨Nat.le_of_ble_eq_true rfl, Nat.le_of_ble_eq_true rfl⟩
    refine gp_callI hrun15 hS (fun H locs hG hS => ?_)
    refine lv_iload_n hx hb dX5_hasScene_18 rfl (lv_at hl 2 rfl) ?_
    refine lv_icmp_ne (tgt := 26) hx hb dX5_hasScene_19 (by decide) (fun c19 => ?_) (fun c19 => ?_)
    · have hj10 := gb_f c19 hj10
      refine lv_iconst (v := 0) hx hb dX5_hasScene_26 (by decide) ?_
      have hj10 := Option.some.inj hj10
      subst hj10
      exact (hJ10 H locs ls hG hS (lv_sub hl [] rfl))
    · have hj10 := gb_t c19 hj10
      refine lv_iconst (v := 1) hx hb dX5_hasScene_22 (by decide) ?_
      refine lv_goto (tgt := 27) hx hb dX5_hasScene_23 (by decide) ?_
      have hj10 := Option.some.inj hj10
      subst hj10
      exact (hJ10 H locs ls hG hS (lv_sub hl [] rfl))
-- X5_placeGivenUpFor
abbrev rm_X5_placeGivenUpFor : Room := { frames := 0, cells := 0, slots := 0, locals := 0 }
set_option maxHeartbeats 4000000 in
set_option maxRecDepth 100000 in
theorem c_X5_placeGivenUpFor {v1 : Int32} {R : Int32} (hf : f_X5_placeGivenUpFor h0 v1 = some R) : Met l yX5_placeGivenUpFor wsX5_placeGivenUpFor rm_X5_placeGivenUpFor (va_Pc [.ref h0, .int v1] (gPre D b M (gh) (gTy cI cL))) (gQ D b (some (.int R)) M (gh)) 0 0 (gA b) := by
  refine gp_met (cc := cX5_placeGivenUpFor) (maxL := 2) (ret := (some .int)) (by decide) rfl (Nat.le_of_ble_eq_true rfl) ?_
  intro p e s m below meth c X ls hG hl
  obtain ⟨H, hH0⟩ : ∃ H : Heap, H = s.heap := ⟨_, rfl⟩
  rw [← hH0] at hG ⊢
  have hS : va_S (gA b) s.heap H [] := by rw [hH0]; exact va_S.rf
  obtain ⟨locs, hlo⟩ : ∃ z : List Loc, z = [] := ⟨_, rfl⟩
  rw [← hlo] at hS ⊢
  unfold f_X5_placeGivenUpFor at hf
  obtain ⟨hx, hb, hr, hml, hown, hts, hlocks, hKn, hBs⟩ := id X
  have hK := hKn.1
  have hl : lv_has ls 2 [(0, .ref h0), (1, .int v1)] := hl
  refine lv_bipush (v := (-9 : Int32)) hx hb dX5_placeGivenUpFor_0 (by decide) ?_
  have hf := Option.some.inj hf
  subst hf
  exact gp_retI hx hb hr hlocks hG hS (Nat.le_of_ble_eq_true rfl) (Nat.le_of_ble_eq_true rfl) dX5_placeGivenUpFor_2
-- X9_cellIn
abbrev rm_X9_cellIn : Room := { frames := 0, cells := 0, slots := 0, locals := 0 }
set_option maxHeartbeats 4000000 in
set_option maxRecDepth 100000 in
theorem c_X9_cellIn {v0 : Int32} {R : Int32} (hf : f_X9_cellIn v0 = some R) : Met l yX9_cellIn wsX9_cellIn rm_X9_cellIn (va_Pc [.int v0] (gPre D b M (gh) (gTy cI cL))) (gQ D b (some (.int R)) M (gh)) 0 0 (gA b) := by
  refine gp_met (cc := cX9_cellIn) (maxL := 1) (ret := (some .int)) (by decide) rfl (Nat.le_of_ble_eq_true rfl) ?_
  intro p e s m below meth c X ls hG hl
  obtain ⟨H, hH0⟩ : ∃ H : Heap, H = s.heap := ⟨_, rfl⟩
  rw [← hH0] at hG ⊢
  have hS : va_S (gA b) s.heap H [] := by rw [hH0]; exact va_S.rf
  obtain ⟨locs, hlo⟩ : ∃ z : List Loc, z = [] := ⟨_, rfl⟩
  rw [← hlo] at hS ⊢
  unfold f_X9_cellIn at hf
  obtain ⟨hx, hb, hr, hml, hown, hts, hlocks, hKn, hBs⟩ := id X
  have hK := hKn.1
  have hl : lv_has ls 1 [(0, .int v0)] := hl
  refine lv_iload_n hx hb dX9_cellIn_0 rfl (lv_at hl 0 rfl) ?_
  refine lv_bipush (v := 10) hx hb dX9_cellIn_1 (by decide) ?_
  refine lv_idiv hx hb dX9_cellIn_3 (by decide) ?_
  refine lv_bipush (v := 100) hx hb dX9_cellIn_4 (by decide) ?_
  refine lv_irem hx hb dX9_cellIn_6 (by decide) ?_
  have hf := Option.some.inj hf
  subst hf
  exact gp_retI hx hb hr hlocks hG hS (Nat.le_of_ble_eq_true rfl) (Nat.le_of_ble_eq_true rfl) dX9_cellIn_7
-- X8_placeGivenUpFor
abbrev rm_X8_placeGivenUpFor : Room := { frames := 1, cells := 0, slots := 0, locals := 21 }
set_option maxHeartbeats 4000000 in
set_option maxRecDepth 100000 in
theorem w_X8_placeGivenUpFor_2 {α : Type} {R : α} {K22 : Int32 → Option α} {K30 : Unit → Option α} {v0 : Nat} {v1 : Int32} (X : gC p s m args meth c cX8_placeGivenUpFor 3 (some .int) wsX8_placeGivenUpFor RX8 D b (gTy cI cL)) : ∀ (n : Nat) (v2 : Int32), L_X8_placeGivenUpFor_2 K22 K30 gv v0 v1 n v2 = some R → (∀ (x : Int32), K22 x = some R → ∀ (H : Heap) (locs : List Loc) (ls : Array Slot), GP D b M (gW cI cL gv) H → va_S (gA b) s.heap H locs → lv_has ls 3 [(2, .int x)] → W p l e rm_X8_placeGivenUpFor s m args below meth c H locs 0 0 Q (F0 m 22 ls [])) → (∀ (x : Unit), K30 x = some R → ∀ (H : Heap) (locs : List Loc) (ls : Array Slot), GP D b M (gW cI cL gv) H → va_S (gA b) s.heap H locs → lv_has ls 3 [] → W p l e rm_X8_placeGivenUpFor s m args below meth c H locs 0 0 Q (F0 m 30 ls [])) → ∀ (H : Heap) (locs : List Loc) (ls : Array Slot), GP D b M (gW cI cL gv) H → va_S (gA b) s.heap H locs → lv_has ls 3 [(0, .ref v0), (1, .int v1), (2, .int v2)] → W p l e rm_X8_placeGivenUpFor s m args below meth c H locs 0 0 Q (F0 m 2 ls []) := by
  obtain ⟨hx, hb, hr, hml, hown, hts, hlocks, hKn, hBs⟩ := id X
  have hK := hKn.1
  have gclL : gcl gLC TX5 5 wsX8_placeGivenUpFor := gcl_L (fun _ h => List.mem_cons_of_mem _ (List.mem_append_left _ (List.mem_append_left _ (List.mem_append_left _ (List.mem_append_left _ (List.mem_append_left _ (List.mem_append_left _ (List.mem_append_right _ h)))))))) (fun _ h => List.mem_cons_of_mem _ (List.mem_append_left _ (List.mem_append_left _ (List.mem_append_left _ (List.mem_append_left _ (List.mem_append_left _ (List.mem_append_right _ h))))))) (fun _ h => List.mem_cons_of_mem _ (List.mem_append_left _ (List.mem_append_left _ (List.mem_append_left _ (List.mem_append_left _ (List.mem_append_right _ h)))))) (fun _ h => List.mem_cons_of_mem _ (List.mem_append_left _ (List.mem_append_left _ (List.mem_append_left _ (List.mem_append_right _ h))))) (fun _ h => List.mem_cons_of_mem _ (List.mem_append_left _ (List.mem_append_left _ (List.mem_append_right _ h)))) (fun _ h => List.mem_cons_of_mem _ (List.mem_append_left _ (List.mem_append_right _ h))) (fun _ h => List.mem_cons_of_mem _ (List.mem_append_right _ h))
  intro n
  induction n with
  | zero =>
    intro v2 hf
    cases hf
  | succ n ih =>
    intro v2 hf hk22 hk30 H locs ls hG hS hl
    rw [L_X8_placeGivenUpFor_2.eq_2] at hf
    refine lv_iload_n hx hb dX8_placeGivenUpFor_2 rfl (lv_at hl 2 rfl) ?_
    refine lv_aload_n hx hb dX8_placeGivenUpFor_3 rfl (lv_at hl 0 rfl) ?_
    obtain ⟨t4, ht4, hf⟩ := gb_b hf
    refine cp_get (v := .int t4) hx hb hts gclL hown hK hG 3 (gfI_s ht4) (by decide) (hts _ (List.mem_of_getElem? (i := 1) rfl)) (gsame_X8_size (hts _ (List.mem_of_getElem? (i := 2) rfl))) dX8_placeGivenUpFor_4 ?_
    refine lv_icmp_ge (tgt := 30) hx hb dX8_placeGivenUpFor_7 (by decide) (fun c7 => ?_) (fun c7 => ?_)
    · have hf := gb_t c7 hf
      exact (hk30 _ hf _ _ _ hG hS (lv_sub hl [] rfl))
    · have hf := gb_f c7 hf
      refine lv_aload_n hx hb dX8_placeGivenUpFor_10 rfl (lv_at hl 0 rfl) ?_
      refine lv_iload_n hx hb dX8_placeGivenUpFor_11 rfl (lv_at hl 2 rfl) ?_
      obtain ⟨o12, hc12, hf⟩ := gb_b hf
      have hrun12 : va_Run p l e rm_X8_placeGivenUpFor s m args below meth c H locs 0 0 0 0 (F0 m 12 ls ([.int v2].reverse ++ .ref v0 :: [])) [] (gQ D b (some (.int o12)) M (gW cI cL gv) (Value.ref v0 :: [.int v2]).toArray) (gA b) := by
        obtain ⟨oc, hcO, hc12⟩ := gb_b hc12
        obtain ⟨hcg, hci⟩ := gfO_s hcO
        obtain ⟨kc, fc⟩ := oc
        dsimp only at hci hcg hc12
        rcases g37 hci with rfl | rfl
        · exact va_runU (As := [.int v2]) (rest := []) ⟨hx, hb, hml, hown, hts⟩ (c_X5_sceneAt (l := l) (D := D) (b := b) (cI := cI) (cL := cL) hc12) (va_cwU 1 hts gX8_placeGivenUpFor_X5_sceneAt_u15X4 rfl rfl rfl rfl (by decide +kernel) ⟨Nat.le_of_ble_eq_true rfl, Nat.le_of_ble_eq_true rfl⟩) (gp_preV hKn hG (cp_obj hcg) rfl) rfl rfl hl.1 rfl (lv_room (Nat.le_of_ble_eq_true rfl)) dX8_placeGivenUpFor_12 ⟨Nat.le_of_ble_eq_true rfl, Nat.le_of_ble_eq_true rfl⟩
        · exact va_runU (As := [.int v2]) (rest := []) ⟨hx, hb, hml, hown, hts⟩ (c_X5_sceneAt (l := l) (D := D) (b := b) (cI := cI) (cL := cL) hc12) (va_cwU 1 hts gX8_placeGivenUpFor_X5_sceneAt_u15X8 rfl rfl rfl rfl (by decide +kernel) ⟨Nat.le_of_ble_eq_true rfl, Nat.le_of_ble_eq_true rfl⟩) (gp_preV hKn hG (cp_obj hcg) rfl) rfl rfl hl.1 rfl (lv_room (Nat.le_of_ble_eq_true rfl)) dX8_placeGivenUpFor_12 ⟨Nat.le_of_ble_eq_true rfl, Nat.le_of_ble_eq_true rfl⟩
      refine gp_callI hrun12 hS (fun H locs hG hS => ?_)
      obtain ⟨o15, hc15, hf⟩ := gb_b hf
      refine gp_callI (va_runS (As := [.int o12]) (rest := []) ⟨hx, hb, hml, hown, hts⟩ (c_X9_cellIn (l := l) (D := D) (b := b) (cI := cI) (cL := cL) hc15) (va_cwS 1 hts gX8_placeGivenUpFor_X9_cellIn rfl rfl rfl (by decide +kernel) ⟨Nat.le_of_ble_eq_true rfl, Nat.le_of_ble_eq_true rfl⟩) (gp_preS hKn hG) rfl rfl hl.1 rfl (lv_room (Nat.le_of_ble_eq_true rfl)) dX8_placeGivenUpFor_15 ⟨Nat.le_of_ble_eq_true rfl, Nat.le_of_ble_eq_true rfl⟩) hS (fun H locs hG hS => ?_)
      refine lv_iload_n hx hb dX8_placeGivenUpFor_18 rfl (lv_at hl 1 rfl) ?_
      refine lv_icmp_ne (tgt := 24) hx hb dX8_placeGivenUpFor_19 (by decide) (fun c19 => ?_) (fun c19 => ?_)
      · have hf := gb_f c19 hf
        refine lv_iinc (v := v2 + 1) (lv' := [(2, .int (v2 + 1)), (0, .ref v0), (1, .int v1)]) hx hb dX8_placeGivenUpFor_24 hl (k := 2) rfl rfl (by decide) rfl (fun ls hl => ?_)
        refine lv_goto (tgt := 2) hx hb dX8_placeGivenUpFor_27 (by decide) ?_
        exact ih _ hf hk22 hk30 _ _ _ hG hS (lv_sub hl [1, 2, 0] rfl)
      · have hf := gb_t c19 hf
        exact (hk22 _ hf _ _ _ hG hS (lv_sub hl [2] rfl))
set_option maxHeartbeats 4000000 in
set_option maxRecDepth 100000 in
theorem c_X8_placeGivenUpFor {v1 : Int32} {R : Int32} (hf : f_X8_placeGivenUpFor gv h0 v1 = some R) : Met l yX8_placeGivenUpFor wsX8_placeGivenUpFor rm_X8_placeGivenUpFor (va_Pc [.ref h0, .int v1] (gPre D b M (gW cI cL gv) (gTy cI cL))) (gQ D b (some (.int R)) M (gW cI cL gv)) 0 0 (gA b) := by
  refine gp_met (cc := cX8_placeGivenUpFor) (maxL := 3) (ret := (some .int)) (by decide) rfl (Nat.le_of_ble_eq_true rfl) ?_
  intro p e s m below meth c X ls hG hl
  obtain ⟨H, hH0⟩ : ∃ H : Heap, H = s.heap := ⟨_, rfl⟩
  rw [← hH0] at hG ⊢
  have hS : va_S (gA b) s.heap H [] := by rw [hH0]; exact va_S.rf
  obtain ⟨locs, hlo⟩ : ∃ z : List Loc, z = [] := ⟨_, rfl⟩
  rw [← hlo] at hS ⊢
  unfold f_X8_placeGivenUpFor at hf
  obtain ⟨hx, hb, hr, hml, hown, hts, hlocks, hKn, hBs⟩ := id X
  have hK := hKn.1
  have gclL : gcl gLC TX5 5 wsX8_placeGivenUpFor := gcl_L (fun _ h => List.mem_cons_of_mem _ (List.mem_append_left _ (List.mem_append_left _ (List.mem_append_left _ (List.mem_append_left _ (List.mem_append_left _ (List.mem_append_left _ (List.mem_append_right _ h)))))))) (fun _ h => List.mem_cons_of_mem _ (List.mem_append_left _ (List.mem_append_left _ (List.mem_append_left _ (List.mem_append_left _ (List.mem_append_left _ (List.mem_append_right _ h))))))) (fun _ h => List.mem_cons_of_mem _ (List.mem_append_left _ (List.mem_append_left _ (List.mem_append_left _ (List.mem_append_left _ (List.mem_append_right _ h)))))) (fun _ h => List.mem_cons_of_mem _ (List.mem_append_left _ (List.mem_append_left _ (List.mem_append_left _ (List.mem_append_right _ h))))) (fun _ h => List.mem_cons_of_mem _ (List.mem_append_left _ (List.mem_append_left _ (List.mem_append_right _ h)))) (fun _ h => List.mem_cons_of_mem _ (List.mem_append_left _ (List.mem_append_right _ h))) (fun _ h => List.mem_cons_of_mem _ (List.mem_append_right _ h))
  have hl : lv_has ls 3 [(0, .ref h0), (1, .int v1)] := hl
  refine lv_iconst (v := 0) hx hb dX8_placeGivenUpFor_0 (by decide) ?_
  refine lv_istore_n (lv' := [(2, .int 0), (0, .ref h0), (1, .int v1)]) hx hb dX8_placeGivenUpFor_1 rfl hl (by decide) rfl (fun ls hl => ?_)
  refine w_X8_placeGivenUpFor_2 X _ _ hf (fun x2_22 hf H locs ls hG hS hl => ?_) (fun x2_30 hf H locs ls hG hS hl => ?_) _ _ _ hG hS (lv_sub hl [1, 2, 0] rfl)
  · refine lv_iload_n hx hb dX8_placeGivenUpFor_22 rfl (lv_at hl 0 rfl) ?_
    have hf := Option.some.inj hf
    subst hf
    exact gp_retI hx hb hr hlocks hG hS (Nat.le_of_ble_eq_true rfl) (Nat.le_of_ble_eq_true rfl) dX8_placeGivenUpFor_23
  · refine lv_bipush (v := (-9 : Int32)) hx hb dX8_placeGivenUpFor_30 (by decide) ?_
    have hf := Option.some.inj hf
    subst hf
    exact gp_retI hx hb hr hlocks hG hS (Nat.le_of_ble_eq_true rfl) (Nat.le_of_ble_eq_true rfl) dX8_placeGivenUpFor_32
-- X5_takeOut
abbrev rm_X5_takeOut : Room := { frames := 0, cells := 0, slots := 0, locals := 0 }
set_option maxHeartbeats 4000000 in
set_option maxRecDepth 100000 in
theorem w_X5_takeOut_15 {α : Type} {R : α} {K56 : (Nat → GV) → Option α} {v0 : Nat} (X : gC p s m args meth c cX5_takeOut 3 none wsX5_takeOut RX5 D b (gTy cI cL)) : ∀ (n : Nat) (v2 : Int32) (gv : Nat → GV), L_X5_takeOut_15 K56 v0 n v2 gv = some R → (∀ (x : (Nat → GV)), K56 x = some R → ∀ (H : Heap) (locs : List Loc) (ls : Array Slot), GP D b M (gW cI cL x) H → va_S (gA b) s.heap H locs → lv_has ls 3 [(0, .ref v0)] → W p l e rm_X5_takeOut s m args below meth c H locs 0 0 Q (F0 m 56 ls [])) → ∀ (H : Heap) (locs : List Loc) (ls : Array Slot), GP D b M (gW cI cL gv) H → va_S (gA b) s.heap H locs → lv_has ls 3 [(0, .ref v0), (2, .int v2)] → W p l e rm_X5_takeOut s m args below meth c H locs 0 0 Q (F0 m 15 ls []) := by
  obtain ⟨hx, hb, hr, hml, hown, hts, hlocks, hKn, hBs⟩ := id X
  have hK := hKn.1
  have gclL : gcl gLC TX5 5 wsX5_takeOut := gcl_L (fun _ h => List.mem_cons_of_mem _ (List.mem_append_left _ (List.mem_append_left _ (List.mem_append_left _ (List.mem_append_left _ (List.mem_append_left _ (List.mem_append_left _ (List.mem_append_right _ h)))))))) (fun _ h => List.mem_cons_of_mem _ (List.mem_append_left _ (List.mem_append_left _ (List.mem_append_left _ (List.mem_append_left _ (List.mem_append_left _ (List.mem_append_right _ h))))))) (fun _ h => List.mem_cons_of_mem _ (List.mem_append_left _ (List.mem_append_left _ (List.mem_append_left _ (List.mem_append_left _ (List.mem_append_right _ h)))))) (fun _ h => List.mem_cons_of_mem _ (List.mem_append_left _ (List.mem_append_left _ (List.mem_append_left _ (List.mem_append_right _ h))))) (fun _ h => List.mem_cons_of_mem _ (List.mem_append_left _ (List.mem_append_left _ (List.mem_append_right _ h)))) (fun _ h => List.mem_cons_of_mem _ (List.mem_append_left _ (List.mem_append_right _ h))) (fun _ h => List.mem_cons_of_mem _ (List.mem_append_right _ h))
  intro n
  induction n with
  | zero =>
    intro v2 gv hf
    cases hf
  | succ n ih =>
    intro v2 gv hf hk56 H locs ls hG hS hl
    rw [L_X5_takeOut_15.eq_2] at hf
    refine lv_iload_n hx hb dX5_takeOut_15 rfl (lv_at hl 1 rfl) ?_
    refine lv_iconst (v := 1) hx hb dX5_takeOut_16 (by decide) ?_
    refine lv_iadd hx hb dX5_takeOut_17 ?_
    refine lv_aload_n hx hb dX5_takeOut_18 rfl (lv_at hl 0 rfl) ?_
    obtain ⟨t19, ht19, hf⟩ := gb_b hf
    refine cp_get (v := .int t19) hx hb hts gclL hown hK hG 3 (gfI_s ht19) (by decide) (hts _ (List.mem_of_getElem? (i := 1) rfl)) (fun _ h9 => h9) dX5_takeOut_19 ?_
    refine lv_icmp_ge (tgt := 56) hx hb dX5_takeOut_22 (by decide) (fun c22 => ?_) (fun c22 => ?_)
    · have hf := gb_t c22 hf
      exact (hk56 _ hf _ _ _ hG hS (lv_sub hl [0] rfl))
    · have hf := gb_f c22 hf
      refine lv_iload_n hx hb dX5_takeOut_25 rfl (lv_at hl 1 rfl) ?_
      refine lv_iconst (v := 1) hx hb dX5_takeOut_26 (by decide) ?_
      refine lv_iadd hx hb dX5_takeOut_27 ?_
      refine lv_aload_n hx hb dX5_takeOut_28 rfl (lv_at hl 0 rfl) ?_
      obtain ⟨t29, ht29, hf⟩ := gb_b hf
      refine cp_get (v := va_rf t29) hx hb hts gclL hown hK hG 4 (gfR_s ht29) (by decide) (hts _ (List.mem_of_getElem? (i := 2) rfl)) (fun _ h9 => h9) dX5_takeOut_29 ?_
      obtain ⟨q32, hq32, hf⟩ := gb_b hf
      refine W.eq (g2 := F0 m 32 ls [.ref q32, .int (v2 + 1)]) (congrArg (fun z => F0 m 32 ls [va_rf z, .int (v2 + 1)]) hq32) ?_
      obtain ⟨t32, ht32, hf⟩ := gb_b hf
      refine cp_alenI hx hb hK hG ht32 dX5_takeOut_32 ?_
      refine lv_icmp_ge (tgt := 56) hx hb dX5_takeOut_33 (by decide) (fun c33 => ?_) (fun c33 => ?_)
      · have hf := gb_t c33 hf
        exact (hk56 _ hf _ _ _ hG hS (lv_sub hl [0] rfl))
      · have hf := gb_f c33 hf
        refine lv_aload_n hx hb dX5_takeOut_36 rfl (lv_at hl 0 rfl) ?_
        obtain ⟨t37, ht37, hf⟩ := gb_b hf
        refine cp_get (v := va_rf t37) hx hb hts gclL hown hK hG 4 (gfR_s ht37) (by decide) (hts _ (List.mem_of_getElem? (i := 2) rfl)) (fun _ h9 => h9) dX5_takeOut_37 ?_
        refine lv_iload_n hx hb dX5_takeOut_40 rfl (lv_at hl 1 rfl) ?_
        refine lv_aload_n hx hb dX5_takeOut_41 rfl (lv_at hl 0 rfl) ?_
        obtain ⟨t42, ht42, hf⟩ := gb_b hf
        refine cp_get (v := va_rf t42) hx hb hts gclL hown hK hG 4 (gfR_s ht42) (by decide) (hts _ (List.mem_of_getElem? (i := 2) rfl)) (fun _ h9 => h9) dX5_takeOut_42 ?_
        refine lv_iload_n hx hb dX5_takeOut_45 rfl (lv_at hl 1 rfl) ?_
        refine lv_iconst (v := 1) hx hb dX5_takeOut_46 (by decide) ?_
        refine lv_iadd hx hb dX5_takeOut_47 ?_
        obtain ⟨q48, hq48, hf⟩ := gb_b hf
        refine W.eq (g2 := F0 m 48 ls [.int (v2 + 1), .ref q48, .int v2, va_rf t37]) (congrArg (fun z => F0 m 48 ls [.int (v2 + 1), va_rf z, .int v2, va_rf t37]) hq48) ?_
        obtain ⟨t48, ht48, hf⟩ := gb_b hf
        refine cp_iald hx hb hK hG ht48 dX5_takeOut_48 ?_
        obtain ⟨q49, hq49, hf⟩ := gb_b hf
        refine W.eq (g2 := F0 m 49 ls [.int t48, .int v2, .ref q49]) (congrArg (fun z => F0 m 49 ls [.int t48, .int v2, va_rf z]) hq49) ?_
        obtain ⟨g49, ht49, hf⟩ := gb_b hf
        refine cp_iast hx hb hK hG hS ht49 dX5_takeOut_49 (fun H locs hG hS => ?_)
        refine lv_iinc (v := v2 + 1) (lv' := [(2, .int (v2 + 1)), (0, .ref v0)]) hx hb dX5_takeOut_50 hl (k := 1) rfl rfl (by decide) rfl (fun ls hl => ?_)
        refine lv_goto (tgt := 15) hx hb dX5_takeOut_53 (by decide) ?_
        exact ih _ _ hf hk56 _ _ _ hG hS (lv_sub hl [1, 0] rfl)
set_option maxHeartbeats 4000000 in
set_option maxRecDepth 100000 in
theorem c_X5_takeOut {v1 : Int32} {R : (Nat → GV)} (hf : f_X5_takeOut gv h0 v1 = some R) : Met l yX5_takeOut wsX5_takeOut rm_X5_takeOut (va_Pc [.ref h0, .int v1] (gPre D b M (gW cI cL gv) (gTy cI cL))) (gQ D b none M (gW cI cL R)) 0 0 (gA b) := by
  refine gp_met (cc := cX5_takeOut) (maxL := 3) (ret := none) (by decide) rfl (Nat.le_of_ble_eq_true rfl) ?_
  intro p e s m below meth c X ls hG hl
  obtain ⟨H, hH0⟩ : ∃ H : Heap, H = s.heap := ⟨_, rfl⟩
  rw [← hH0] at hG ⊢
  have hS : va_S (gA b) s.heap H [] := by rw [hH0]; exact va_S.rf
  obtain ⟨locs, hlo⟩ : ∃ z : List Loc, z = [] := ⟨_, rfl⟩
  rw [← hlo] at hS ⊢
  unfold f_X5_takeOut at hf
  obtain ⟨hx, hb, hr, hml, hown, hts, hlocks, hKn, hBs⟩ := id X
  have hK := hKn.1
  have gclL : gcl gLC TX5 5 wsX5_takeOut := gcl_L (fun _ h => List.mem_cons_of_mem _ (List.mem_append_left _ (List.mem_append_left _ (List.mem_append_left _ (List.mem_append_left _ (List.mem_append_left _ (List.mem_append_left _ (List.mem_append_right _ h)))))))) (fun _ h => List.mem_cons_of_mem _ (List.mem_append_left _ (List.mem_append_left _ (List.mem_append_left _ (List.mem_append_left _ (List.mem_append_left _ (List.mem_append_right _ h))))))) (fun _ h => List.mem_cons_of_mem _ (List.mem_append_left _ (List.mem_append_left _ (List.mem_append_left _ (List.mem_append_left _ (List.mem_append_right _ h)))))) (fun _ h => List.mem_cons_of_mem _ (List.mem_append_left _ (List.mem_append_left _ (List.mem_append_left _ (List.mem_append_right _ h))))) (fun _ h => List.mem_cons_of_mem _ (List.mem_append_left _ (List.mem_append_left _ (List.mem_append_right _ h)))) (fun _ h => List.mem_cons_of_mem _ (List.mem_append_left _ (List.mem_append_right _ h))) (fun _ h => List.mem_cons_of_mem _ (List.mem_append_right _ h))
  have hl : lv_has ls 3 [(0, .ref h0), (1, .int v1)] := hl
  refine lv_iload_n hx hb dX5_takeOut_0 rfl (lv_at hl 1 rfl) ?_
  refine lv_if_lt (tgt := 12) hx hb dX5_takeOut_1 (by decide) (fun c1 => ?_) (fun c1 => ?_)
  · have hf := gb_t c1 hf
    have hf := Option.some.inj hf
    subst hf
    exact gp_retV hx hb hr hlocks hG hS (Nat.le_of_ble_eq_true rfl) (Nat.le_of_ble_eq_true rfl) dX5_takeOut_12
  · have hf := gb_f c1 hf
    refine lv_iload_n hx hb dX5_takeOut_4 rfl (lv_at hl 1 rfl) ?_
    refine lv_aload_n hx hb dX5_takeOut_5 rfl (lv_at hl 0 rfl) ?_
    obtain ⟨t6, ht6, hf⟩ := gb_b hf
    refine cp_get (v := .int t6) hx hb hts gclL hown hK hG 3 (gfI_s ht6) (by decide) (hts _ (List.mem_of_getElem? (i := 1) rfl)) (fun _ h9 => h9) dX5_takeOut_6 ?_
    refine lv_icmp_lt (tgt := 13) hx hb dX5_takeOut_9 (by decide) (fun c9 => ?_) (fun c9 => ?_)
    · have hf := gb_t c9 hf
      refine lv_iload_n hx hb dX5_takeOut_13 rfl (lv_at hl 1 rfl) ?_
      refine lv_istore_n (lv' := [(2, .int v1), (0, .ref h0), (1, .int v1)]) hx hb dX5_takeOut_14 rfl hl (by decide) rfl (fun ls hl => ?_)
      refine w_X5_takeOut_15 X _ _ _ hf (fun x15_56 hf H locs ls hG hS hl => ?_) _ _ _ hG hS (lv_sub hl [1, 0] rfl)
      · refine lv_aload_n hx hb dX5_takeOut_56 rfl (lv_at hl 0 rfl) ?_
        refine lv_dup hx hb dX5_takeOut_57 rfl ?_
        obtain ⟨t58, ht58, hf⟩ := gb_b hf
        refine cp_get (v := .int t58) hx hb hts gclL hown hK hG 3 (gfI_s ht58) (by decide) (hts _ (List.mem_of_getElem? (i := 1) rfl)) (fun _ h9 => h9) dX5_takeOut_58 ?_
        refine lv_iconst (v := 1) hx hb dX5_takeOut_61 (by decide) ?_
        refine lv_isub hx hb dX5_takeOut_62 ?_
        obtain ⟨g63, ht63, hf⟩ := gb_b hf
        refine cp_put (tyk := .int) hx hb hts gclL tyX5 tyX5_ok nmX5 hown hK hG hS 3 ht63 (by decide) (hts _ (List.mem_of_getElem? (i := 1) rfl)) (fun _ h9 => h9) rfl (by decide +kernel) rfl rfl dX5_takeOut_63 (fun H locs hG hS => ?_)
        have hf := Option.some.inj hf
        subst hf
        exact gp_retV hx hb hr hlocks hG hS (Nat.le_of_ble_eq_true rfl) (Nat.le_of_ble_eq_true rfl) dX5_takeOut_66
    · have hf := gb_f c9 hf
      have hf := Option.some.inj hf
      subst hf
      exact gp_retV hx hb hr hlocks hG hS (Nat.le_of_ble_eq_true rfl) (Nat.le_of_ble_eq_true rfl) dX5_takeOut_12
end
