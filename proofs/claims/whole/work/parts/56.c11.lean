section
variable {p : Program} {l : Launch} {e : Env} {s : State} {m : MethodId} {args : Array Value} {below : List Frame} {meth : Method} {c : Code} {D : va_G} {b : GB} {M : Nat} {cI cL : ClassId} {h0 : Nat} {gv : Nat → GV} {gh : Nat → va_E} {Q : State → Prop}
-- X10_isPerson
abbrev rm_X10_isPerson : Room := { frames := 0, cells := 0, slots := 0, locals := 0 }
set_option maxHeartbeats 4000000 in
set_option maxRecDepth 100000 in
theorem c_X10_isPerson {v1 : Int32} {R : Int32} (hf : f_X10_isPerson gv h0 v1 = some R) : Met l yX10_isPerson wsX10_isPerson rm_X10_isPerson (va_Pc [.ref h0, .int v1] (gPre D b M (gW cI cL gv) (gTy cI cL))) (gQ D b (some (.int R)) M (gW cI cL gv)) 0 0 (gA b) := by
  refine gp_met (cc := cX10_isPerson) (maxL := 2) (ret := (some .boolean)) (by decide) rfl (Nat.le_of_ble_eq_true rfl) ?_
  intro p e s m below meth c X ls hG hl
  obtain ⟨H, hH0⟩ : ∃ H : Heap, H = s.heap := ⟨_, rfl⟩
  rw [← hH0] at hG ⊢
  have hS : va_S (gA b) s.heap H [] := by rw [hH0]; exact va_S.rf
  obtain ⟨locs, hlo⟩ : ∃ z : List Loc, z = [] := ⟨_, rfl⟩
  rw [← hlo] at hS ⊢
  unfold f_X10_isPerson at hf
  obtain ⟨hx, hb, hr, hml, hown, hts, hlocks, hKn, hBs⟩ := id X
  have hK := hKn.1
  have gclX10 : gcl [8] TX10 6 wsX10_isPerson := gcl_1 rfl (fun _ h => List.mem_cons_of_mem _ (List.mem_append_right _ h))
  have hl : lv_has ls 2 [(0, .ref h0), (1, .int v1)] := hl
  refine lv_iload_n hx hb dX10_isPerson_0 rfl (lv_at hl 1 rfl) ?_
  obtain ⟨j1, hj1, hf⟩ := gb_b hf
  have hJ1 : ∀ (H : Heap) (locs : List Loc) (ls : Array Slot), GP D b M (gW cI cL gv) H → va_S (gA b) s.heap H locs → lv_has ls 2 [] → W p l e rm_X10_isPerson s m [.ref h0, .int v1].toArray below meth c H locs 0 0 (MQ below (gQ D b (some (.int R)) M (gW cI cL gv)) [.ref h0, .int v1].toArray s 0 0 (gA b)) (F0 m 17 ls [.int j1]) := by
    intro H locs ls hG hS hl
    obtain ⟨z17, hf⟩ := gb_zb hf
    have hf := Option.some.inj hf
    subst hf
    exact gp_retZ hx hb hr z17 hlocks hG hS (Nat.le_of_ble_eq_true rfl) (Nat.le_of_ble_eq_true rfl) dX10_isPerson_17
  refine lv_if_lt (tgt := 16) hx hb dX10_isPerson_1 (by decide) (fun c1 => ?_) (fun c1 => ?_)
  · have hj1 := gb_t c1 hj1
    refine lv_iconst (v := 0) hx hb dX10_isPerson_16 (by decide) ?_
    have hj1 := Option.some.inj hj1
    subst hj1
    exact (hJ1 H locs ls hG hS (lv_sub hl [] rfl))
  · have hj1 := gb_f c1 hj1
    refine lv_iload_n hx hb dX10_isPerson_4 rfl (lv_at hl 1 rfl) ?_
    refine lv_aload_n hx hb dX10_isPerson_5 rfl (lv_at hl 0 rfl) ?_
    obtain ⟨t6, ht6, hj1⟩ := gb_b hj1
    refine cp_get (v := .int t6) hx hb hts gclX10 hown hK hG 4 (gfI_s ht6) (by decide) (hts _ (List.mem_of_getElem? (i := 1) rfl)) (fun _ h9 => h9) dX10_isPerson_6 ?_
    refine lv_icmp_ge (tgt := 16) hx hb dX10_isPerson_9 (by decide) (fun c9 => ?_) (fun c9 => ?_)
    · have hj1 := gb_t c9 hj1
      refine lv_iconst (v := 0) hx hb dX10_isPerson_16 (by decide) ?_
      have hj1 := Option.some.inj hj1
      subst hj1
      exact (hJ1 H locs ls hG hS (lv_sub hl [] rfl))
    · have hj1 := gb_f c9 hj1
      refine lv_iconst (v := 1) hx hb dX10_isPerson_12 (by decide) ?_
      refine lv_goto (tgt := 17) hx hb dX10_isPerson_13 (by decide) ?_
      have hj1 := Option.some.inj hj1
      subst hj1
      exact (hJ1 H locs ls hG hS (lv_sub hl [] rfl))
-- X10_lampAt
abbrev rm_X10_lampAt : Room := { frames := 0, cells := 0, slots := 0, locals := 0 }
set_option maxHeartbeats 4000000 in
set_option maxRecDepth 100000 in
theorem c_X10_lampAt {v1 : Int32} {R : Option Nat} (hf : f_X10_lampAt gv h0 v1 = some R) : Met l yX10_lampAt wsX10_lampAt rm_X10_lampAt (va_Pc [.ref h0, .int v1] (gPre D b M (gW cI cL gv) (gTy cI cL))) (gQ D b (some (va_rf R)) M (gW cI cL gv)) 0 0 (gA b) := by
  refine gp_met (cc := cX10_lampAt) (maxL := 2) (ret := (some (.object "LampsThatRemember$Lamp"))) (by decide) rfl (Nat.le_of_ble_eq_true rfl) ?_
  intro p e s m below meth c X ls hG hl
  obtain ⟨H, hH0⟩ : ∃ H : Heap, H = s.heap := ⟨_, rfl⟩
  rw [← hH0] at hG ⊢
  have hS : va_S (gA b) s.heap H [] := by rw [hH0]; exact va_S.rf
  obtain ⟨locs, hlo⟩ : ∃ z : List Loc, z = [] := ⟨_, rfl⟩
  rw [← hlo] at hS ⊢
  unfold f_X10_lampAt at hf
  obtain ⟨hx, hb, hr, hml, hown, hts, hlocks, hKn, hBs⟩ := id X
  have hK := hKn.1
  have gclX10 : gcl [8] TX10 6 wsX10_lampAt := gcl_1 rfl (fun _ h => List.mem_cons_of_mem _ (List.mem_append_right _ h))
  have hl : lv_has ls 2 [(0, .ref h0), (1, .int v1)] := hl
  refine lv_iload_n hx hb dX10_lampAt_0 rfl (lv_at hl 1 rfl) ?_
  obtain ⟨j1, hj1, hf⟩ := gb_b hf
  have hJ1 : ∀ (H : Heap) (locs : List Loc) (ls : Array Slot), GP D b M (gW cI cL gv) H → va_S (gA b) s.heap H locs → lv_has ls 2 [] → W p l e rm_X10_lampAt s m [.ref h0, .int v1].toArray below meth c H locs 0 0 (MQ below (gQ D b (some (va_rf R)) M (gW cI cL gv)) [.ref h0, .int v1].toArray s 0 0 (gA b)) (F0 m 31 ls [va_rf j1]) := by
    intro H locs ls hG hS hl
    have hf := Option.some.inj hf
    subst hf
    exact gp_retR (v := j1) hx hb hr hlocks hG hS (Nat.le_of_ble_eq_true rfl) (Nat.le_of_ble_eq_true rfl) dX10_lampAt_31
  refine lv_if_lt (tgt := 30) hx hb dX10_lampAt_1 (by decide) (fun c1 => ?_) (fun c1 => ?_)
  · have hj1 := gb_t c1 hj1
    refine lv_null hx hb dX10_lampAt_30 ?_
    have hj1 := Option.some.inj hj1
    subst hj1
    exact (hJ1 H locs ls hG hS (lv_sub hl [] rfl))
  · have hj1 := gb_f c1 hj1
    refine lv_iload_n hx hb dX10_lampAt_4 rfl (lv_at hl 1 rfl) ?_
    refine lv_aload_n hx hb dX10_lampAt_5 rfl (lv_at hl 0 rfl) ?_
    obtain ⟨t6, ht6, hj1⟩ := gb_b hj1
    refine cp_get (v := .int t6) hx hb hts gclX10 hown hK hG 3 (gfI_s ht6) (by decide) (hts _ (List.mem_of_getElem? (i := 1) rfl)) (fun _ h9 => h9) dX10_lampAt_6 ?_
    refine lv_icmp_ge (tgt := 30) hx hb dX10_lampAt_9 (by decide) (fun c9 => ?_) (fun c9 => ?_)
    · have hj1 := gb_t c9 hj1
      refine lv_null hx hb dX10_lampAt_30 ?_
      have hj1 := Option.some.inj hj1
      subst hj1
      exact (hJ1 H locs ls hG hS (lv_sub hl [] rfl))
    · have hj1 := gb_f c9 hj1
      refine lv_iload_n hx hb dX10_lampAt_12 rfl (lv_at hl 1 rfl) ?_
      refine lv_aload_n hx hb dX10_lampAt_13 rfl (lv_at hl 0 rfl) ?_
      obtain ⟨t14, ht14, hj1⟩ := gb_b hj1
      refine cp_get (v := va_rf t14) hx hb hts gclX10 hown hK hG 0 (gfR_s ht14) (by decide) (hts _ (List.mem_of_getElem? (i := 2) rfl)) (fun _ h9 => h9) dX10_lampAt_14 ?_
      obtain ⟨q17, hq17, hj1⟩ := gb_b hj1
      refine W.eq (g2 := F0 m 17 ls [.ref q17, .int v1]) (congrArg (fun z => F0 m 17 ls [va_rf z, .int v1]) hq17) ?_
      obtain ⟨t17, ht17, hj1⟩ := gb_b hj1
      refine cp_alenR hx hb hK hG ht17 dX10_lampAt_17 ?_
      refine lv_icmp_ge (tgt := 30) hx hb dX10_lampAt_18 (by decide) (fun c18 => ?_) (fun c18 => ?_)
      · have hj1 := gb_t c18 hj1
        refine lv_null hx hb dX10_lampAt_30 ?_
        have hj1 := Option.some.inj hj1
        subst hj1
        exact (hJ1 H locs ls hG hS (lv_sub hl [] rfl))
      · have hj1 := gb_f c18 hj1
        refine lv_aload_n hx hb dX10_lampAt_21 rfl (lv_at hl 0 rfl) ?_
        obtain ⟨t22, ht22, hj1⟩ := gb_b hj1
        refine cp_get (v := va_rf t22) hx hb hts gclX10 hown hK hG 0 (gfR_s ht22) (by decide) (hts _ (List.mem_of_getElem? (i := 2) rfl)) (fun _ h9 => h9) dX10_lampAt_22 ?_
        refine lv_iload_n hx hb dX10_lampAt_25 rfl (lv_at hl 1 rfl) ?_
        obtain ⟨q26, hq26, hj1⟩ := gb_b hj1
        refine W.eq (g2 := F0 m 26 ls [.int v1, .ref q26]) (congrArg (fun z => F0 m 26 ls [.int v1, va_rf z]) hq26) ?_
        obtain ⟨t26, ht26, hj1⟩ := gb_b hj1
        refine cp_aald hx hb hK hG ht26 dX10_lampAt_26 ?_
        refine lv_goto (tgt := 31) hx hb dX10_lampAt_27 (by decide) ?_
        have hj1 := Option.some.inj hj1
        subst hj1
        exact (hJ1 H locs ls hG hS (lv_sub hl [] rfl))
-- X10_lampsKeep
abbrev rm_X10_lampsKeep : Room := { frames := 3, cells := 0, slots := 0, locals := 74 }
set_option maxHeartbeats 4000000 in
set_option maxRecDepth 100000 in
theorem w_X10_lampsKeep_2 {α : Type} {R : α} {K60 : (Nat → GV) → Option α} {v0 : Nat} {v1 : Int32} {v2 : Int32} (X : gC p s m args meth c cX10_lampsKeep 5 none wsX10_lampsKeep RX10 D b (gTy cI cL)) : ∀ (n : Nat) (v3 : Int32) (gv : Nat → GV), L_X10_lampsKeep_2 K60 v0 v1 v2 n v3 gv = some R → (∀ (x : (Nat → GV)), K60 x = some R → ∀ (H : Heap) (locs : List Loc) (ls : Array Slot), GP D b M (gW cI cL x) H → va_S (gA b) s.heap H locs → lv_has ls 5 [] → W p l e rm_X10_lampsKeep s m args below meth c H locs 0 0 Q (F0 m 60 ls [])) → ∀ (H : Heap) (locs : List Loc) (ls : Array Slot), GP D b M (gW cI cL gv) H → va_S (gA b) s.heap H locs → lv_has ls 5 [(0, .ref v0), (1, .int v1), (2, .int v2), (3, .int v3)] → W p l e rm_X10_lampsKeep s m args below meth c H locs 0 0 Q (F0 m 2 ls []) := by
  obtain ⟨hx, hb, hr, hml, hown, hts, hlocks, hKn, hBs⟩ := id X
  have hK := hKn.1
  have gclL : gcl gLC TX5 5 wsX10_lampsKeep := gcl_L (fun _ h => List.mem_cons_of_mem _ (List.mem_append_left _ (List.mem_append_left _ (List.mem_append_left _ (List.mem_append_left _ (List.mem_append_left _ (List.mem_append_left _ (List.mem_append_right _ h)))))))) (fun _ h => List.mem_cons_of_mem _ (List.mem_append_left _ (List.mem_append_left _ (List.mem_append_left _ (List.mem_append_left _ (List.mem_append_left _ (List.mem_append_right _ h))))))) (fun _ h => List.mem_cons_of_mem _ (List.mem_append_left _ (List.mem_append_left _ (List.mem_append_left _ (List.mem_append_left _ (List.mem_append_right _ h)))))) (fun _ h => List.mem_cons_of_mem _ (List.mem_append_left _ (List.mem_append_left _ (List.mem_append_left _ (List.mem_append_right _ h))))) (fun _ h => List.mem_cons_of_mem _ (List.mem_append_left _ (List.mem_append_left _ (List.mem_append_right _ h)))) (fun _ h => List.mem_cons_of_mem _ (List.mem_append_left _ (List.mem_append_right _ h))) (fun _ h => List.mem_cons_of_mem _ (List.mem_append_right _ h))
  have gclX10 : gcl [8] TX10 6 wsX10_lampsKeep := gcl_1 rfl (fun _ h => List.mem_cons_of_mem _ (List.mem_append_left _ (List.mem_append_left _ (List.mem_append_left _ (List.mem_append_left _ (List.mem_append_left _ (List.mem_append_left _ (List.mem_append_left _ (List.mem_append_right _ h)))))))))
  intro n
  induction n with
  | zero =>
    intro v3 gv hf
    cases hf
  | succ n ih =>
    intro v3 gv hf hk60 H locs ls hG hS hl
    rw [L_X10_lampsKeep_2.eq_2] at hf
    refine lv_iload_n hx hb dX10_lampsKeep_2 rfl (lv_at hl 3 rfl) ?_
    refine lv_aload_n hx hb dX10_lampsKeep_3 rfl (lv_at hl 0 rfl) ?_
    obtain ⟨t4, ht4, hf⟩ := gb_b hf
    refine cp_get (v := .int t4) hx hb hts gclX10 hown hK hG 3 (gfI_s ht4) (by decide) (hts _ (List.mem_of_getElem? (i := 1) rfl)) (fun _ h9 => h9) dX10_lampsKeep_4 ?_
    refine lv_icmp_ge (tgt := 60) hx hb dX10_lampsKeep_7 (by decide) (fun c7 => ?_) (fun c7 => ?_)
    · have hf := gb_t c7 hf
      exact (hk60 _ hf _ _ _ hG hS (lv_sub hl [] rfl))
    · have hf := gb_f c7 hf
      refine lv_aload_n hx hb dX10_lampsKeep_10 rfl (lv_at hl 0 rfl) ?_
      refine lv_iload_n hx hb dX10_lampsKeep_11 rfl (lv_at hl 3 rfl) ?_
      obtain ⟨o12, hc12, hf⟩ := gb_b hf
      obtain ⟨oc12, hcO12, hc12⟩ := gb_b hc12
      obtain ⟨hcg12, hci12⟩ := gfO_s hcO12
      have hci12 := List.mem_singleton.mp hci12
      obtain ⟨kc12, fc12⟩ := oc12
      dsimp only at hci12 hcg12
      subst hci12
      refine gp_callR (va_runV (As := [.int v3]) (rest := []) ⟨hx, hb, hml, hown, hts⟩ (c_X10_lampAt (l := l) (D := D) (b := b) (cI := cI) (cL := cL) hc12) (cwV 1 hts gX10_lampsKeep_X10_lampAt rfl rfl rfl (by decide +kernel) ⟨Nat.le_of_ble_eq_true rfl, Nat.le_of_ble_eq_true rfl⟩) (gp_preV hKn hG (cp_obj hcg12) rfl) rfl rfl hl.1 rfl (lv_room (Nat.le_of_ble_eq_true rfl)) dX10_lampsKeep_12 ⟨Nat.le_of_ble_eq_true rfl, Nat.le_of_ble_eq_true rfl⟩) hS (fun H locs hG hS => ?_)
      refine gp_astore (lv' := [(4, va_rf o12), (0, .ref v0), (1, .int v1), (2, .int v2), (3, .int v3)]) hx hb dX10_lampsKeep_15 hl (by decide) rfl (fun ls hl => ?_)
      refine gp_aload (x := o12) hx hb dX10_lampsKeep_17 (lv_at hl 0 rfl) ?_
      obtain ⟨j19, hj19, hf⟩ := gb_b hf
      have hJ19 : ∀ (H : Heap) (locs : List Loc) (ls : Array Slot), GP D b M (gW cI cL j19) H → va_S (gA b) s.heap H locs → lv_has ls 5 [(0, .ref v0), (1, .int v1), (2, .int v2), (3, .int v3)] → W p l e rm_X10_lampsKeep s m args below meth c H locs 0 0 Q (F0 m 54 ls []) := by
        intro H locs ls hG hS hl
        refine lv_iinc (v := v3 + 1) (lv' := [(3, .int (v3 + 1)), (0, .ref v0), (1, .int v1), (2, .int v2)]) hx hb dX10_lampsKeep_54 hl (k := 3) rfl rfl (by decide) rfl (fun ls hl => ?_)
        refine lv_goto (tgt := 2) hx hb dX10_lampsKeep_57 (by decide) ?_
        exact ih _ _ hf hk60 _ _ _ hG hS (lv_sub hl [1, 2, 3, 0] rfl)
      refine gp_ifnull (x := o12) (tgt := 54) hx hb dX10_lampsKeep_19 (by decide) ?_ ?_
      · intro e19
        rw [e19] at hl
        rw [e19] at hj19
        dsimp only at hj19
        have hj19 := Option.some.inj hj19
        subst hj19
        exact (hJ19 H locs ls hG hS (lv_sub hl [1, 2, 3, 4] rfl))
      · intro n19 e19
        rw [e19] at hl
        rw [e19] at hj19
        dsimp only at hj19
        refine lv_aload hx hb dX10_lampsKeep_22 (lv_at hl 0 rfl) ?_
        obtain ⟨t24, ht24, hj19⟩ := gb_b hj19
        refine cp_get (v := .int t24) hx hb hts gclL hown hK hG 2 (gfI_s ht24) (by decide) (hts _ (List.mem_of_getElem? (i := 2) rfl)) (fun _ h9 => h9) dX10_lampsKeep_24 ?_
        refine lv_if_eq (tgt := 54) hx hb dX10_lampsKeep_27 (by decide) (fun c27 => ?_) (fun c27 => ?_)
        · have hj19 := gb_t c27 hj19
          have hj19 := Option.some.inj hj19
          subst hj19
          exact (hJ19 H locs ls hG hS (lv_sub hl [1, 2, 3, 4] rfl))
        · have hj19 := gb_f c27 hj19
          refine lv_aload hx hb dX10_lampsKeep_30 (lv_at hl 0 rfl) ?_
          refine lv_aload_n hx hb dX10_lampsKeep_32 rfl (lv_at hl 1 rfl) ?_
          obtain ⟨o33, hc33, hj19⟩ := gb_b hj19
          have hrun33 : va_Run p l e rm_X10_lampsKeep s m args below meth c H locs 0 0 0 0 (F0 m 33 ls ([.ref v0].reverse ++ .ref n19 :: [])) [] (gQ D b (some (.long o33)) M (gW cI cL gv) (Value.ref n19 :: [.ref v0]).toArray) (gA b) := by
            obtain ⟨oc, hcO, hc33⟩ := gb_b hc33
            obtain ⟨hcg, hci⟩ := gfO_s hcO
            obtain ⟨kc, fc⟩ := oc
            dsimp only at hci hcg hc33
            rcases gLC_7 hci with rfl | rfl | rfl | rfl | rfl | rfl | rfl
            · exact va_runU (As := [.ref v0]) (rest := []) ⟨hx, hb, hml, hown, hts⟩ (c_X5_glow (l := l) (D := D) (b := b) (cI := cI) (cL := cL) hc33) (va_cwU 1 hts gX10_lampsKeep_X5_glow_u112X0 rfl rfl rfl rfl (by decide +kernel) ⟨Nat.le_of_ble_eq_true rfl, Nat.le_of_ble_eq_true rfl⟩) (gp_preV hKn hG (cp_obj hcg) rfl) rfl rfl hl.1 rfl (lv_room (Nat.le_of_ble_eq_true rfl)) dX10_lampsKeep_33 ⟨Nat.le_of_ble_eq_true rfl, Nat.le_of_ble_eq_true rfl⟩
            · exact va_runU (As := [.ref v0]) (rest := []) ⟨hx, hb, hml, hown, hts⟩ (c_X5_glow (l := l) (D := D) (b := b) (cI := cI) (cL := cL) hc33) (va_cwU 1 hts gX10_lampsKeep_X5_glow_u112X1 rfl rfl rfl rfl (by decide +kernel) ⟨Nat.le_of_ble_eq_true rfl, Nat.le_of_ble_eq_true rfl⟩) (gp_preV hKn hG (cp_obj hcg) rfl) rfl rfl hl.1 rfl (lv_room (Nat.le_of_ble_eq_true rfl)) dX10_lampsKeep_33 ⟨Nat.le_of_ble_eq_true rfl, Nat.le_of_ble_eq_true rfl⟩
            · exact va_runU (As := [.ref v0]) (rest := []) ⟨hx, hb, hml, hown, hts⟩ (c_X5_glow (l := l) (D := D) (b := b) (cI := cI) (cL := cL) hc33) (va_cwU 1 hts gX10_lampsKeep_X5_glow_u112X3 rfl rfl rfl rfl (by decide +kernel) ⟨Nat.le_of_ble_eq_true rfl, Nat.le_of_ble_eq_true rfl⟩) (gp_preV hKn hG (cp_obj hcg) rfl) rfl rfl hl.1 rfl (lv_room (Nat.le_of_ble_eq_true rfl)) dX10_lampsKeep_33 ⟨Nat.le_of_ble_eq_true rfl, Nat.le_of_ble_eq_true rfl⟩
            · exact va_runU (As := [.ref v0]) (rest := []) ⟨hx, hb, hml, hown, hts⟩ (c_X5_glow (l := l) (D := D) (b := b) (cI := cI) (cL := cL) hc33) (va_cwU 1 hts gX10_lampsKeep_X5_glow_u112X4 rfl rfl rfl rfl (by decide +kernel) ⟨Nat.le_of_ble_eq_true rfl, Nat.le_of_ble_eq_true rfl⟩) (gp_preV hKn hG (cp_obj hcg) rfl) rfl rfl hl.1 rfl (lv_room (Nat.le_of_ble_eq_true rfl)) dX10_lampsKeep_33 ⟨Nat.le_of_ble_eq_true rfl, Nat.le_of_ble_eq_true rfl⟩
            · exact va_runV (As := [.ref v0]) (rest := []) ⟨hx, hb, hml, hown, hts⟩ (c_X5_glow (l := l) (D := D) (b := b) (cI := cI) (cL := cL) hc33) (cwV 1 hts gX10_lampsKeep_X5_glow rfl rfl rfl (by decide +kernel) ⟨Nat.le_of_ble_eq_true rfl, Nat.le_of_ble_eq_true rfl⟩) (gp_preV hKn hG (cp_obj hcg) rfl) rfl rfl hl.1 rfl (lv_room (Nat.le_of_ble_eq_true rfl)) dX10_lampsKeep_33 ⟨Nat.le_of_ble_eq_true rfl, Nat.le_of_ble_eq_true rfl⟩
            · exact va_runU (As := [.ref v0]) (rest := []) ⟨hx, hb, hml, hown, hts⟩ (c_X5_glow (l := l) (D := D) (b := b) (cI := cI) (cL := cL) hc33) (va_cwU 1 hts gX10_lampsKeep_X5_glow_u112X7 rfl rfl rfl rfl (by decide +kernel) ⟨Nat.le_of_ble_eq_true rfl, Nat.le_of_ble_eq_true rfl⟩) (gp_preV hKn hG (cp_obj hcg) rfl) rfl rfl hl.1 rfl (lv_room (Nat.le_of_ble_eq_true rfl)) dX10_lampsKeep_33 ⟨Nat.le_of_ble_eq_true rfl, Nat.le_of_ble_eq_true rfl⟩
            · exact va_runU (As := [.ref v0]) (rest := []) ⟨hx, hb, hml, hown, hts⟩ (c_X5_glow (l := l) (D := D) (b := b) (cI := cI) (cL := cL) hc33) (va_cwU 1 hts gX10_lampsKeep_X5_glow_u112X8 rfl rfl rfl rfl (by decide +kernel) ⟨Nat.le_of_ble_eq_true rfl, Nat.le_of_ble_eq_true rfl⟩) (gp_preV hKn hG (cp_obj hcg) rfl) rfl rfl hl.1 rfl (lv_room (Nat.le_of_ble_eq_true rfl)) dX10_lampsKeep_33 ⟨Nat.le_of_ble_eq_true rfl, Nat.le_of_ble_eq_true rfl⟩
          refine gp_callL hrun33 hS (fun H locs hG hS => ?_)
          refine lv_iload_n hx hb dX10_lampsKeep_36 rfl (lv_at hl 3 rfl) ?_
          obtain ⟨o37, hc37, hj19⟩ := gb_b hj19
          refine gp_callI (va_runS (As := [.long o33, .int v2]) (rest := []) ⟨hx, hb, hml, hown, hts⟩ (c_X2_has (l := l) (D := D) (b := b) (cI := cI) (cL := cL) hc37) (va_cwS 2 hts gX10_lampsKeep_X2_has rfl rfl rfl (by decide +kernel) ⟨Nat.le_of_ble_eq_true rfl, Nat.le_of_ble_eq_true rfl⟩) (gp_preS hKn hG) rfl rfl hl.1 rfl (lv_room (Nat.le_of_ble_eq_true rfl)) dX10_lampsKeep_37 ⟨Nat.le_of_ble_eq_true rfl, Nat.le_of_ble_eq_true rfl⟩) hS (fun H locs hG hS => ?_)
          refine lv_if_eq (tgt := 54) hx hb dX10_lampsKeep_40 (by decide) (fun c40 => ?_) (fun c40 => ?_)
          · have hj19 := gb_t c40 hj19
            have hj19 := Option.some.inj hj19
            subst hj19
            exact (hJ19 H locs ls hG hS (lv_sub hl [1, 2, 3, 4] rfl))
          · have hj19 := gb_f c40 hj19
            refine lv_aload hx hb dX10_lampsKeep_43 (lv_at hl 0 rfl) ?_
            refine lv_iload_n hx hb dX10_lampsKeep_45 rfl (lv_at hl 2 rfl) ?_
            refine lv_iload_n hx hb dX10_lampsKeep_46 rfl (lv_at hl 3 rfl) ?_
            refine lv_aload_n hx hb dX10_lampsKeep_47 rfl (lv_at hl 1 rfl) ?_
            obtain ⟨t48, ht48, hj19⟩ := gb_b hj19
            refine cp_get (v := .int t48) hx hb hts gclX10 hown hK hG 5 (gfI_s ht48) (by decide) (hts _ (List.mem_of_getElem? (i := 3) rfl)) (fun _ h9 => h9) dX10_lampsKeep_48 ?_
            obtain ⟨o51, hc51, hj19⟩ := gb_b hj19
            have hrun51 : va_Run p l e rm_X10_lampsKeep s m args below meth c H locs 0 0 0 0 (F0 m 51 ls ([.int v1, .int v2, .int t48].reverse ++ .ref n19 :: [])) [] (gQ D b none M (gW cI cL o51) (Value.ref n19 :: [.int v1, .int v2, .int t48]).toArray) (gA b) := by
              obtain ⟨oc, hcO, hc51⟩ := gb_b hc51
              obtain ⟨hcg, hci⟩ := gfO_s hcO
              obtain ⟨kc, fc⟩ := oc
              dsimp only at hci hcg hc51
              rcases gLC_7 hci with rfl | rfl | rfl | rfl | rfl | rfl | rfl
              · exact va_runU (As := [.int v1, .int v2, .int t48]) (rest := []) ⟨hx, hb, hml, hown, hts⟩ (c_X5_keep (l := l) (D := D) (b := b) (cI := cI) (cL := cL) hc51) (va_cwU 3 hts gX10_lampsKeep_X5_keep_u116X0 rfl rfl rfl rfl (by decide +kernel) ⟨Nat.le_of_ble_eq_true rfl, Nat.le_of_ble_eq_true rfl⟩) (gp_preV hKn hG (cp_obj hcg) rfl) rfl rfl hl.1 rfl (lv_room (Nat.le_of_ble_eq_true rfl)) dX10_lampsKeep_51 ⟨Nat.le_of_ble_eq_true rfl, Nat.le_of_ble_eq_true rfl⟩
              · exact va_runU (As := [.int v1, .int v2, .int t48]) (rest := []) ⟨hx, hb, hml, hown, hts⟩ (c_X5_keep (l := l) (D := D) (b := b) (cI := cI) (cL := cL) hc51) (va_cwU 3 hts gX10_lampsKeep_X5_keep_u116X1 rfl rfl rfl rfl (by decide +kernel) ⟨Nat.le_of_ble_eq_true rfl, Nat.le_of_ble_eq_true rfl⟩) (gp_preV hKn hG (cp_obj hcg) rfl) rfl rfl hl.1 rfl (lv_room (Nat.le_of_ble_eq_true rfl)) dX10_lampsKeep_51 ⟨Nat.le_of_ble_eq_true rfl, Nat.le_of_ble_eq_true rfl⟩
              · exact va_runU (As := [.int v1, .int v2, .int t48]) (rest := []) ⟨hx, hb, hml, hown, hts⟩ (c_X5_keep (l := l) (D := D) (b := b) (cI := cI) (cL := cL) hc51) (va_cwU 3 hts gX10_lampsKeep_X5_keep_u116X3 rfl rfl rfl rfl (by decide +kernel) ⟨Nat.le_of_ble_eq_true rfl, Nat.le_of_ble_eq_true rfl⟩) (gp_preV hKn hG (cp_obj hcg) rfl) rfl rfl hl.1 rfl (lv_room (Nat.le_of_ble_eq_true rfl)) dX10_lampsKeep_51 ⟨Nat.le_of_ble_eq_true rfl, Nat.le_of_ble_eq_true rfl⟩
              · exact va_runU (As := [.int v1, .int v2, .int t48]) (rest := []) ⟨hx, hb, hml, hown, hts⟩ (c_X5_keep (l := l) (D := D) (b := b) (cI := cI) (cL := cL) hc51) (va_cwU 3 hts gX10_lampsKeep_X5_keep_u116X4 rfl rfl rfl rfl (by decide +kernel) ⟨Nat.le_of_ble_eq_true rfl, Nat.le_of_ble_eq_true rfl⟩) (gp_preV hKn hG (cp_obj hcg) rfl) rfl rfl hl.1 rfl (lv_room (Nat.le_of_ble_eq_true rfl)) dX10_lampsKeep_51 ⟨Nat.le_of_ble_eq_true rfl, Nat.le_of_ble_eq_true rfl⟩
              · exact va_runV (As := [.int v1, .int v2, .int t48]) (rest := []) ⟨hx, hb, hml, hown, hts⟩ (c_X5_keep (l := l) (D := D) (b := b) (cI := cI) (cL := cL) hc51) (cwV 3 hts gX10_lampsKeep_X5_keep rfl rfl rfl (by decide +kernel) ⟨Nat.le_of_ble_eq_true rfl, Nat.le_of_ble_eq_true rfl⟩) (gp_preV hKn hG (cp_obj hcg) rfl) rfl rfl hl.1 rfl (lv_room (Nat.le_of_ble_eq_true rfl)) dX10_lampsKeep_51 ⟨Nat.le_of_ble_eq_true rfl, Nat.le_of_ble_eq_true rfl⟩
              · exact va_runU (As := [.int v1, .int v2, .int t48]) (rest := []) ⟨hx, hb, hml, hown, hts⟩ (c_X5_keep (l := l) (D := D) (b := b) (cI := cI) (cL := cL) hc51) (va_cwU 3 hts gX10_lampsKeep_X5_keep_u116X7 rfl rfl rfl rfl (by decide +kernel) ⟨Nat.le_of_ble_eq_true rfl, Nat.le_of_ble_eq_true rfl⟩) (gp_preV hKn hG (cp_obj hcg) rfl) rfl rfl hl.1 rfl (lv_room (Nat.le_of_ble_eq_true rfl)) dX10_lampsKeep_51 ⟨Nat.le_of_ble_eq_true rfl, Nat.le_of_ble_eq_true rfl⟩
              · exact va_runU (As := [.int v1, .int v2, .int t48]) (rest := []) ⟨hx, hb, hml, hown, hts⟩ (c_X5_keep (l := l) (D := D) (b := b) (cI := cI) (cL := cL) hc51) (va_cwU 3 hts gX10_lampsKeep_X5_keep_u116X8 rfl rfl rfl rfl (by decide +kernel) ⟨Nat.le_of_ble_eq_true rfl, Nat.le_of_ble_eq_true rfl⟩) (gp_preV hKn hG (cp_obj hcg) rfl) rfl rfl hl.1 rfl (lv_room (Nat.le_of_ble_eq_true rfl)) dX10_lampsKeep_51 ⟨Nat.le_of_ble_eq_true rfl, Nat.le_of_ble_eq_true rfl⟩
            refine gp_callV hrun51 hS (fun H locs hG hS => ?_)
            have hj19 := Option.some.inj hj19
            subst hj19
            exact (hJ19 H locs ls hG hS (lv_sub hl [1, 2, 3, 4] rfl))
set_option maxHeartbeats 4000000 in
set_option maxRecDepth 100000 in
theorem c_X10_lampsKeep {v1 : Int32} {v2 : Int32} {R : (Nat → GV)} (hf : f_X10_lampsKeep gv h0 v1 v2 = some R) : Met l yX10_lampsKeep wsX10_lampsKeep rm_X10_lampsKeep (va_Pc [.ref h0, .int v1, .int v2] (gPre D b M (gW cI cL gv) (gTy cI cL))) (gQ D b none M (gW cI cL R)) 0 0 (gA b) := by
  refine gp_met (cc := cX10_lampsKeep) (maxL := 5) (ret := none) (by decide) rfl (Nat.le_of_ble_eq_true rfl) ?_
  intro p e s m below meth c X ls hG hl
  obtain ⟨H, hH0⟩ : ∃ H : Heap, H = s.heap := ⟨_, rfl⟩
  rw [← hH0] at hG ⊢
  have hS : va_S (gA b) s.heap H [] := by rw [hH0]; exact va_S.rf
  obtain ⟨locs, hlo⟩ : ∃ z : List Loc, z = [] := ⟨_, rfl⟩
  rw [← hlo] at hS ⊢
  unfold f_X10_lampsKeep at hf
  obtain ⟨hx, hb, hr, hml, hown, hts, hlocks, hKn, hBs⟩ := id X
  have hK := hKn.1
  have gclL : gcl gLC TX5 5 wsX10_lampsKeep := gcl_L (fun _ h => List.mem_cons_of_mem _ (List.mem_append_left _ (List.mem_append_left _ (List.mem_append_left _ (List.mem_append_left _ (List.mem_append_left _ (List.mem_append_left _ (List.mem_append_right _ h)))))))) (fun _ h => List.mem_cons_of_mem _ (List.mem_append_left _ (List.mem_append_left _ (List.mem_append_left _ (List.mem_append_left _ (List.mem_append_left _ (List.mem_append_right _ h))))))) (fun _ h => List.mem_cons_of_mem _ (List.mem_append_left _ (List.mem_append_left _ (List.mem_append_left _ (List.mem_append_left _ (List.mem_append_right _ h)))))) (fun _ h => List.mem_cons_of_mem _ (List.mem_append_left _ (List.mem_append_left _ (List.mem_append_left _ (List.mem_append_right _ h))))) (fun _ h => List.mem_cons_of_mem _ (List.mem_append_left _ (List.mem_append_left _ (List.mem_append_right _ h)))) (fun _ h => List.mem_cons_of_mem _ (List.mem_append_left _ (List.mem_append_right _ h))) (fun _ h => List.mem_cons_of_mem _ (List.mem_append_right _ h))
  have gclX10 : gcl [8] TX10 6 wsX10_lampsKeep := gcl_1 rfl (fun _ h => List.mem_cons_of_mem _ (List.mem_append_left _ (List.mem_append_left _ (List.mem_append_left _ (List.mem_append_left _ (List.mem_append_left _ (List.mem_append_left _ (List.mem_append_left _ (List.mem_append_right _ h)))))))))
  have hl : lv_has ls 5 [(0, .ref h0), (1, .int v1), (2, .int v2)] := hl
  refine lv_iconst (v := 0) hx hb dX10_lampsKeep_0 (by decide) ?_
  refine lv_istore_n (lv' := [(3, .int 0), (0, .ref h0), (1, .int v1), (2, .int v2)]) hx hb dX10_lampsKeep_1 rfl hl (by decide) rfl (fun ls hl => ?_)
  refine w_X10_lampsKeep_2 X _ _ _ hf (fun x2_60 hf H locs ls hG hS hl => ?_) _ _ _ hG hS (lv_sub hl [1, 2, 3, 0] rfl)
  · have hf := Option.some.inj hf
    subst hf
    exact gp_retV hx hb hr hlocks hG hS (Nat.le_of_ble_eq_true rfl) (Nat.le_of_ble_eq_true rfl) dX10_lampsKeep_60
-- X10_walk
abbrev rm_X10_walk : Room := { frames := 4, cells := 0, slots := 0, locals := 98 }
set_option maxHeartbeats 4000000 in
set_option maxRecDepth 100000 in
theorem w_X10_walk_68 {α : Type} {R : α} {K139 : (Nat → GV) → Option α} {v0 : Nat} {v1 : Int32} {v2 : Int32} {v3 : Int32} (X : gC p s m args meth c cX10_walk 7 (some .int) wsX10_walk RX10 D b (gTy cI cL)) : ∀ (n : Nat) (v4 : Int32) (gv : Nat → GV), L_X10_walk_68 K139 v0 v1 v2 v3 n v4 gv = some R → (∀ (x : (Nat → GV)), K139 x = some R → ∀ (H : Heap) (locs : List Loc) (ls : Array Slot), GP D b M (gW cI cL x) H → va_S (gA b) s.heap H locs → lv_has ls 7 [(3, .int v3)] → W p l e rm_X10_walk s m args below meth c H locs 0 0 Q (F0 m 139 ls [])) → ∀ (H : Heap) (locs : List Loc) (ls : Array Slot), GP D b M (gW cI cL gv) H → va_S (gA b) s.heap H locs → lv_has ls 7 [(0, .ref v0), (1, .int v1), (2, .int v2), (3, .int v3), (4, .int v4)] → W p l e rm_X10_walk s m args below meth c H locs 0 0 Q (F0 m 68 ls []) := by
  obtain ⟨hx, hb, hr, hml, hown, hts, hlocks, hKn, hBs⟩ := id X
  have hK := hKn.1
  have gclX10 : gcl [8] TX10 6 wsX10_walk := gcl_1 rfl (fun _ h => List.mem_cons_of_mem _ (List.mem_append_left _ (List.mem_append_left _ (List.mem_append_left _ (List.mem_append_left _ (List.mem_append_left _ (List.mem_append_left _ (List.mem_append_left _ (List.mem_append_right _ h)))))))))
  intro n
  induction n with
  | zero =>
    intro v4 gv hf
    cases hf
  | succ n ih =>
    intro v4 gv hf hk139 H locs ls hG hS hl
    rw [L_X10_walk_68.eq_2] at hf
    refine lv_iload hx hb dX10_walk_68 (lv_at hl 4 rfl) ?_
    refine lv_if_lt (tgt := 139) hx hb dX10_walk_70 (by decide) (fun c70 => ?_) (fun c70 => ?_)
    · have hf := gb_t c70 hf
      exact (hk139 _ hf _ _ _ hG hS (lv_sub hl [3] rfl))
    · have hf := gb_f c70 hf
      refine lv_aload_n hx hb dX10_walk_73 rfl (lv_at hl 0 rfl) ?_
      obtain ⟨t74, ht74, hf⟩ := gb_b hf
      refine cp_get (v := va_rf t74) hx hb hts gclX10 hown hK hG 1 (gfR_s ht74) (by decide) (hts _ (List.mem_of_getElem? (i := 1) rfl)) (fun _ h9 => h9) dX10_walk_74 ?_
      refine lv_iload_n hx hb dX10_walk_77 rfl (lv_at hl 1 rfl) ?_
      obtain ⟨q78, hq78, hf⟩ := gb_b hf
      refine W.eq (g2 := F0 m 78 ls [.int v1, .ref q78]) (congrArg (fun z => F0 m 78 ls [.int v1, va_rf z]) hq78) ?_
      obtain ⟨t78, ht78, hf⟩ := gb_b hf
      refine cp_iald hx hb hK hG ht78 dX10_walk_78 ?_
      refine lv_iconst (v := 1) hx hb dX10_walk_79 (by decide) ?_
      refine lv_aload_n hx hb dX10_walk_80 rfl (lv_at hl 0 rfl) ?_
      obtain ⟨o81, hc81, hf⟩ := gb_b hf
      obtain ⟨oc81, hcO81, hc81⟩ := gb_b hc81
      obtain ⟨hcg81, hci81⟩ := gfO_s hcO81
      have hci81 := List.mem_singleton.mp hci81
      obtain ⟨kc81, fc81⟩ := oc81
      dsimp only at hci81 hcg81
      subst hci81
      refine gp_callL (va_runV (As := []) (rest := [.int 1, .int t78]) ⟨hx, hb, hml, hown, hts⟩ (c_X10_free (l := l) (D := D) (b := b) (cI := cI) (cL := cL) hc81) (cwV 0 hts gX10_walk_X10_free rfl rfl rfl (by decide +kernel) ⟨Nat.le_of_ble_eq_true rfl, Nat.le_of_ble_eq_true rfl⟩) (gp_preV hKn hG (cp_obj hcg81) rfl) rfl rfl hl.1 rfl (lv_room (Nat.le_of_ble_eq_true rfl)) dX10_walk_81 ⟨Nat.le_of_ble_eq_true rfl, Nat.le_of_ble_eq_true rfl⟩) hS (fun H locs hG hS => ?_)
      obtain ⟨o84, hc84, hf⟩ := gb_b hf
      refine gp_callL (va_runS (As := [.int t78, .int 1, .long o81]) (rest := []) ⟨hx, hb, hml, hown, hts⟩ (c_X2_within (l := l) (D := D) (b := b) (cI := cI) (cL := cL) hc84) (va_cwS 3 hts gX10_walk_X2_within rfl rfl rfl (by decide +kernel) ⟨Nat.le_of_ble_eq_true rfl, Nat.le_of_ble_eq_true rfl⟩) (gp_preS hKn hG) rfl rfl hl.1 rfl (lv_room (Nat.le_of_ble_eq_true rfl)) dX10_walk_84 ⟨Nat.le_of_ble_eq_true rfl, Nat.le_of_ble_eq_true rfl⟩) hS (fun H locs hG hS => ?_)
      refine lv_iload_n hx hb dX10_walk_87 rfl (lv_at hl 2 rfl) ?_
      refine lv_iload hx hb dX10_walk_88 (lv_at hl 4 rfl) ?_
      refine lv_aload_n hx hb dX10_walk_90 rfl (lv_at hl 0 rfl) ?_
      obtain ⟨o91, hc91, hf⟩ := gb_b hf
      obtain ⟨oc91, hcO91, hc91⟩ := gb_b hc91
      obtain ⟨hcg91, hci91⟩ := gfO_s hcO91
      have hci91 := List.mem_singleton.mp hci91
      obtain ⟨kc91, fc91⟩ := oc91
      dsimp only at hci91 hcg91
      subst hci91
      refine gp_callL (va_runV (As := []) (rest := [.int v4, .int v2, .long o84]) ⟨hx, hb, hml, hown, hts⟩ (c_X10_free (l := l) (D := D) (b := b) (cI := cI) (cL := cL) hc91) (cwV 0 hts gX10_walk_X10_free rfl rfl rfl (by decide +kernel) ⟨Nat.le_of_ble_eq_true rfl, Nat.le_of_ble_eq_true rfl⟩) (gp_preV hKn hG (cp_obj hcg91) rfl) rfl rfl hl.1 rfl (lv_room (Nat.le_of_ble_eq_true rfl)) dX10_walk_91 ⟨Nat.le_of_ble_eq_true rfl, Nat.le_of_ble_eq_true rfl⟩) hS (fun H locs hG hS => ?_)
      obtain ⟨o94, hc94, hf⟩ := gb_b hf
      refine gp_callL (va_runS (As := [.int v2, .int v4, .long o91]) (rest := [.long o84]) ⟨hx, hb, hml, hown, hts⟩ (c_X2_within (l := l) (D := D) (b := b) (cI := cI) (cL := cL) hc94) (va_cwS 3 hts gX10_walk_X2_within rfl rfl rfl (by decide +kernel) ⟨Nat.le_of_ble_eq_true rfl, Nat.le_of_ble_eq_true rfl⟩) (gp_preS hKn hG) rfl rfl hl.1 rfl (lv_room (Nat.le_of_ble_eq_true rfl)) dX10_walk_94 ⟨Nat.le_of_ble_eq_true rfl, Nat.le_of_ble_eq_true rfl⟩) hS (fun H locs hG hS => ?_)
      refine lv_land hx hb dX10_walk_97 ?_
      refine lv_lstore (lv' := [(5, .long (o84 &&& o94)), (0, .ref v0), (1, .int v1), (2, .int v2), (3, .int v3), (4, .int v4)]) hx hb dX10_walk_98 hl (by decide) rfl (fun ls hl => ?_)
      refine lv_aload_n hx hb dX10_walk_100 rfl (lv_at hl 1 rfl) ?_
      obtain ⟨t101, ht101, hf⟩ := gb_b hf
      refine cp_get (v := va_rf t101) hx hb hts gclX10 hown hK hG 1 (gfR_s ht101) (by decide) (hts _ (List.mem_of_getElem? (i := 1) rfl)) (fun _ h9 => h9) dX10_walk_101 ?_
      refine lv_iload_n hx hb dX10_walk_104 rfl (lv_at hl 2 rfl) ?_
      refine lv_lload hx hb dX10_walk_105 (lv_at hl 0 rfl) ?_
      refine lv_iconst (v := 0) hx hb dX10_walk_107 (by decide) ?_
      obtain ⟨o108, hc108, hf⟩ := gb_b hf
      refine gp_callI (va_runS (As := [.long (o84 &&& o94), .int 0]) (rest := [.int v1, va_rf t101]) ⟨hx, hb, hml, hown, hts⟩ (c_X2_byNumber (l := l) (D := D) (b := b) (cI := cI) (cL := cL) hc108) (va_cwS 2 hts gX10_walk_X2_byNumber rfl rfl rfl (by decide +kernel) ⟨Nat.le_of_ble_eq_true rfl, Nat.le_of_ble_eq_true rfl⟩) (gp_preS hKn hG) rfl rfl hl.1 rfl (lv_room (by simp [gcat_rf, gcat_ref, gcat_int, gcat_long, gcat_null])) dX10_walk_108 ⟨Nat.le_of_ble_eq_true rfl, Nat.le_of_ble_eq_true rfl⟩) hS (fun H locs hG hS => ?_)
      obtain ⟨q111, hq111, hf⟩ := gb_b hf
      refine W.eq (g2 := F0 m 111 ls [.int o108, .int v1, .ref q111]) (congrArg (fun z => F0 m 111 ls [.int o108, .int v1, va_rf z]) hq111) ?_
      obtain ⟨g111, ht111, hf⟩ := gb_b hf
      refine cp_iast hx hb hK hG hS ht111 dX10_walk_111 (fun H locs hG hS => ?_)
      refine lv_aload_n hx hb dX10_walk_112 rfl (lv_at hl 1 rfl) ?_
      refine lv_dup hx hb dX10_walk_113 rfl ?_
      obtain ⟨t114, ht114, hf⟩ := gb_b hf
      refine cp_get (v := .int t114) hx hb hts gclX10 hown hK hG 5 (gfI_s ht114) (by decide) (hts _ (List.mem_of_getElem? (i := 2) rfl)) (fun _ h9 => h9) dX10_walk_114 ?_
      refine lv_iconst (v := 1) hx hb dX10_walk_117 (by decide) ?_
      refine lv_iadd hx hb dX10_walk_118 ?_
      obtain ⟨g119, ht119, hf⟩ := gb_b hf
      refine cp_put (tyk := .int) hx hb hts gclX10 tyX10 tyX10_ok nmX10 hown hK hG hS 5 ht119 (by decide) (hts _ (List.mem_of_getElem? (i := 2) rfl)) (fun _ h9 => h9) rfl (by decide +kernel) rfl rfl dX10_walk_119 (fun H locs hG hS => ?_)
      refine lv_aload_n hx hb dX10_walk_122 rfl (lv_at hl 1 rfl) ?_
      refine lv_iload_n hx hb dX10_walk_123 rfl (lv_at hl 2 rfl) ?_
      refine lv_aload_n hx hb dX10_walk_124 rfl (lv_at hl 1 rfl) ?_
      obtain ⟨t125, ht125, hf⟩ := gb_b hf
      refine cp_get (v := va_rf t125) hx hb hts gclX10 hown hK hG 1 (gfR_s ht125) (by decide) (hts _ (List.mem_of_getElem? (i := 1) rfl)) (fun _ h9 => h9) dX10_walk_125 ?_
      refine lv_iload_n hx hb dX10_walk_128 rfl (lv_at hl 2 rfl) ?_
      obtain ⟨q129, hq129, hf⟩ := gb_b hf
      refine W.eq (g2 := F0 m 129 ls [.int v1, .ref q129, .int v1, .ref v0]) (congrArg (fun z => F0 m 129 ls [.int v1, va_rf z, .int v1, .ref v0]) hq129) ?_
      obtain ⟨t129, ht129, hf⟩ := gb_b hf
      refine cp_iald hx hb hK hG ht129 dX10_walk_129 ?_
      obtain ⟨o130, hc130, hf⟩ := gb_b hf
      obtain ⟨oc130, hcO130, hc130⟩ := gb_b hc130
      obtain ⟨hcg130, hci130⟩ := gfO_s hcO130
      have hci130 := List.mem_singleton.mp hci130
      obtain ⟨kc130, fc130⟩ := oc130
      dsimp only at hci130 hcg130
      subst hci130
      refine gp_callV (va_runV (As := [.int v1, .int t129]) (rest := []) ⟨hx, hb, hml, hown, hts⟩ (c_X10_lampsKeep (l := l) (D := D) (b := b) (cI := cI) (cL := cL) hc130) (cwV 2 hts gX10_walk_X10_lampsKeep rfl rfl rfl (by decide +kernel) ⟨Nat.le_of_ble_eq_true rfl, Nat.le_of_ble_eq_true rfl⟩) (gp_preV hKn hG (cp_obj hcg130) rfl) rfl rfl hl.1 rfl (lv_room (Nat.le_of_ble_eq_true rfl)) dX10_walk_130 ⟨Nat.le_of_ble_eq_true rfl, Nat.le_of_ble_eq_true rfl⟩) hS (fun H locs hG hS => ?_)
      refine lv_iinc (v := v4 + (-1 : Int32)) (lv' := [(4, .int (v4 + (-1 : Int32))), (5, .long (o84 &&& o94)), (0, .ref v0), (1, .int v1), (2, .int v2), (3, .int v3)]) hx hb dX10_walk_133 hl (k := 5) rfl rfl (by decide) rfl (fun ls hl => ?_)
      refine lv_goto (tgt := 68) hx hb dX10_walk_136 (by decide) ?_
      exact ih _ _ hf hk139 _ _ _ hG hS (lv_sub hl [2, 3, 4, 5, 0] rfl)
set_option maxHeartbeats 4000000 in
set_option maxRecDepth 100000 in
theorem c_X10_walk {v1 : Int32} {v2 : Int32} {R : Int32 × (Nat → GV)} (hf : f_X10_walk gv h0 v1 v2 = some R) : Met l yX10_walk wsX10_walk rm_X10_walk (va_Pc [.ref h0, .int v1, .int v2] (gPre D b M (gW cI cL gv) (gTy cI cL))) (gQ D b (some (.int R.1)) M (gW cI cL R.2)) 0 0 (gA b) := by
  refine gp_met (cc := cX10_walk) (maxL := 7) (ret := (some .int)) (by decide) rfl (Nat.le_of_ble_eq_true rfl) ?_
  intro p e s m below meth c X ls hG hl
  obtain ⟨H, hH0⟩ : ∃ H : Heap, H = s.heap := ⟨_, rfl⟩
  rw [← hH0] at hG ⊢
  have hS : va_S (gA b) s.heap H [] := by rw [hH0]; exact va_S.rf
  obtain ⟨locs, hlo⟩ : ∃ z : List Loc, z = [] := ⟨_, rfl⟩
  rw [← hlo] at hS ⊢
  unfold f_X10_walk at hf
  obtain ⟨hx, hb, hr, hml, hown, hts, hlocks, hKn, hBs⟩ := id X
  have hK := hKn.1
  have gclX10 : gcl [8] TX10 6 wsX10_walk := gcl_1 rfl (fun _ h => List.mem_cons_of_mem _ (List.mem_append_left _ (List.mem_append_left _ (List.mem_append_left _ (List.mem_append_left _ (List.mem_append_left _ (List.mem_append_left _ (List.mem_append_left _ (List.mem_append_right _ h)))))))))
  have hl : lv_has ls 7 [(0, .ref h0), (1, .int v1), (2, .int v2)] := hl
  refine lv_aload_n hx hb dX10_walk_0 rfl (lv_at hl 0 rfl) ?_
  refine lv_iload_n hx hb dX10_walk_1 rfl (lv_at hl 1 rfl) ?_
  obtain ⟨o2, hc2, hf⟩ := gb_b hf
  obtain ⟨oc2, hcO2, hc2⟩ := gb_b hc2
  obtain ⟨hcg2, hci2⟩ := gfO_s hcO2
  have hci2 := List.mem_singleton.mp hci2
  obtain ⟨kc2, fc2⟩ := oc2
  dsimp only at hci2 hcg2
  subst hci2
  refine gp_callI (va_runV (As := [.int v1]) (rest := []) ⟨hx, hb, hml, hown, hts⟩ (c_X10_isPerson (l := l) (D := D) (b := b) (cI := cI) (cL := cL) hc2) (cwV 1 hts gX10_walk_X10_isPerson rfl rfl rfl (by decide +kernel) ⟨Nat.le_of_ble_eq_true rfl, Nat.le_of_ble_eq_true rfl⟩) (gp_preV hKn hG (cp_obj hcg2) rfl) rfl rfl hl.1 rfl (lv_room (Nat.le_of_ble_eq_true rfl)) dX10_walk_2 ⟨Nat.le_of_ble_eq_true rfl, Nat.le_of_ble_eq_true rfl⟩) hS (fun H locs hG hS => ?_)
  refine lv_if_eq (tgt := 24) hx hb dX10_walk_5 (by decide) (fun c5 => ?_) (fun c5 => ?_)
  · have hf := gb_t c5 hf
    refine lv_iconst (v := (-1 : Int32)) hx hb dX10_walk_24 (by decide) ?_
    have hf := Option.some.inj hf
    subst hf
    exact gp_retI hx hb hr hlocks hG hS (Nat.le_of_ble_eq_true rfl) (Nat.le_of_ble_eq_true rfl) dX10_walk_25
  · have hf := gb_f c5 hf
    refine lv_iload_n hx hb dX10_walk_8 rfl (lv_at hl 1 rfl) ?_
    refine lv_aload_n hx hb dX10_walk_9 rfl (lv_at hl 0 rfl) ?_
    obtain ⟨t10, ht10, hf⟩ := gb_b hf
    refine cp_get (v := va_rf t10) hx hb hts gclX10 hown hK hG 1 (gfR_s ht10) (by decide) (hts _ (List.mem_of_getElem? (i := 1) rfl)) (fun _ h9 => h9) dX10_walk_10 ?_
    obtain ⟨q13, hq13, hf⟩ := gb_b hf
    refine W.eq (g2 := F0 m 13 ls [.ref q13, .int v1]) (congrArg (fun z => F0 m 13 ls [va_rf z, .int v1]) hq13) ?_
    obtain ⟨t13, ht13, hf⟩ := gb_b hf
    refine cp_alenI hx hb hK hG ht13 dX10_walk_13 ?_
    refine lv_icmp_ge (tgt := 24) hx hb dX10_walk_14 (by decide) (fun c14 => ?_) (fun c14 => ?_)
    · have hf := gb_t c14 hf
      refine lv_iconst (v := (-1 : Int32)) hx hb dX10_walk_24 (by decide) ?_
      have hf := Option.some.inj hf
      subst hf
      exact gp_retI hx hb hr hlocks hG hS (Nat.le_of_ble_eq_true rfl) (Nat.le_of_ble_eq_true rfl) dX10_walk_25
    · have hf := gb_f c14 hf
      refine lv_iload_n hx hb dX10_walk_17 rfl (lv_at hl 2 rfl) ?_
      obtain ⟨o18, hc18, hf⟩ := gb_b hf
      refine gp_callI (va_runS (As := [.int v2]) (rest := []) ⟨hx, hb, hml, hown, hts⟩ (c_X2_isOne (l := l) (D := D) (b := b) (cI := cI) (cL := cL) hc18) (va_cwS 1 hts gX10_walk_X2_isOne rfl rfl rfl (by decide +kernel) ⟨Nat.le_of_ble_eq_true rfl, Nat.le_of_ble_eq_true rfl⟩) (gp_preS hKn hG) rfl rfl hl.1 rfl (lv_room (Nat.le_of_ble_eq_true rfl)) dX10_walk_18 ⟨Nat.le_of_ble_eq_true rfl, Nat.le_of_ble_eq_true rfl⟩) hS (fun H locs hG hS => ?_)
      refine lv_if_ne (tgt := 26) hx hb dX10_walk_21 (by decide) (fun c21 => ?_) (fun c21 => ?_)
      · have hf := gb_f c21 hf
        refine lv_aload_n hx hb dX10_walk_26 rfl (lv_at hl 0 rfl) ?_
        obtain ⟨t27, ht27, hf⟩ := gb_b hf
        refine cp_get (v := va_rf t27) hx hb hts gclX10 hown hK hG 1 (gfR_s ht27) (by decide) (hts _ (List.mem_of_getElem? (i := 1) rfl)) (fun _ h9 => h9) dX10_walk_27 ?_
        refine lv_iload_n hx hb dX10_walk_30 rfl (lv_at hl 1 rfl) ?_
        obtain ⟨q31, hq31, hf⟩ := gb_b hf
        refine W.eq (g2 := F0 m 31 ls [.int v1, .ref q31]) (congrArg (fun z => F0 m 31 ls [.int v1, va_rf z]) hq31) ?_
        obtain ⟨t31, ht31, hf⟩ := gb_b hf
        refine cp_iald hx hb hK hG ht31 dX10_walk_31 ?_
        refine lv_iload_n hx hb dX10_walk_32 rfl (lv_at hl 2 rfl) ?_
        refine lv_aload_n hx hb dX10_walk_33 rfl (lv_at hl 0 rfl) ?_
        obtain ⟨o34, hc34, hf⟩ := gb_b hf
        obtain ⟨oc34, hcO34, hc34⟩ := gb_b hc34
        obtain ⟨hcg34, hci34⟩ := gfO_s hcO34
        have hci34 := List.mem_singleton.mp hci34
        obtain ⟨kc34, fc34⟩ := oc34
        dsimp only at hci34 hcg34
        subst hci34
        refine gp_callL (va_runV (As := []) (rest := [.int v2, .int t31]) ⟨hx, hb, hml, hown, hts⟩ (c_X10_free (l := l) (D := D) (b := b) (cI := cI) (cL := cL) hc34) (cwV 0 hts gX10_walk_X10_free rfl rfl rfl (by decide +kernel) ⟨Nat.le_of_ble_eq_true rfl, Nat.le_of_ble_eq_true rfl⟩) (gp_preV hKn hG (cp_obj hcg34) rfl) rfl rfl hl.1 rfl (lv_room (Nat.le_of_ble_eq_true rfl)) dX10_walk_34 ⟨Nat.le_of_ble_eq_true rfl, Nat.le_of_ble_eq_true rfl⟩) hS (fun H locs hG hS => ?_)
        obtain ⟨o37, hc37, hf⟩ := gb_b hf
        refine gp_callI (va_runS (As := [.int t31, .int v2, .long o34]) (rest := []) ⟨hx, hb, hml, hown, hts⟩ (c_X2_fewestSteps (l := l) (D := D) (b := b) (cI := cI) (cL := cL) hc37) (va_cwS 3 hts gX10_walk_X2_fewestSteps rfl rfl rfl (by decide +kernel) ⟨Nat.le_of_ble_eq_true rfl, Nat.le_of_ble_eq_true rfl⟩) (gp_preS hKn hG) rfl rfl hl.1 rfl (lv_room (Nat.le_of_ble_eq_true rfl)) dX10_walk_37 ⟨Nat.le_of_ble_eq_true rfl, Nat.le_of_ble_eq_true rfl⟩) hS (fun H locs hG hS => ?_)
        refine lv_istore_n (lv' := [(3, .int o37), (0, .ref h0), (1, .int v1), (2, .int v2)]) hx hb dX10_walk_40 rfl hl (by decide) rfl (fun ls hl => ?_)
        refine lv_iload_n hx hb dX10_walk_41 rfl (lv_at hl 0 rfl) ?_
        refine lv_if_ge (tgt := 48) hx hb dX10_walk_42 (by decide) (fun c42 => ?_) (fun c42 => ?_)
        · have hf := gb_t c42 hf
          refine lv_aload_n hx hb dX10_walk_48 rfl (lv_at hl 1 rfl) ?_
          obtain ⟨t49, ht49, hf⟩ := gb_b hf
          refine cp_get (v := .int t49) hx hb hts gclX10 hown hK hG 5 (gfI_s ht49) (by decide) (hts _ (List.mem_of_getElem? (i := 2) rfl)) (fun _ h9 => h9) dX10_walk_49 ?_
          refine lv_iload_n hx hb dX10_walk_52 rfl (lv_at hl 0 rfl) ?_
          refine lv_iadd hx hb dX10_walk_53 ?_
          refine lv_sipush (v := 9999) hx hb dX10_walk_54 (by decide) ?_
          refine lv_icmp_le (tgt := 63) hx hb dX10_walk_57 (by decide) (fun c57 => ?_) (fun c57 => ?_)
          · have hf := gb_t c57 hf
            refine lv_iload_n hx hb dX10_walk_63 rfl (lv_at hl 0 rfl) ?_
            refine lv_iconst (v := 1) hx hb dX10_walk_64 (by decide) ?_
            refine lv_isub hx hb dX10_walk_65 ?_
            refine lv_istore (lv' := [(4, .int (o37 - 1)), (3, .int o37), (0, .ref h0), (1, .int v1), (2, .int v2)]) hx hb dX10_walk_66 hl (by decide) rfl (fun ls hl => ?_)
            refine w_X10_walk_68 X _ _ _ hf (fun x68_139 hf H locs ls hG hS hl => ?_) _ _ _ hG hS (lv_sub hl [2, 3, 4, 1, 0] rfl)
            · refine lv_iload_n hx hb dX10_walk_139 rfl (lv_at hl 0 rfl) ?_
              have hf := Option.some.inj hf
              subst hf
              exact gp_retI hx hb hr hlocks hG hS (Nat.le_of_ble_eq_true rfl) (Nat.le_of_ble_eq_true rfl) dX10_walk_140
          · have hf := gb_f c57 hf
            refine lv_bipush (v := (-6 : Int32)) hx hb dX10_walk_60 (by decide) ?_
            have hf := Option.some.inj hf
            subst hf
            exact gp_retI hx hb hr hlocks hG hS (Nat.le_of_ble_eq_true rfl) (Nat.le_of_ble_eq_true rfl) dX10_walk_62
        · have hf := gb_f c42 hf
          refine lv_bipush (v := (-3 : Int32)) hx hb dX10_walk_45 (by decide) ?_
          have hf := Option.some.inj hf
          subst hf
          exact gp_retI hx hb hr hlocks hG hS (Nat.le_of_ble_eq_true rfl) (Nat.le_of_ble_eq_true rfl) dX10_walk_47
      · have hf := gb_t c21 hf
        refine lv_iconst (v := (-1 : Int32)) hx hb dX10_walk_24 (by decide) ?_
        have hf := Option.some.inj hf
        subst hf
        exact gp_retI hx hb hr hlocks hG hS (Nat.le_of_ble_eq_true rfl) (Nat.le_of_ble_eq_true rfl) dX10_walk_25
-- X6_turnLamp
abbrev rm_X6_turnLamp : Room := { frames := 1, cells := 0, slots := 0, locals := 20 }
set_option maxHeartbeats 4000000 in
set_option maxRecDepth 100000 in
theorem c_X6_turnLamp {v0 : Option Nat} {R : Int32 × (Nat → GV)} (hf : f_X6_turnLamp gv v0 = some R) : Met l yX6_turnLamp wsX6_turnLamp rm_X6_turnLamp (va_Pc [va_rf v0] (gPre D b M (gW cI cL gv) (gTy cI cL))) (gQ D b (some (.int R.1)) M (gW cI cL R.2)) 0 0 (gA b) := by
  refine gp_met (cc := cX6_turnLamp) (maxL := 1) (ret := (some .int)) (by decide) rfl (by simp [lg_sl, gcat_rf, gcat_ref, gcat_int, gcat_long]) ?_
  intro p e s m below meth c X ls hG hl
  obtain ⟨H, hH0⟩ : ∃ H : Heap, H = s.heap := ⟨_, rfl⟩
  rw [← hH0] at hG ⊢
  have hS : va_S (gA b) s.heap H [] := by rw [hH0]; exact va_S.rf
  obtain ⟨locs, hlo⟩ : ∃ z : List Loc, z = [] := ⟨_, rfl⟩
  rw [← hlo] at hS ⊢
  unfold f_X6_turnLamp at hf
  obtain ⟨hx, hb, hr, hml, hown, hts, hlocks, hKn, hBs⟩ := id X
  have hK := hKn.1
  have gclL : gcl gLC TX5 5 wsX6_turnLamp := gcl_L (fun _ h => List.mem_cons_of_mem _ (List.mem_append_left _ (List.mem_append_left _ (List.mem_append_left _ (List.mem_append_left _ (List.mem_append_left _ (List.mem_append_left _ (List.mem_append_right _ h)))))))) (fun _ h => List.mem_cons_of_mem _ (List.mem_append_left _ (List.mem_append_left _ (List.mem_append_left _ (List.mem_append_left _ (List.mem_append_left _ (List.mem_append_right _ h))))))) (fun _ h => List.mem_cons_of_mem _ (List.mem_append_left _ (List.mem_append_left _ (List.mem_append_left _ (List.mem_append_left _ (List.mem_append_right _ h)))))) (fun _ h => List.mem_cons_of_mem _ (List.mem_append_left _ (List.mem_append_left _ (List.mem_append_left _ (List.mem_append_right _ h))))) (fun _ h => List.mem_cons_of_mem _ (List.mem_append_left _ (List.mem_append_left _ (List.mem_append_right _ h)))) (fun _ h => List.mem_cons_of_mem _ (List.mem_append_left _ (List.mem_append_right _ h))) (fun _ h => List.mem_cons_of_mem _ (List.mem_append_right _ h))
  have hl : lv_has ls 1 [(0, va_rf v0)] := by simpa [lv_args, gcat_rf, gcat_ref, gcat_int, gcat_long] using hl
  refine gp_aload_n (x := v0) hx hb dX6_turnLamp_0 rfl (lv_at hl 0 rfl) ?_
  refine gp_ifnonnull (x := v0) (tgt := 6) hx hb dX6_turnLamp_1 (by decide) ?_ ?_
  · intro n1 e1
    rw [e1] at hl
    rw [e1] at hf
    dsimp only at hf
    refine lv_aload_n hx hb dX6_turnLamp_6 rfl (lv_at hl 0 rfl) ?_
    refine lv_aload_n hx hb dX6_turnLamp_7 rfl (lv_at hl 0 rfl) ?_
    obtain ⟨t8, ht8, hf⟩ := gb_b hf
    refine cp_get (v := .int t8) hx hb hts gclL hown hK hG 2 (gfI_s ht8) (by decide) (hts _ (List.mem_of_getElem? (i := 1) rfl)) (fun _ h9 => h9) dX6_turnLamp_8 ?_
    have hJ11 : ∀ Z : Int32, Z = (if t8 = 0 then 1 else 0) → W p l e rm_X6_turnLamp s m [va_rf v0].toArray below meth c H locs 0 0 (MQ below (gQ D b (some (.int R.1)) M (gW cI cL R.2)) [va_rf v0].toArray s 0 0 (gA b)) (F0 m 19 ls (.int Z :: [.ref n1])) := by
      intro Z hZ
      subst hZ
      obtain ⟨z19, hf⟩ := gb_zb hf
      obtain ⟨g19, ht19, hf⟩ := gb_b hf
      refine cp_put (tyk := .boolean) hx hb hts gclL tyX5 tyX5_ok nmX5 hown hK hG hS 2 ht19 (by decide) (hts _ (List.mem_of_getElem? (i := 1) rfl)) (fun _ h9 => h9) rfl (by decide +kernel) (gfit_z z19).1 (gfit_z z19).2 dX6_turnLamp_19 (fun H locs hG hS => ?_)
      refine lv_aload_n hx hb dX6_turnLamp_22 rfl (lv_at hl 0 rfl) ?_
      obtain ⟨t23, ht23, hf⟩ := gb_b hf
      refine cp_get (v := .int t23) hx hb hts gclL hown hK hG 2 (gfI_s ht23) (by decide) (hts _ (List.mem_of_getElem? (i := 1) rfl)) (fun _ h9 => h9) dX6_turnLamp_23 ?_
      obtain ⟨o26, hc26, hf⟩ := gb_b hf
      refine gp_callI (va_runSN (As := [.int t23]) (rest := []) ⟨hx, hb, hml, hown, hts⟩ (c_X11_yes (l := l) (D := D) (b := b) (cI := cI) (cL := cL) hc26) ⟨va_cnB 1 hts gX6_turnLamp_X11_yes_n108 rfl rfl rfl (hKn.2.1 _ (List.mem_of_getElem? (i := 15) rfl)) (hts _ (List.mem_of_getElem? (i := 3) rfl)) (by decide +kernel) ⟨Nat.le_of_ble_eq_true rfl, Nat.le_of_ble_eq_true rfl⟩, (hts _ (List.mem_of_getElem? (i := 2) rfl)), trivial⟩ (gp_preS hKn hG) rfl rfl hl.1 rfl (lv_room (Nat.le_of_ble_eq_true rfl)) dX6_turnLamp_26 ⟨Nat.le_of_ble_eq_true rfl, Nat.le_of_ble_eq_true rfl⟩) hS (fun H locs hG hS => ?_)
      have hf := Option.some.inj hf
      subst hf
      exact gp_retI hx hb hr hlocks hG hS (Nat.le_of_ble_eq_true rfl) (Nat.le_of_ble_eq_true rfl) dX6_turnLamp_29
    refine lv_if_ne (tgt := 18) hx hb dX6_turnLamp_11 (by decide) (fun c11 => ?_) (fun c11 => ?_)
    · rw [if_neg c11] at hJ11
      refine lv_iconst (v := 0) hx hb dX6_turnLamp_18 (by decide) ?_
      exact hJ11 _ rfl
    · rw [if_pos c11] at hJ11
      refine lv_iconst (v := 1) hx hb dX6_turnLamp_14 (by decide) ?_
      refine lv_goto (tgt := 19) hx hb dX6_turnLamp_15 (by decide) ?_
      exact hJ11 _ rfl
  · intro e1
    rw [e1] at hl
    rw [e1] at hf
    dsimp only at hf
    refine lv_iconst (v := (-1 : Int32)) hx hb dX6_turnLamp_4 (by decide) ?_
    have hf := Option.some.inj hf
    subst hf
    exact gp_retI hx hb hr hlocks hG hS (Nat.le_of_ble_eq_true rfl) (Nat.le_of_ble_eq_true rfl) dX6_turnLamp_5
-- X6_obey
abbrev rm_X6_obey : Room := { frames := 6, cells := 2, slots := 14, locals := 132 }
set_option maxHeartbeats 4000000 in
set_option maxRecDepth 100000 in
theorem c_X6_obey {v1 : Option Nat} {v2 : Int32} {R : Int32 × (Nat → GV) × Nat} (hf : f_X6_obey gv M h0 v1 v2 = some R) : Met l yX6_obey wsX6_obey rm_X6_obey (va_Pc [.ref h0, va_rf v1, .int v2] (gPre D b M (gW cI cL gv) (gTy cI cL))) (gQ D b (some (.int R.1)) R.2.2 (gW cI cL R.2.1)) 2 14 (gA b) := by
  refine gp_met (cc := cX6_obey) (maxL := 3) (ret := (some .int)) (by decide) rfl (by simp [lg_sl, gcat_rf, gcat_ref, gcat_int, gcat_long]) ?_
  intro p e s m below meth c X ls hG hl
  obtain ⟨H, hH0⟩ : ∃ H : Heap, H = s.heap := ⟨_, rfl⟩
  rw [← hH0] at hG ⊢
  have hS : va_S (gA b) s.heap H [] := by rw [hH0]; exact va_S.rf
  obtain ⟨locs, hlo⟩ : ∃ z : List Loc, z = [] := ⟨_, rfl⟩
  rw [← hlo] at hS ⊢
  unfold f_X6_obey at hf
  obtain ⟨hx, hb, hr, hml, hown, hts, hlocks, hKn, hBs⟩ := id X
  have hK := hKn.1
  have hl : lv_has ls 3 [(0, .ref h0), (1, va_rf v1), (2, .int v2)] := by simpa [lv_args, gcat_rf, gcat_ref, gcat_int, gcat_long] using hl
  refine lv_aload_n hx hb dX6_obey_0 rfl (lv_at hl 0 rfl) ?_
  refine lv_iload_n hx hb dX6_obey_1 rfl (lv_at hl 2 rfl) ?_
  obtain ⟨o2, hc2, hf⟩ := gb_b hf
  obtain ⟨oc2, hcO2, hc2⟩ := gb_b hc2
  obtain ⟨hcg2, hci2⟩ := gfO_s hcO2
  have hci2 := List.mem_singleton.mp hci2
  obtain ⟨kc2, fc2⟩ := oc2
  dsimp only at hci2 hcg2
  subst hci2
  refine gp_callI (va_runV (As := [.int v2]) (rest := []) ⟨hx, hb, hml, hown, hts⟩ (c_X6_at (l := l) (D := D) (b := b) (cI := cI) (cL := cL) hc2) (cwV 1 hts gX6_obey_X6_at rfl rfl rfl (by decide +kernel) ⟨Nat.le_of_ble_eq_true rfl, Nat.le_of_ble_eq_true rfl⟩) (gp_preV hKn hG (cp_obj hcg2) rfl) rfl rfl hl.1 rfl (lv_room (Nat.le_of_ble_eq_true rfl)) dX6_obey_2 ⟨Nat.le_of_ble_eq_true rfl, Nat.le_of_ble_eq_true rfl⟩) hS (fun H locs hG hS => ?_)
  by_cases c5_98 : o2 = 98
  · have hf := gb_t c5_98 hf
    refine lv_lookup (tgt := 148) (off := 143) hx hb dX6_obey_5 (by decide) (by rw [c5_98]; decide) (by decide) ?_
    refine gp_aload_n (x := v1) hx hb dX6_obey_148 rfl (lv_at hl 1 rfl) ?_
    refine lv_aload_n hx hb dX6_obey_149 rfl (lv_at hl 0 rfl) ?_
    refine lv_iload_n hx hb dX6_obey_150 rfl (lv_at hl 2 rfl) ?_
    refine lv_iconst (v := 1) hx hb dX6_obey_151 (by decide) ?_
    refine lv_iadd hx hb dX6_obey_152 ?_
    obtain ⟨o153, hc153, hf⟩ := gb_b hf
    obtain ⟨oc153, hcO153, hc153⟩ := gb_b hc153
    obtain ⟨hcg153, hci153⟩ := gfO_s hcO153
    have hci153 := List.mem_singleton.mp hci153
    obtain ⟨kc153, fc153⟩ := oc153
    dsimp only at hci153 hcg153
    subst hci153
    refine gp_callI (va_runV (As := [.int (v2 + 1)]) (rest := [va_rf v1]) ⟨hx, hb, hml, hown, hts⟩ (c_X6_digitAt (l := l) (D := D) (b := b) (cI := cI) (cL := cL) hc153) (cwV 1 hts gX6_obey_X6_digitAt rfl rfl rfl (by decide +kernel) ⟨Nat.le_of_ble_eq_true rfl, Nat.le_of_ble_eq_true rfl⟩) (gp_preV hKn hG (cp_obj hcg153) rfl) rfl rfl hl.1 rfl (lv_room (by simp [gcat_rf, gcat_ref, gcat_int, gcat_long, gcat_null])) dX6_obey_153 ⟨Nat.le_of_ble_eq_true rfl, Nat.le_of_ble_eq_true rfl⟩) hS (fun H locs hG hS => ?_)
    obtain ⟨q156, hq156, hf⟩ := gb_b hf
    refine W.eq (g2 := F0 m 156 ls [.int o153, .ref q156]) (congrArg (fun z => F0 m 156 ls [.int o153, va_rf z]) hq156) ?_
    rw [hq156] at hl
    obtain ⟨o156, hc156, hf⟩ := gb_b hf
    obtain ⟨oc156, hcO156, hc156⟩ := gb_b hc156
    obtain ⟨hcg156, hci156⟩ := gfO_s hcO156
    have hci156 := List.mem_singleton.mp hci156
    obtain ⟨kc156, fc156⟩ := oc156
    dsimp only at hci156 hcg156
    subst hci156
    refine gp_callR (va_runV (As := [.int o153]) (rest := []) ⟨hx, hb, hml, hown, hts⟩ (c_X10_lampAt (l := l) (D := D) (b := b) (cI := cI) (cL := cL) hc156) (cwV 1 hts gX6_obey_X10_lampAt rfl rfl rfl (by decide +kernel) ⟨Nat.le_of_ble_eq_true rfl, Nat.le_of_ble_eq_true rfl⟩) (gp_preV hKn hG (cp_obj hcg156) rfl) rfl rfl hl.1 rfl (lv_room (Nat.le_of_ble_eq_true rfl)) dX6_obey_156 ⟨Nat.le_of_ble_eq_true rfl, Nat.le_of_ble_eq_true rfl⟩) hS (fun H locs hG hS => ?_)
    obtain ⟨o159, hc159, hf⟩ := gb_b hf
    refine gp_callI (va_runS (As := [va_rf o156]) (rest := []) ⟨hx, hb, hml, hown, hts⟩ (c_X6_breakLamp (l := l) (D := D) (b := b) (cI := cI) (cL := cL) hc159) (va_cwS 1 hts gX6_obey_X6_breakLamp rfl rfl rfl (by decide +kernel) ⟨Nat.le_of_ble_eq_true rfl, Nat.le_of_ble_eq_true rfl⟩) (gp_preS hKn hG) rfl rfl hl.1 rfl (lv_room (Nat.le_of_ble_eq_true rfl)) dX6_obey_159 ⟨Nat.le_of_ble_eq_true rfl, Nat.le_of_ble_eq_true rfl⟩) hS (fun H locs hG hS => ?_)
    have hf := Option.some.inj hf
    subst hf
    exact gp_retI hx hb hr hlocks hG hS (Nat.le_of_ble_eq_true rfl) (Nat.le_of_ble_eq_true rfl) dX6_obey_162
  · have hf := gb_f c5_98 hf
    by_cases c5_103 : o2 = 103
    · have hf := gb_t c5_103 hf
      refine lv_lookup (tgt := 114) (off := 109) hx hb dX6_obey_5 (by decide) (by rw [c5_103]; decide) (by decide) ?_
      refine gp_aload_n (x := v1) hx hb dX6_obey_114 rfl (lv_at hl 1 rfl) ?_
      refine lv_aload_n hx hb dX6_obey_115 rfl (lv_at hl 0 rfl) ?_
      refine lv_iload_n hx hb dX6_obey_116 rfl (lv_at hl 2 rfl) ?_
      refine lv_iconst (v := 1) hx hb dX6_obey_117 (by decide) ?_
      refine lv_iadd hx hb dX6_obey_118 ?_
      obtain ⟨o119, hc119, hf⟩ := gb_b hf
      obtain ⟨oc119, hcO119, hc119⟩ := gb_b hc119
      obtain ⟨hcg119, hci119⟩ := gfO_s hcO119
      have hci119 := List.mem_singleton.mp hci119
      obtain ⟨kc119, fc119⟩ := oc119
      dsimp only at hci119 hcg119
      subst hci119
      refine gp_callI (va_runV (As := [.int (v2 + 1)]) (rest := [va_rf v1]) ⟨hx, hb, hml, hown, hts⟩ (c_X6_digitAt (l := l) (D := D) (b := b) (cI := cI) (cL := cL) hc119) (cwV 1 hts gX6_obey_X6_digitAt rfl rfl rfl (by decide +kernel) ⟨Nat.le_of_ble_eq_true rfl, Nat.le_of_ble_eq_true rfl⟩) (gp_preV hKn hG (cp_obj hcg119) rfl) rfl rfl hl.1 rfl (lv_room (by simp [gcat_rf, gcat_ref, gcat_int, gcat_long, gcat_null])) dX6_obey_119 ⟨Nat.le_of_ble_eq_true rfl, Nat.le_of_ble_eq_true rfl⟩) hS (fun H locs hG hS => ?_)
      refine lv_aload_n hx hb dX6_obey_122 rfl (lv_at hl 0 rfl) ?_
      refine lv_iload_n hx hb dX6_obey_123 rfl (lv_at hl 2 rfl) ?_
      refine lv_iconst (v := 2) hx hb dX6_obey_124 (by decide) ?_
      refine lv_iadd hx hb dX6_obey_125 ?_
      obtain ⟨o126, hc126, hf⟩ := gb_b hf
      obtain ⟨oc126, hcO126, hc126⟩ := gb_b hc126
      obtain ⟨hcg126, hci126⟩ := gfO_s hcO126
      have hci126 := List.mem_singleton.mp hci126
      obtain ⟨kc126, fc126⟩ := oc126
      dsimp only at hci126 hcg126
      subst hci126
      refine gp_callI (va_runV (As := [.int (v2 + 2)]) (rest := [.int o119, va_rf v1]) ⟨hx, hb, hml, hown, hts⟩ (c_X6_cellAt (l := l) (D := D) (b := b) (cI := cI) (cL := cL) hc126) (cwV 1 hts gX6_obey_X6_cellAt rfl rfl rfl (by decide +kernel) ⟨Nat.le_of_ble_eq_true rfl, Nat.le_of_ble_eq_true rfl⟩) (gp_preV hKn hG (cp_obj hcg126) rfl) rfl rfl hl.1 rfl (lv_room (by simp [gcat_rf, gcat_ref, gcat_int, gcat_long, gcat_null])) dX6_obey_126 ⟨Nat.le_of_ble_eq_true rfl, Nat.le_of_ble_eq_true rfl⟩) hS (fun H locs hG hS => ?_)
      obtain ⟨q129, hq129, hf⟩ := gb_b hf
      refine W.eq (g2 := F0 m 129 ls [.int o126, .int o119, .ref q129]) (congrArg (fun z => F0 m 129 ls [.int o126, .int o119, va_rf z]) hq129) ?_
      rw [hq129] at hl
      obtain ⟨o129, hc129, hf⟩ := gb_b hf
      obtain ⟨oc129, hcO129, hc129⟩ := gb_b hc129
      obtain ⟨hcg129, hci129⟩ := gfO_s hcO129
      have hci129 := List.mem_singleton.mp hci129
      obtain ⟨kc129, fc129⟩ := oc129
      dsimp only at hci129 hcg129
      subst hci129
      refine gp_callI (va_runV (As := [.int o119, .int o126]) (rest := []) ⟨hx, hb, hml, hown, hts⟩ (c_X10_walk (l := l) (D := D) (b := b) (cI := cI) (cL := cL) hc129) (cwV 2 hts gX6_obey_X10_walk rfl rfl rfl (by decide +kernel) ⟨Nat.le_of_ble_eq_true rfl, Nat.le_of_ble_eq_true rfl⟩) (gp_preV hKn hG (cp_obj hcg129) rfl) rfl rfl hl.1 rfl (lv_room (Nat.le_of_ble_eq_true rfl)) dX6_obey_129 ⟨Nat.le_of_ble_eq_true rfl, Nat.le_of_ble_eq_true rfl⟩) hS (fun H locs hG hS => ?_)
      have hf := Option.some.inj hf
      subst hf
      exact gp_retI hx hb hr hlocks hG hS (Nat.le_of_ble_eq_true rfl) (Nat.le_of_ble_eq_true rfl) dX6_obey_132
    · have hf := gb_f c5_103 hf
      by_cases c5_108 : o2 = 108
      · have hf := gb_t c5_108 hf
        refine lv_lookup (tgt := 64) (off := 59) hx hb dX6_obey_5 (by decide) (by rw [c5_108]; decide) (by decide) ?_
        refine gp_aload_n (x := v1) hx hb dX6_obey_64 rfl (lv_at hl 1 rfl) ?_
        refine lv_aload_n hx hb dX6_obey_65 rfl (lv_at hl 0 rfl) ?_
        refine lv_iload_n hx hb dX6_obey_66 rfl (lv_at hl 2 rfl) ?_
        refine lv_iconst (v := 1) hx hb dX6_obey_67 (by decide) ?_
        refine lv_iadd hx hb dX6_obey_68 ?_
        obtain ⟨o69, hc69, hf⟩ := gb_b hf
        obtain ⟨oc69, hcO69, hc69⟩ := gb_b hc69
        obtain ⟨hcg69, hci69⟩ := gfO_s hcO69
        have hci69 := List.mem_singleton.mp hci69
        obtain ⟨kc69, fc69⟩ := oc69
        dsimp only at hci69 hcg69
        subst hci69
        refine gp_callI (va_runV (As := [.int (v2 + 1)]) (rest := [va_rf v1]) ⟨hx, hb, hml, hown, hts⟩ (c_X6_kindAt (l := l) (D := D) (b := b) (cI := cI) (cL := cL) hc69) (cwV 1 hts gX6_obey_X6_kindAt rfl rfl rfl (by decide +kernel) ⟨Nat.le_of_ble_eq_true rfl, Nat.le_of_ble_eq_true rfl⟩) (gp_preV hKn hG (cp_obj hcg69) rfl) rfl rfl hl.1 rfl (lv_room (by simp [gcat_rf, gcat_ref, gcat_int, gcat_long, gcat_null])) dX6_obey_69 ⟨Nat.le_of_ble_eq_true rfl, Nat.le_of_ble_eq_true rfl⟩) hS (fun H locs hG hS => ?_)
        refine lv_aload_n hx hb dX6_obey_72 rfl (lv_at hl 0 rfl) ?_
        refine lv_iload_n hx hb dX6_obey_73 rfl (lv_at hl 2 rfl) ?_
        refine lv_iconst (v := 2) hx hb dX6_obey_74 (by decide) ?_
        refine lv_iadd hx hb dX6_obey_75 ?_
        obtain ⟨o76, hc76, hf⟩ := gb_b hf
        obtain ⟨oc76, hcO76, hc76⟩ := gb_b hc76
        obtain ⟨hcg76, hci76⟩ := gfO_s hcO76
        have hci76 := List.mem_singleton.mp hci76
        obtain ⟨kc76, fc76⟩ := oc76
        dsimp only at hci76 hcg76
        subst hci76
        refine gp_callI (va_runV (As := [.int (v2 + 2)]) (rest := [.int o69, va_rf v1]) ⟨hx, hb, hml, hown, hts⟩ (c_X6_cellAt (l := l) (D := D) (b := b) (cI := cI) (cL := cL) hc76) (cwV 1 hts gX6_obey_X6_cellAt rfl rfl rfl (by decide +kernel) ⟨Nat.le_of_ble_eq_true rfl, Nat.le_of_ble_eq_true rfl⟩) (gp_preV hKn hG (cp_obj hcg76) rfl) rfl rfl hl.1 rfl (lv_room (by simp [gcat_rf, gcat_ref, gcat_int, gcat_long, gcat_null])) dX6_obey_76 ⟨Nat.le_of_ble_eq_true rfl, Nat.le_of_ble_eq_true rfl⟩) hS (fun H locs hG hS => ?_)
        refine lv_aload_n hx hb dX6_obey_79 rfl (lv_at hl 0 rfl) ?_
        refine lv_iload_n hx hb dX6_obey_80 rfl (lv_at hl 2 rfl) ?_
        refine lv_iconst (v := 4) hx hb dX6_obey_81 (by decide) ?_
        refine lv_iadd hx hb dX6_obey_82 ?_
        obtain ⟨o83, hc83, hf⟩ := gb_b hf
        obtain ⟨oc83, hcO83, hc83⟩ := gb_b hc83
        obtain ⟨hcg83, hci83⟩ := gfO_s hcO83
        have hci83 := List.mem_singleton.mp hci83
        obtain ⟨kc83, fc83⟩ := oc83
        dsimp only at hci83 hcg83
        subst hci83
        refine gp_callI (va_runV (As := [.int (v2 + 4)]) (rest := [.int o76, .int o69, va_rf v1]) ⟨hx, hb, hml, hown, hts⟩ (c_X6_digitAt (l := l) (D := D) (b := b) (cI := cI) (cL := cL) hc83) (cwV 1 hts gX6_obey_X6_digitAt rfl rfl rfl (by decide +kernel) ⟨Nat.le_of_ble_eq_true rfl, Nat.le_of_ble_eq_true rfl⟩) (gp_preV hKn hG (cp_obj hcg83) rfl) rfl rfl hl.1 rfl (lv_room (by simp [gcat_rf, gcat_ref, gcat_int, gcat_long, gcat_null])) dX6_obey_83 ⟨Nat.le_of_ble_eq_true rfl, Nat.le_of_ble_eq_true rfl⟩) hS (fun H locs hG hS => ?_)
        obtain ⟨q86, hq86, hf⟩ := gb_b hf
        refine W.eq (g2 := F0 m 86 ls [.int o83, .int o76, .int o69, .ref q86]) (congrArg (fun z => F0 m 86 ls [.int o83, .int o76, .int o69, va_rf z]) hq86) ?_
        rw [hq86] at hl
        obtain ⟨o86, hc86, hf⟩ := gb_b hf
        obtain ⟨oc86, hcO86, hc86⟩ := gb_b hc86
        obtain ⟨hcg86, hci86⟩ := gfO_s hcO86
        have hci86 := List.mem_singleton.mp hci86
        obtain ⟨kc86, fc86⟩ := oc86
        dsimp only at hci86 hcg86
        subst hci86
        refine gp_callI (va_runV (As := [.int o69, .int o76, .int o83]) (rest := []) ⟨hx, hb, hml, hown, hts⟩ (c_X10_addLamp (l := l) (D := D) (b := b) (cI := cI) (cL := cL) hc86) (cwV 3 hts gX6_obey_X10_addLamp rfl rfl rfl (by decide +kernel) ⟨Nat.le_of_ble_eq_true rfl, Nat.le_of_ble_eq_true rfl⟩) (gp_preV hKn hG (cp_obj hcg86) rfl) rfl rfl hl.1 rfl (lv_room (Nat.le_of_ble_eq_true rfl)) dX6_obey_86 ⟨Nat.le_of_ble_eq_true rfl, Nat.le_of_ble_eq_true rfl⟩) hS (fun H locs hG hS => ?_)
        have hf := Option.some.inj hf
        subst hf
        exact gp_retI hx hb hr hlocks hG hS (Nat.le_of_ble_eq_true rfl) (Nat.le_of_ble_eq_true rfl) dX6_obey_89
      · have hf := gb_f c5_108 hf
        by_cases c5_112 : o2 = 112
        · have hf := gb_t c5_112 hf
          refine lv_lookup (tgt := 102) (off := 97) hx hb dX6_obey_5 (by decide) (by rw [c5_112]; decide) (by decide) ?_
          refine gp_aload_n (x := v1) hx hb dX6_obey_102 rfl (lv_at hl 1 rfl) ?_
          refine lv_aload_n hx hb dX6_obey_103 rfl (lv_at hl 0 rfl) ?_
          refine lv_iload_n hx hb dX6_obey_104 rfl (lv_at hl 2 rfl) ?_
          refine lv_iconst (v := 1) hx hb dX6_obey_105 (by decide) ?_
          refine lv_iadd hx hb dX6_obey_106 ?_
          obtain ⟨o107, hc107, hf⟩ := gb_b hf
          obtain ⟨oc107, hcO107, hc107⟩ := gb_b hc107
          obtain ⟨hcg107, hci107⟩ := gfO_s hcO107
          have hci107 := List.mem_singleton.mp hci107
          obtain ⟨kc107, fc107⟩ := oc107
          dsimp only at hci107 hcg107
          subst hci107
          refine gp_callI (va_runV (As := [.int (v2 + 1)]) (rest := [va_rf v1]) ⟨hx, hb, hml, hown, hts⟩ (c_X6_cellAt (l := l) (D := D) (b := b) (cI := cI) (cL := cL) hc107) (cwV 1 hts gX6_obey_X6_cellAt rfl rfl rfl (by decide +kernel) ⟨Nat.le_of_ble_eq_true rfl, Nat.le_of_ble_eq_true rfl⟩) (gp_preV hKn hG (cp_obj hcg107) rfl) rfl rfl hl.1 rfl (lv_room (by simp [gcat_rf, gcat_ref, gcat_int, gcat_long, gcat_null])) dX6_obey_107 ⟨Nat.le_of_ble_eq_true rfl, Nat.le_of_ble_eq_true rfl⟩) hS (fun H locs hG hS => ?_)
          obtain ⟨q110, hq110, hf⟩ := gb_b hf
          refine W.eq (g2 := F0 m 110 ls [.int o107, .ref q110]) (congrArg (fun z => F0 m 110 ls [.int o107, va_rf z]) hq110) ?_
          rw [hq110] at hl
          obtain ⟨o110, hc110, hf⟩ := gb_b hf
          obtain ⟨oc110, hcO110, hc110⟩ := gb_b hc110
          obtain ⟨hcg110, hci110⟩ := gfO_s hcO110
          have hci110 := List.mem_singleton.mp hci110
          obtain ⟨kc110, fc110⟩ := oc110
          dsimp only at hci110 hcg110
          subst hci110
          refine gp_callI (va_runV (As := [.int o107]) (rest := []) ⟨hx, hb, hml, hown, hts⟩ (c_X10_addPerson (l := l) (D := D) (b := b) (cI := cI) (cL := cL) hc110) (cwV 1 hts gX6_obey_X10_addPerson rfl rfl rfl (by decide +kernel) ⟨Nat.le_of_ble_eq_true rfl, Nat.le_of_ble_eq_true rfl⟩) (gp_preV hKn hG (cp_obj hcg110) rfl) rfl rfl hl.1 rfl (lv_room (Nat.le_of_ble_eq_true rfl)) dX6_obey_110 ⟨Nat.le_of_ble_eq_true rfl, Nat.le_of_ble_eq_true rfl⟩) hS (fun H locs hG hS => ?_)
          have hf := Option.some.inj hf
          subst hf
          exact gp_retI hx hb hr hlocks hG hS (Nat.le_of_ble_eq_true rfl) (Nat.le_of_ble_eq_true rfl) dX6_obey_113
        · have hf := gb_f c5_112 hf
          by_cases c5_115 : o2 = 115
          · have hf := gb_t c5_115 hf
            refine lv_lookup (tgt := 133) (off := 128) hx hb dX6_obey_5 (by decide) (by rw [c5_115]; decide) (by decide) ?_
            refine gp_aload_n (x := v1) hx hb dX6_obey_133 rfl (lv_at hl 1 rfl) ?_
            refine lv_aload_n hx hb dX6_obey_134 rfl (lv_at hl 0 rfl) ?_
            refine lv_iload_n hx hb dX6_obey_135 rfl (lv_at hl 2 rfl) ?_
            refine lv_iconst (v := 1) hx hb dX6_obey_136 (by decide) ?_
            refine lv_iadd hx hb dX6_obey_137 ?_
            obtain ⟨o138, hc138, hf⟩ := gb_b hf
            obtain ⟨oc138, hcO138, hc138⟩ := gb_b hc138
            obtain ⟨hcg138, hci138⟩ := gfO_s hcO138
            have hci138 := List.mem_singleton.mp hci138
            obtain ⟨kc138, fc138⟩ := oc138
            dsimp only at hci138 hcg138
            subst hci138
            refine gp_callI (va_runV (As := [.int (v2 + 1)]) (rest := [va_rf v1]) ⟨hx, hb, hml, hown, hts⟩ (c_X6_digitAt (l := l) (D := D) (b := b) (cI := cI) (cL := cL) hc138) (cwV 1 hts gX6_obey_X6_digitAt rfl rfl rfl (by decide +kernel) ⟨Nat.le_of_ble_eq_true rfl, Nat.le_of_ble_eq_true rfl⟩) (gp_preV hKn hG (cp_obj hcg138) rfl) rfl rfl hl.1 rfl (lv_room (by simp [gcat_rf, gcat_ref, gcat_int, gcat_long, gcat_null])) dX6_obey_138 ⟨Nat.le_of_ble_eq_true rfl, Nat.le_of_ble_eq_true rfl⟩) hS (fun H locs hG hS => ?_)
            obtain ⟨q141, hq141, hf⟩ := gb_b hf
            refine W.eq (g2 := F0 m 141 ls [.int o138, .ref q141]) (congrArg (fun z => F0 m 141 ls [.int o138, va_rf z]) hq141) ?_
            rw [hq141] at hl
            obtain ⟨o141, hc141, hf⟩ := gb_b hf
            obtain ⟨oc141, hcO141, hc141⟩ := gb_b hc141
            obtain ⟨hcg141, hci141⟩ := gfO_s hcO141
            have hci141 := List.mem_singleton.mp hci141
            obtain ⟨kc141, fc141⟩ := oc141
            dsimp only at hci141 hcg141
            subst hci141
            refine gp_callR (va_runV (As := [.int o138]) (rest := []) ⟨hx, hb, hml, hown, hts⟩ (c_X10_lampAt (l := l) (D := D) (b := b) (cI := cI) (cL := cL) hc141) (cwV 1 hts gX6_obey_X10_lampAt rfl rfl rfl (by decide +kernel) ⟨Nat.le_of_ble_eq_true rfl, Nat.le_of_ble_eq_true rfl⟩) (gp_preV hKn hG (cp_obj hcg141) rfl) rfl rfl hl.1 rfl (lv_room (Nat.le_of_ble_eq_true rfl)) dX6_obey_141 ⟨Nat.le_of_ble_eq_true rfl, Nat.le_of_ble_eq_true rfl⟩) hS (fun H locs hG hS => ?_)
            obtain ⟨o144, hc144, hf⟩ := gb_b hf
            refine gp_callI (va_runS (As := [va_rf o141]) (rest := []) ⟨hx, hb, hml, hown, hts⟩ (c_X6_turnLamp (l := l) (D := D) (b := b) (cI := cI) (cL := cL) hc144) (va_cwS 1 hts gX6_obey_X6_turnLamp rfl rfl rfl (by decide +kernel) ⟨Nat.le_of_ble_eq_true rfl, Nat.le_of_ble_eq_true rfl⟩) (gp_preS hKn hG) rfl rfl hl.1 rfl (lv_room (Nat.le_of_ble_eq_true rfl)) dX6_obey_144 ⟨Nat.le_of_ble_eq_true rfl, Nat.le_of_ble_eq_true rfl⟩) hS (fun H locs hG hS => ?_)
            have hf := Option.some.inj hf
            subst hf
            exact gp_retI hx hb hr hlocks hG hS (Nat.le_of_ble_eq_true rfl) (Nat.le_of_ble_eq_true rfl) dX6_obey_147
          · have hf := gb_f c5_115 hf
            by_cases c5_119 : o2 = 119
            · have hf := gb_t c5_119 hf
              refine lv_lookup (tgt := 90) (off := 85) hx hb dX6_obey_5 (by decide) (by rw [c5_119]; decide) (by decide) ?_
              refine gp_aload_n (x := v1) hx hb dX6_obey_90 rfl (lv_at hl 1 rfl) ?_
              refine lv_aload_n hx hb dX6_obey_91 rfl (lv_at hl 0 rfl) ?_
              refine lv_iload_n hx hb dX6_obey_92 rfl (lv_at hl 2 rfl) ?_
              refine lv_iconst (v := 1) hx hb dX6_obey_93 (by decide) ?_
              refine lv_iadd hx hb dX6_obey_94 ?_
              obtain ⟨o95, hc95, hf⟩ := gb_b hf
              obtain ⟨oc95, hcO95, hc95⟩ := gb_b hc95
              obtain ⟨hcg95, hci95⟩ := gfO_s hcO95
              have hci95 := List.mem_singleton.mp hci95
              obtain ⟨kc95, fc95⟩ := oc95
              dsimp only at hci95 hcg95
              subst hci95
              refine gp_callI (va_runV (As := [.int (v2 + 1)]) (rest := [va_rf v1]) ⟨hx, hb, hml, hown, hts⟩ (c_X6_cellAt (l := l) (D := D) (b := b) (cI := cI) (cL := cL) hc95) (cwV 1 hts gX6_obey_X6_cellAt rfl rfl rfl (by decide +kernel) ⟨Nat.le_of_ble_eq_true rfl, Nat.le_of_ble_eq_true rfl⟩) (gp_preV hKn hG (cp_obj hcg95) rfl) rfl rfl hl.1 rfl (lv_room (by simp [gcat_rf, gcat_ref, gcat_int, gcat_long, gcat_null])) dX6_obey_95 ⟨Nat.le_of_ble_eq_true rfl, Nat.le_of_ble_eq_true rfl⟩) hS (fun H locs hG hS => ?_)
              obtain ⟨q98, hq98, hf⟩ := gb_b hf
              refine W.eq (g2 := F0 m 98 ls [.int o95, .ref q98]) (congrArg (fun z => F0 m 98 ls [.int o95, va_rf z]) hq98) ?_
              rw [hq98] at hl
              obtain ⟨o98, hc98, hf⟩ := gb_b hf
              obtain ⟨oc98, hcO98, hc98⟩ := gb_b hc98
              obtain ⟨hcg98, hci98⟩ := gfO_s hcO98
              have hci98 := List.mem_singleton.mp hci98
              obtain ⟨kc98, fc98⟩ := oc98
              dsimp only at hci98 hcg98
              subst hci98
              refine gp_callI (va_runV (As := [.int o95]) (rest := []) ⟨hx, hb, hml, hown, hts⟩ (c_X10_turnWall (l := l) (D := D) (b := b) (cI := cI) (cL := cL) hc98) (cwV 1 hts gX6_obey_X10_turnWall rfl rfl rfl (by decide +kernel) ⟨Nat.le_of_ble_eq_true rfl, Nat.le_of_ble_eq_true rfl⟩) (gp_preV hKn hG (cp_obj hcg98) rfl) rfl rfl hl.1 rfl (lv_room (Nat.le_of_ble_eq_true rfl)) dX6_obey_98 ⟨Nat.le_of_ble_eq_true rfl, Nat.le_of_ble_eq_true rfl⟩) hS (fun H locs hG hS => ?_)
              have hf := Option.some.inj hf
              subst hf
              exact gp_retI hx hb hr hlocks hG hS (Nat.le_of_ble_eq_true rfl) (Nat.le_of_ble_eq_true rfl) dX6_obey_101
            · have hf := gb_f c5_119 hf
              refine lv_lookup (tgt := 163) (off := 158) hx hb dX6_obey_5 (by decide) (by show Op.lookupswitch.offset [(98, 143), (103, 109), (108, 59), (112, 97), (115, 128), (119, 85)] _ _ = _; rw [lv_osw (k := 98) (a := 98) c5_98 rfl]; rw [lv_osw (k := 103) (a := 103) c5_103 rfl]; rw [lv_osw (k := 108) (a := 108) c5_108 rfl]; rw [lv_osw (k := 112) (a := 112) c5_112 rfl]; rw [lv_osw (k := 115) (a := 115) c5_115 rfl]; rw [lv_osw (k := 119) (a := 119) c5_119 rfl]; rfl) (by decide) ?_
              refine lv_bipush (v := (-2 : Int32)) hx hb dX6_obey_163 (by decide) ?_
              have hf := Option.some.inj hf
              subst hf
              exact gp_retI hx hb hr hlocks hG hS (Nat.le_of_ble_eq_true rfl) (Nat.le_of_ble_eq_true rfl) dX6_obey_165
-- X6_tellTo
abbrev rm_X6_tellTo : Room := { frames := 7, cells := 80, slots := 560, locals := 154 }
set_option maxHeartbeats 4000000 in
set_option maxRecDepth 100000 in
theorem w_X6_tellTo_20 {α : Type} {R : α} {K43 : (Int32 × (Nat → GV) × Nat) → Option α} {K75 : (Int32 × (Nat → GV) × Nat) → Option α} {v0 : Nat} {v1 : Option Nat} (X : gC p s m args meth c cX6_tellTo 5 (some .int) wsX6_tellTo RX6 D b (gTy cI cL)) : ∀ (n : Nat) (v3 : Int32) (v4 : Int32) (gv : Nat → GV) (M : Nat) (cells slots : Nat), cells + 2 * n ≤ 80 → slots + 14 * n ≤ 560 → L_X6_tellTo_20 K43 K75 v0 v1 n v3 v4 gv M = some R → (∀ (x : Int32 × (Nat → GV) × Nat), K43 x = some R → ∀ (H : Heap) (locs : List Loc) (ls : Array Slot), GP D b x.2.2 (gW cI cL x.2.1) H → va_S (gA b) s.heap H locs → lv_has ls 5 [(4, .int x.1)] → W p l e rm_X6_tellTo s m args below meth c H locs 80 560 Q (F0 m 43 ls [])) → (∀ (x : Int32 × (Nat → GV) × Nat), K75 x = some R → ∀ (H : Heap) (locs : List Loc) (ls : Array Slot), GP D b x.2.2 (gW cI cL x.2.1) H → va_S (gA b) s.heap H locs → lv_has ls 5 [(3, .int x.1)] → W p l e rm_X6_tellTo s m args below meth c H locs 80 560 Q (F0 m 75 ls [])) → ∀ (H : Heap) (locs : List Loc) (ls : Array Slot), GP D b M (gW cI cL gv) H → va_S (gA b) s.heap H locs → lv_has ls 5 [(0, .ref v0), (1, va_rf v1), (3, .int v3), (4, .int v4)] → W p l e rm_X6_tellTo s m args below meth c H locs cells slots Q (F0 m 20 ls []) := by
  obtain ⟨hx, hb, hr, hml, hown, hts, hlocks, hKn, hBs⟩ := id X
  have hK := hKn.1
  have hE : vk_S 6 gSl gSb b.2.2.1 b.2.2.2 (gA b) s s.heap := gs_E hKn hBs
  have hZ : va_Z "java/lang/String" "COMPACT_STRINGS" "Z" (.int 1) (gA b) s s.heap := gs_Z hKn hBs
  have hZq : va_Zq "jdk/internal/util/Preconditions" "SIOOBE_FORMATTER" "Ljava/util/function/BiFunction;" (gA b) s s.heap := gs_Zq hKn hBs
  have gclX6 : gcl [5] TX6 2 wsX6_tellTo := gcl_1 rfl (fun _ h => List.mem_cons_of_mem _ (List.mem_append_left _ (List.mem_append_left _ (List.mem_append_left _ (List.mem_append_left _ (List.mem_append_left _ (List.mem_append_left _ (List.mem_append_left _ (List.mem_append_left _ (List.mem_append_right _ h))))))))))
  intro n
  induction n with
  | zero =>
    intro v3 v4 gv M cells slots hcl hsl hf
    cases hf
  | succ n ih =>
    intro v3 v4 gv M cells slots hcl hsl hf hk43 hk75 H locs ls hG hS hl
    rw [L_X6_tellTo_20.eq_def] at hf; dsimp only at hf
    refine lv_iload hx hb dX6_tellTo_20 (lv_at hl 3 rfl) ?_
    refine lv_aload_n hx hb dX6_tellTo_22 rfl (lv_at hl 0 rfl) ?_
    obtain ⟨t23, ht23, hf⟩ := gb_b hf
    refine cp_get (v := .int t23) hx hb hts gclX6 hown hK hG 1 (gfI_s ht23) (by decide) (hts _ (List.mem_of_getElem? (i := 1) rfl)) (fun _ h9 => h9) dX6_tellTo_23 ?_
    refine lv_icmp_ge (tgt := 75) hx hb dX6_tellTo_26 (by decide) (fun c26 => ?_) (fun c26 => ?_)
    · have hf := gb_t c26 hf
      exact W.widen (by omega) (by omega) (hk75 _ hf _ _ _ hG hS (lv_sub hl [2] rfl))
    · have hf := gb_f c26 hf
      refine gp_aload_n (x := v1) hx hb dX6_tellTo_29 rfl (lv_at hl 1 rfl) ?_
      refine gp_ifnull (x := v1) (tgt := 43) hx hb dX6_tellTo_30 (by decide) ?_ ?_
      · intro e30
        rw [e30] at hl
        rw [e30] at hf
        dsimp only at hf
        exact W.widen (by omega) (by omega) (hk43 _ hf _ _ _ hG hS (lv_sub hl [3] rfl))
      · intro n30 e30
        rw [e30] at hl
        rw [e30] at hf
        dsimp only at hf
        refine lv_aload_n hx hb dX6_tellTo_33 rfl (lv_at hl 0 rfl) ?_
        refine lv_aload_n hx hb dX6_tellTo_34 rfl (lv_at hl 1 rfl) ?_
        refine lv_iload hx hb dX6_tellTo_35 (lv_at hl 3 rfl) ?_
        obtain ⟨o37, hc37, hf⟩ := gb_b hf
        obtain ⟨oc37, hcO37, hc37⟩ := gb_b hc37
        obtain ⟨hcg37, hci37⟩ := gfO_s hcO37
        have hci37 := List.mem_singleton.mp hci37
        obtain ⟨kc37, fc37⟩ := oc37
        dsimp only at hci37 hcg37
        subst hci37
        refine gp_callI (va_runV (As := [.ref n30, .int v4]) (rest := []) ⟨hx, hb, hml, hown, hts⟩ (c_X6_obey (l := l) (D := D) (b := b) (cI := cI) (cL := cL) hc37) (cwV 2 hts gX6_tellTo_X6_obey rfl rfl rfl (by decide +kernel) ⟨Nat.le_of_ble_eq_true rfl, Nat.le_of_ble_eq_true rfl⟩) (gp_preV hKn hG (cp_obj hcg37) rfl) rfl rfl hl.1 rfl (lv_room (Nat.le_of_ble_eq_true rfl)) dX6_tellTo_37 ⟨by show _ ≤ (80 : Nat); omega, by show _ ≤ (560 : Nat); omega⟩) hS (fun H locs hG hS => ?_)
        refine lv_if_ge (tgt := 50) hx hb dX6_tellTo_40 (by decide) (fun c40 => ?_) (fun c40 => ?_)
        · have hf := gb_t c40 hf
          refine lv_iinc (v := v3 + 1) (lv' := [(3, .int (v3 + 1)), (0, .ref v0), (1, .ref n30), (4, .int v4)]) hx hb dX6_tellTo_50 hl (k := 2) rfl rfl (by decide) rfl (fun ls hl => ?_)
          refine lv_iload hx hb dX6_tellTo_53 (lv_at hl 3 rfl) ?_
          refine lv_iconst (v := 1) hx hb dX6_tellTo_55 (by decide) ?_
          refine lv_aload_n hx hb dX6_tellTo_56 rfl (lv_at hl 1 rfl) ?_
          refine lv_iload hx hb dX6_tellTo_57 (lv_at hl 3 rfl) ?_
          obtain ⟨o59, hc59, hf⟩ := gb_b hf
          obtain ⟨oc59, hcO59, hc59⟩ := gb_b hc59
          obtain ⟨hcg59, hci59⟩ := gfO_s hcO59
          have hci59 := List.mem_singleton.mp hci59
          obtain ⟨kc59, fc59⟩ := oc59
          dsimp only at hci59 hcg59
          subst hci59
          refine gp_callI (va_runV (As := [.int v4]) (rest := [.int 1, .int v4]) ⟨hx, hb, hml, hown, hts⟩ (c_X6_at (l := l) (D := D) (b := b) (cI := cI) (cL := cL) hc59) (cwV 1 hts gX6_tellTo_X6_at rfl rfl rfl (by decide +kernel) ⟨Nat.le_of_ble_eq_true rfl, Nat.le_of_ble_eq_true rfl⟩) (gp_preV hKn hG (cp_obj hcg59) rfl) rfl rfl hl.1 rfl (lv_room (Nat.le_of_ble_eq_true rfl)) dX6_tellTo_59 ⟨by show _ ≤ (80 : Nat); omega, by show _ ≤ (560 : Nat); omega⟩) hS (fun H locs hG hS => ?_)
          obtain ⟨o62, hc62, hf⟩ := gb_b hf
          refine gp_callS (va_runS (As := [.int o59]) (rest := [.int 1, .int v4]) ⟨hx, hb, hml, hown, hts⟩ (c_X6_formAfter (l := l) (D := D) (b := b) (cI := cI) (cL := cL) hc62) (va_cwS 1 hts gX6_tellTo_X6_formAfter rfl rfl rfl (by decide +kernel) ⟨Nat.le_of_ble_eq_true rfl, Nat.le_of_ble_eq_true rfl⟩) (gp_preS hKn hG) rfl rfl hl.1 rfl (lv_room (Nat.le_of_ble_eq_true rfl)) dX6_tellTo_62 ⟨by show _ ≤ (80 : Nat); omega, by show _ ≤ (560 : Nat); omega⟩) hS (fun H locs hG hS => ?_)
          obtain ⟨hi65, hf⟩ := gb_si hf
          obtain ⟨o65, hc65, hf⟩ := gb_b hf
          refine gp_callI (va_runV (As := []) (rest := [.int 1, .int v4]) ⟨hx, hb, hml, hown, hts⟩ (c_J0_length_8abf5 (l := l) (D := D) (b := b) (cI := cI) (cL := cL) hc65) (cwV 0 hts gX6_tellTo_J0_length_8abf5 rfl rfl rfl (by decide +kernel) ⟨Nat.le_of_ble_eq_true rfl, Nat.le_of_ble_eq_true rfl⟩) (gs_preV hKn hG hE hi65 hS) rfl rfl hl.1 rfl (lv_room (Nat.le_of_ble_eq_true rfl)) dX6_tellTo_65 ⟨by show _ ≤ (80 : Nat); omega, by show _ ≤ (560 : Nat); omega⟩) hS (fun H locs hG hS => ?_)
          refine lv_iadd hx hb dX6_tellTo_68 ?_
          refine lv_iadd hx hb dX6_tellTo_69 ?_
          refine lv_istore (lv' := [(4, .int (v4 + (1 + o65))), (3, .int (v3 + 1)), (0, .ref v0), (1, .ref n30)]) hx hb dX6_tellTo_70 hl (by decide) rfl (fun ls hl => ?_)
          refine lv_goto (tgt := 20) hx hb dX6_tellTo_72 (by decide) ?_
          rw [← e30] at hf
          have hl : lv_has ls 5 [(4, .int (v4 + (1 + o65))), (3, .int (v3 + 1)), (0, .ref v0), (1, va_rf v1)] := by rw [e30]; exact hl
          exact ih _ _ _ _ _ _ (by omega) (by omega) hf hk43 hk75 _ _ _ hG hS (lv_sub hl [2, 3, 1, 0] rfl)
        · have hf := gb_f c40 hf
          exact W.widen (by omega) (by omega) (hk43 _ hf _ _ _ hG hS (lv_sub hl [3] rfl))
set_option maxHeartbeats 4000000 in
set_option maxRecDepth 100000 in
theorem c_X6_tellTo {v1 : Option Nat} {R : Int32 × (Nat → GV) × Nat} (hf : f_X6_tellTo gv M h0 v1 = some R) : Met l yX6_tellTo wsX6_tellTo rm_X6_tellTo (va_Pc [.ref h0, va_rf v1] (gPre D b M (gW cI cL gv) (gTy cI cL))) (gQ D b (some (.int R.1)) R.2.2 (gW cI cL R.2.1)) 80 560 (gA b) := by
  refine gp_met (cc := cX6_tellTo) (maxL := 5) (ret := (some .int)) (by decide) rfl (by simp [lg_sl, gcat_rf, gcat_ref, gcat_int, gcat_long]) ?_
  intro p e s m below meth c X ls hG hl
  obtain ⟨H, hH0⟩ : ∃ H : Heap, H = s.heap := ⟨_, rfl⟩
  rw [← hH0] at hG ⊢
  have hS : va_S (gA b) s.heap H [] := by rw [hH0]; exact va_S.rf
  obtain ⟨locs, hlo⟩ : ∃ z : List Loc, z = [] := ⟨_, rfl⟩
  rw [← hlo] at hS ⊢
  unfold f_X6_tellTo at hf
  obtain ⟨hx, hb, hr, hml, hown, hts, hlocks, hKn, hBs⟩ := id X
  have hK := hKn.1
  have hE : vk_S 6 gSl gSb b.2.2.1 b.2.2.2 (gA b) s s.heap := gs_E hKn hBs
  have hZ : va_Z "java/lang/String" "COMPACT_STRINGS" "Z" (.int 1) (gA b) s s.heap := gs_Z hKn hBs
  have hZq : va_Zq "jdk/internal/util/Preconditions" "SIOOBE_FORMATTER" "Ljava/util/function/BiFunction;" (gA b) s s.heap := gs_Zq hKn hBs
  have gclX6 : gcl [5] TX6 2 wsX6_tellTo := gcl_1 rfl (fun _ h => List.mem_cons_of_mem _ (List.mem_append_left _ (List.mem_append_left _ (List.mem_append_left _ (List.mem_append_left _ (List.mem_append_left _ (List.mem_append_left _ (List.mem_append_left _ (List.mem_append_left _ (List.mem_append_right _ h))))))))))
  have hl : lv_has ls 5 [(0, .ref h0), (1, va_rf v1)] := by simpa [lv_args, gcat_rf, gcat_ref, gcat_int, gcat_long] using hl
  refine lv_aload_n hx hb dX6_tellTo_0 rfl (lv_at hl 0 rfl) ?_
  obtain ⟨o1, hc1, hf⟩ := gb_b hf
  obtain ⟨oc1, hcO1, hc1⟩ := gb_b hc1
  obtain ⟨hcg1, hci1⟩ := gfO_s hcO1
  have hci1 := List.mem_singleton.mp hci1
  obtain ⟨kc1, fc1⟩ := oc1
  dsimp only at hci1 hcg1
  subst hci1
  refine gp_callI (va_runV (As := []) (rest := []) ⟨hx, hb, hml, hown, hts⟩ (c_X6_misplaced (l := l) (D := D) (b := b) (cI := cI) (cL := cL) hc1) (cwV 0 hts gX6_tellTo_X6_misplaced rfl rfl rfl (by decide +kernel) ⟨Nat.le_of_ble_eq_true rfl, Nat.le_of_ble_eq_true rfl⟩) (gp_preV hKn hG (cp_obj hcg1) rfl) rfl rfl hl.1 rfl (lv_room (Nat.le_of_ble_eq_true rfl)) dX6_tellTo_1 ⟨Nat.le_of_ble_eq_true rfl, Nat.le_of_ble_eq_true rfl⟩) hS (fun H locs hG hS => ?_)
  refine lv_istore_n (lv' := [(2, .int o1), (0, .ref h0), (1, va_rf v1)]) hx hb dX6_tellTo_4 rfl hl (by decide) (by generalize v1 = zz; cases zz <;> rfl) (fun ls hl => ?_)
  refine lv_iload_n hx hb dX6_tellTo_5 rfl (lv_at hl 0 rfl) ?_
  refine lv_if_lt (tgt := 15) hx hb dX6_tellTo_6 (by decide) (fun c6 => ?_) (fun c6 => ?_)
  · have hf := gb_t c6 hf
    refine lv_iconst (v := 0) hx hb dX6_tellTo_15 (by decide) ?_
    refine lv_istore_n (lv' := [(3, .int 0), (2, .int o1), (0, .ref h0), (1, va_rf v1)]) hx hb dX6_tellTo_16 rfl hl (by decide) rfl (fun ls hl => ?_)
    refine lv_iconst (v := 0) hx hb dX6_tellTo_17 (by decide) ?_
    refine lv_istore (lv' := [(4, .int 0), (3, .int 0), (2, .int o1), (0, .ref h0), (1, va_rf v1)]) hx hb dX6_tellTo_18 hl (by decide) rfl (fun ls hl => ?_)
    refine w_X6_tellTo_20 X _ _ _ _ _ _ _ (by show _ + 2 * gFt ≤ _; decide) (by show _ + 14 * gFt ≤ _; decide) hf (fun x20_43 hf H locs ls hG hS hl => ?_) (fun x20_75 hf H locs ls hG hS hl => ?_) _ _ _ hG hS (lv_sub hl [3, 4, 1, 0] rfl)
    · refine lv_sipush (v := (-2000 : Int32)) hx hb dX6_tellTo_43 (by decide) ?_
      refine lv_iload hx hb dX6_tellTo_46 (lv_at hl 0 rfl) ?_
      refine lv_isub hx hb dX6_tellTo_48 ?_
      have hf := Option.some.inj hf
      subst hf
      exact gp_retI hx hb hr hlocks hG hS (Nat.le_of_ble_eq_true rfl) (Nat.le_of_ble_eq_true rfl) dX6_tellTo_49
    · refine lv_iload_n hx hb dX6_tellTo_75 rfl (lv_at hl 0 rfl) ?_
      have hf := Option.some.inj hf
      subst hf
      exact gp_retI hx hb hr hlocks hG hS (Nat.le_of_ble_eq_true rfl) (Nat.le_of_ble_eq_true rfl) dX6_tellTo_76
  · have hf := gb_f c6 hf
    refine lv_sipush (v := (-1000 : Int32)) hx hb dX6_tellTo_9 (by decide) ?_
    refine lv_iload_n hx hb dX6_tellTo_12 rfl (lv_at hl 0 rfl) ?_
    refine lv_isub hx hb dX6_tellTo_13 ?_
    have hf := Option.some.inj hf
    subst hf
    exact gp_retI hx hb hr hlocks hG hS (Nat.le_of_ble_eq_true rfl) (Nat.le_of_ble_eq_true rfl) dX6_tellTo_14
-- X10_allScenes
abbrev rm_X10_allScenes : Room := { frames := 1, cells := 0, slots := 0, locals := 21 }
set_option maxHeartbeats 4000000 in
set_option maxRecDepth 100000 in
theorem w_X10_allScenes_4 {α : Type} {R : α} {K39 : Int32 → Option α} {v0 : Nat} (X : gC p s m args meth c cX10_allScenes 4 (some .int) wsX10_allScenes RX10 D b (gTy cI cL)) : ∀ (n : Nat) (v1 : Int32) (v2 : Int32), L_X10_allScenes_4 K39 gv v0 n v1 v2 = some R → (∀ (x : Int32), K39 x = some R → ∀ (H : Heap) (locs : List Loc) (ls : Array Slot), GP D b M (gW cI cL gv) H → va_S (gA b) s.heap H locs → lv_has ls 4 [(1, .int x)] → W p l e rm_X10_allScenes s m args below meth c H locs 0 0 Q (F0 m 39 ls [])) → ∀ (H : Heap) (locs : List Loc) (ls : Array Slot), GP D b M (gW cI cL gv) H → va_S (gA b) s.heap H locs → lv_has ls 4 [(0, .ref v0), (1, .int v1), (2, .int v2)] → W p l e rm_X10_allScenes s m args below meth c H locs 0 0 Q (F0 m 4 ls []) := by
  obtain ⟨hx, hb, hr, hml, hown, hts, hlocks, hKn, hBs⟩ := id X
  have hK := hKn.1
  have gclL : gcl gLC TX5 5 wsX10_allScenes := gcl_L (fun _ h => List.mem_cons_of_mem _ (List.mem_append_left _ (List.mem_append_left _ (List.mem_append_left _ (List.mem_append_left _ (List.mem_append_left _ (List.mem_append_left _ (List.mem_append_right _ h)))))))) (fun _ h => List.mem_cons_of_mem _ (List.mem_append_left _ (List.mem_append_left _ (List.mem_append_left _ (List.mem_append_left _ (List.mem_append_left _ (List.mem_append_right _ h))))))) (fun _ h => List.mem_cons_of_mem _ (List.mem_append_left _ (List.mem_append_left _ (List.mem_append_left _ (List.mem_append_left _ (List.mem_append_right _ h)))))) (fun _ h => List.mem_cons_of_mem _ (List.mem_append_left _ (List.mem_append_left _ (List.mem_append_left _ (List.mem_append_right _ h))))) (fun _ h => List.mem_cons_of_mem _ (List.mem_append_left _ (List.mem_append_left _ (List.mem_append_right _ h)))) (fun _ h => List.mem_cons_of_mem _ (List.mem_append_left _ (List.mem_append_right _ h))) (fun _ h => List.mem_cons_of_mem _ (List.mem_append_right _ h))
  have gclX10 : gcl [8] TX10 6 wsX10_allScenes := gcl_1 rfl (fun _ h => List.mem_cons_of_mem _ (List.mem_append_left _ (List.mem_append_left _ (List.mem_append_left _ (List.mem_append_left _ (List.mem_append_left _ (List.mem_append_left _ (List.mem_append_left _ (List.mem_append_right _ h)))))))))
  intro n
  induction n with
  | zero =>
    intro v1 v2 hf
    cases hf
  | succ n ih =>
    intro v1 v2 hf hk39 H locs ls hG hS hl
    rw [L_X10_allScenes_4.eq_2] at hf
    refine lv_iload_n hx hb dX10_allScenes_4 rfl (lv_at hl 2 rfl) ?_
    refine lv_aload_n hx hb dX10_allScenes_5 rfl (lv_at hl 0 rfl) ?_
    obtain ⟨t6, ht6, hf⟩ := gb_b hf
    refine cp_get (v := .int t6) hx hb hts gclX10 hown hK hG 3 (gfI_s ht6) (by decide) (hts _ (List.mem_of_getElem? (i := 1) rfl)) (fun _ h9 => h9) dX10_allScenes_6 ?_
    refine lv_icmp_ge (tgt := 39) hx hb dX10_allScenes_9 (by decide) (fun c9 => ?_) (fun c9 => ?_)
    · have hf := gb_t c9 hf
      exact (hk39 _ hf _ _ _ hG hS (lv_sub hl [1] rfl))
    · have hf := gb_f c9 hf
      refine lv_aload_n hx hb dX10_allScenes_12 rfl (lv_at hl 0 rfl) ?_
      refine lv_iload_n hx hb dX10_allScenes_13 rfl (lv_at hl 2 rfl) ?_
      obtain ⟨o14, hc14, hf⟩ := gb_b hf
      obtain ⟨oc14, hcO14, hc14⟩ := gb_b hc14
      obtain ⟨hcg14, hci14⟩ := gfO_s hcO14
      have hci14 := List.mem_singleton.mp hci14
      obtain ⟨kc14, fc14⟩ := oc14
      dsimp only at hci14 hcg14
      subst hci14
      refine gp_callR (va_runV (As := [.int v2]) (rest := []) ⟨hx, hb, hml, hown, hts⟩ (c_X10_lampAt (l := l) (D := D) (b := b) (cI := cI) (cL := cL) hc14) (cwV 1 hts gX10_allScenes_X10_lampAt rfl rfl rfl (by decide +kernel) ⟨Nat.le_of_ble_eq_true rfl, Nat.le_of_ble_eq_true rfl⟩) (gp_preV hKn hG (cp_obj hcg14) rfl) rfl rfl hl.1 rfl (lv_room (Nat.le_of_ble_eq_true rfl)) dX10_allScenes_14 ⟨Nat.le_of_ble_eq_true rfl, Nat.le_of_ble_eq_true rfl⟩) hS (fun H locs hG hS => ?_)
      refine gp_astore_n (lv' := [(3, va_rf o14), (0, .ref v0), (1, .int v1), (2, .int v2)]) hx hb dX10_allScenes_17 rfl hl (by decide) rfl (fun ls hl => ?_)
      refine lv_iload_n hx hb dX10_allScenes_18 rfl (lv_at hl 2 rfl) ?_
      refine gp_aload_n (x := o14) hx hb dX10_allScenes_19 rfl (lv_at hl 0 rfl) ?_
      obtain ⟨j20, hj20, hf⟩ := gb_b hf
      have hJ20 : ∀ (H : Heap) (locs : List Loc) (ls : Array Slot), GP D b M (gW cI cL gv) H → va_S (gA b) s.heap H locs → lv_has ls 4 [(0, .ref v0), (2, .int v2)] → W p l e rm_X10_allScenes s m args below meth c H locs 0 0 Q (F0 m 31 ls [.int j20, .int v1]) := by
        intro H locs ls hG hS hl
        refine lv_iadd hx hb dX10_allScenes_31 ?_
        refine lv_istore_n (lv' := [(1, .int (v1 + j20)), (0, .ref v0), (2, .int v2)]) hx hb dX10_allScenes_32 rfl hl (by decide) rfl (fun ls hl => ?_)
        refine lv_iinc (v := v2 + 1) (lv' := [(2, .int (v2 + 1)), (1, .int (v1 + j20)), (0, .ref v0)]) hx hb dX10_allScenes_33 hl (k := 2) rfl rfl (by decide) rfl (fun ls hl => ?_)
        refine lv_goto (tgt := 4) hx hb dX10_allScenes_36 (by decide) ?_
        exact ih _ _ hf hk39 _ _ _ hG hS (lv_sub hl [2, 1, 0] rfl)
      refine gp_ifnonnull (x := o14) (tgt := 27) hx hb dX10_allScenes_20 (by decide) ?_ ?_
      · intro n20 e20
        rw [e20] at hl
        rw [e20] at hj20
        dsimp only at hj20
        refine lv_aload_n hx hb dX10_allScenes_27 rfl (lv_at hl 0 rfl) ?_
        obtain ⟨t28, ht28, hj20⟩ := gb_b hj20
        refine cp_get (v := .int t28) hx hb hts gclL hown hK hG 3 (gfI_s ht28) (by decide) (hts _ (List.mem_of_getElem? (i := 2) rfl)) (fun _ h9 => h9) dX10_allScenes_28 ?_
        have hj20 := Option.some.inj hj20
        subst hj20
        exact (hJ20 H locs ls hG hS (lv_sub hl [1, 3] rfl))
      · intro e20
        rw [e20] at hl
        rw [e20] at hj20
        dsimp only at hj20
        refine lv_iconst (v := 0) hx hb dX10_allScenes_23 (by decide) ?_
        refine lv_goto (tgt := 31) hx hb dX10_allScenes_24 (by decide) ?_
        have hj20 := Option.some.inj hj20
        subst hj20
        exact (hJ20 H locs ls hG hS (lv_sub hl [1, 3] rfl))
set_option maxHeartbeats 4000000 in
set_option maxRecDepth 100000 in
theorem c_X10_allScenes {R : Int32} (hf : f_X10_allScenes gv h0 = some R) : Met l yX10_allScenes wsX10_allScenes rm_X10_allScenes (va_Pc [.ref h0] (gPre D b M (gW cI cL gv) (gTy cI cL))) (gQ D b (some (.int R)) M (gW cI cL gv)) 0 0 (gA b) := by
  refine gp_met (cc := cX10_allScenes) (maxL := 4) (ret := (some .int)) (by decide) rfl (Nat.le_of_ble_eq_true rfl) ?_
  intro p e s m below meth c X ls hG hl
  obtain ⟨H, hH0⟩ : ∃ H : Heap, H = s.heap := ⟨_, rfl⟩
  rw [← hH0] at hG ⊢
  have hS : va_S (gA b) s.heap H [] := by rw [hH0]; exact va_S.rf
  obtain ⟨locs, hlo⟩ : ∃ z : List Loc, z = [] := ⟨_, rfl⟩
  rw [← hlo] at hS ⊢
  unfold f_X10_allScenes at hf
  obtain ⟨hx, hb, hr, hml, hown, hts, hlocks, hKn, hBs⟩ := id X
  have hK := hKn.1
  have gclL : gcl gLC TX5 5 wsX10_allScenes := gcl_L (fun _ h => List.mem_cons_of_mem _ (List.mem_append_left _ (List.mem_append_left _ (List.mem_append_left _ (List.mem_append_left _ (List.mem_append_left _ (List.mem_append_left _ (List.mem_append_right _ h)))))))) (fun _ h => List.mem_cons_of_mem _ (List.mem_append_left _ (List.mem_append_left _ (List.mem_append_left _ (List.mem_append_left _ (List.mem_append_left _ (List.mem_append_right _ h))))))) (fun _ h => List.mem_cons_of_mem _ (List.mem_append_left _ (List.mem_append_left _ (List.mem_append_left _ (List.mem_append_left _ (List.mem_append_right _ h)))))) (fun _ h => List.mem_cons_of_mem _ (List.mem_append_left _ (List.mem_append_left _ (List.mem_append_left _ (List.mem_append_right _ h))))) (fun _ h => List.mem_cons_of_mem _ (List.mem_append_left _ (List.mem_append_left _ (List.mem_append_right _ h)))) (fun _ h => List.mem_cons_of_mem _ (List.mem_append_left _ (List.mem_append_right _ h))) (fun _ h => List.mem_cons_of_mem _ (List.mem_append_right _ h))
  have gclX10 : gcl [8] TX10 6 wsX10_allScenes := gcl_1 rfl (fun _ h => List.mem_cons_of_mem _ (List.mem_append_left _ (List.mem_append_left _ (List.mem_append_left _ (List.mem_append_left _ (List.mem_append_left _ (List.mem_append_left _ (List.mem_append_left _ (List.mem_append_right _ h)))))))))
  have hl : lv_has ls 4 [(0, .ref h0)] := hl
  refine lv_iconst (v := 0) hx hb dX10_allScenes_0 (by decide) ?_
  refine lv_istore_n (lv' := [(1, .int 0), (0, .ref h0)]) hx hb dX10_allScenes_1 rfl hl (by decide) rfl (fun ls hl => ?_)
  refine lv_iconst (v := 0) hx hb dX10_allScenes_2 (by decide) ?_
  refine lv_istore_n (lv' := [(2, .int 0), (1, .int 0), (0, .ref h0)]) hx hb dX10_allScenes_3 rfl hl (by decide) rfl (fun ls hl => ?_)
  refine w_X10_allScenes_4 X _ _ _ hf (fun x4_39 hf H locs ls hG hS hl => ?_) _ _ _ hG hS (lv_sub hl [2, 1, 0] rfl)
  · refine lv_iload_n hx hb dX10_allScenes_39 rfl (lv_at hl 0 rfl) ?_
    have hf := Option.some.inj hf
    subst hf
    exact gp_retI hx hb hr hlocks hG hS (Nat.le_of_ble_eq_true rfl) (Nat.le_of_ble_eq_true rfl) dX10_allScenes_40
-- X10_anyHas
abbrev rm_X10_anyHas : Room := { frames := 3, cells := 0, slots := 0, locals := 65 }
set_option maxHeartbeats 4000000 in
set_option maxRecDepth 100000 in
theorem w_X10_anyHas_2 {α : Type} {R : α} {K40 : Unit → Option α} {K48 : Unit → Option α} {v0 : Nat} {v1 : Int32} {v2 : Int32} (X : gC p s m args meth c cX10_anyHas 5 (some .boolean) wsX10_anyHas RX10 D b (gTy cI cL)) : ∀ (n : Nat) (v3 : Int32), L_X10_anyHas_2 K40 K48 gv v0 v1 v2 n v3 = some R → (∀ (x : Unit), K40 x = some R → ∀ (H : Heap) (locs : List Loc) (ls : Array Slot), GP D b M (gW cI cL gv) H → va_S (gA b) s.heap H locs → lv_has ls 5 [] → W p l e rm_X10_anyHas s m args below meth c H locs 0 0 Q (F0 m 40 ls [])) → (∀ (x : Unit), K48 x = some R → ∀ (H : Heap) (locs : List Loc) (ls : Array Slot), GP D b M (gW cI cL gv) H → va_S (gA b) s.heap H locs → lv_has ls 5 [] → W p l e rm_X10_anyHas s m args below meth c H locs 0 0 Q (F0 m 48 ls [])) → ∀ (H : Heap) (locs : List Loc) (ls : Array Slot), GP D b M (gW cI cL gv) H → va_S (gA b) s.heap H locs → lv_has ls 5 [(0, .ref v0), (1, .int v1), (2, .int v2), (3, .int v3)] → W p l e rm_X10_anyHas s m args below meth c H locs 0 0 Q (F0 m 2 ls []) := by
  obtain ⟨hx, hb, hr, hml, hown, hts, hlocks, hKn, hBs⟩ := id X
  have hK := hKn.1
  have gclX10 : gcl [8] TX10 6 wsX10_anyHas := gcl_1 rfl (fun _ h => List.mem_cons_of_mem _ (List.mem_append_left _ (List.mem_append_left _ (List.mem_append_left _ (List.mem_append_left _ (List.mem_append_left _ (List.mem_append_left _ (List.mem_append_left _ (List.mem_append_right _ h)))))))))
  intro n
  induction n with
  | zero =>
    intro v3 hf
    cases hf
  | succ n ih =>
    intro v3 hf hk40 hk48 H locs ls hG hS hl
    rw [L_X10_anyHas_2.eq_2] at hf
    refine lv_iload_n hx hb dX10_anyHas_2 rfl (lv_at hl 3 rfl) ?_
    refine lv_aload_n hx hb dX10_anyHas_3 rfl (lv_at hl 0 rfl) ?_
    obtain ⟨t4, ht4, hf⟩ := gb_b hf
    refine cp_get (v := .int t4) hx hb hts gclX10 hown hK hG 3 (gfI_s ht4) (by decide) (hts _ (List.mem_of_getElem? (i := 1) rfl)) (fun _ h9 => h9) dX10_anyHas_4 ?_
    refine lv_icmp_ge (tgt := 48) hx hb dX10_anyHas_7 (by decide) (fun c7 => ?_) (fun c7 => ?_)
    · have hf := gb_t c7 hf
      exact (hk48 _ hf _ _ _ hG hS (lv_sub hl [] rfl))
    · have hf := gb_f c7 hf
      refine lv_aload_n hx hb dX10_anyHas_10 rfl (lv_at hl 0 rfl) ?_
      refine lv_iload_n hx hb dX10_anyHas_11 rfl (lv_at hl 3 rfl) ?_
      obtain ⟨o12, hc12, hf⟩ := gb_b hf
      obtain ⟨oc12, hcO12, hc12⟩ := gb_b hc12
      obtain ⟨hcg12, hci12⟩ := gfO_s hcO12
      have hci12 := List.mem_singleton.mp hci12
      obtain ⟨kc12, fc12⟩ := oc12
      dsimp only at hci12 hcg12
      subst hci12
      refine gp_callR (va_runV (As := [.int v3]) (rest := []) ⟨hx, hb, hml, hown, hts⟩ (c_X10_lampAt (l := l) (D := D) (b := b) (cI := cI) (cL := cL) hc12) (cwV 1 hts gX10_anyHas_X10_lampAt rfl rfl rfl (by decide +kernel) ⟨Nat.le_of_ble_eq_true rfl, Nat.le_of_ble_eq_true rfl⟩) (gp_preV hKn hG (cp_obj hcg12) rfl) rfl rfl hl.1 rfl (lv_room (Nat.le_of_ble_eq_true rfl)) dX10_anyHas_12 ⟨Nat.le_of_ble_eq_true rfl, Nat.le_of_ble_eq_true rfl⟩) hS (fun H locs hG hS => ?_)
      refine gp_astore (lv' := [(4, va_rf o12), (0, .ref v0), (1, .int v1), (2, .int v2), (3, .int v3)]) hx hb dX10_anyHas_15 hl (by decide) rfl (fun ls hl => ?_)
      refine gp_aload (x := o12) hx hb dX10_anyHas_17 (lv_at hl 0 rfl) ?_
      refine gp_ifnull (x := o12) (tgt := 42) hx hb dX10_anyHas_19 (by decide) ?_ ?_
      · intro e19
        rw [e19] at hl
        rw [e19] at hf
        dsimp only at hf
        refine lv_iinc (v := v3 + 1) (lv' := [(3, .int (v3 + 1)), (4, .null), (0, .ref v0), (1, .int v1), (2, .int v2)]) hx hb dX10_anyHas_42 hl (k := 4) rfl rfl (by decide) rfl (fun ls hl => ?_)
        refine lv_goto (tgt := 2) hx hb dX10_anyHas_45 (by decide) ?_
        exact ih _ hf hk40 hk48 _ _ _ hG hS (lv_sub hl [2, 3, 4, 0] rfl)
      · intro n19 e19
        rw [e19] at hl
        rw [e19] at hf
        dsimp only at hf
        refine lv_iload_n hx hb dX10_anyHas_22 rfl (lv_at hl 2 rfl) ?_
        refine lv_iload_n hx hb dX10_anyHas_23 rfl (lv_at hl 4 rfl) ?_
        refine lv_ishr hx hb dX10_anyHas_24 ?_
        refine lv_iconst (v := 1) hx hb dX10_anyHas_25 (by decide) ?_
        refine lv_iand hx hb dX10_anyHas_26 ?_
        refine lv_iconst (v := 1) hx hb dX10_anyHas_27 (by decide) ?_
        refine lv_icmp_ne (tgt := 42) hx hb dX10_anyHas_28 (by decide) (fun c28 => ?_) (fun c28 => ?_)
        · have hf := gb_f c28 hf
          refine lv_iinc (v := v3 + 1) (lv' := [(3, .int (v3 + 1)), (4, .ref n19), (0, .ref v0), (1, .int v1), (2, .int v2)]) hx hb dX10_anyHas_42 hl (k := 4) rfl rfl (by decide) rfl (fun ls hl => ?_)
          refine lv_goto (tgt := 2) hx hb dX10_anyHas_45 (by decide) ?_
          exact ih _ hf hk40 hk48 _ _ _ hG hS (lv_sub hl [2, 3, 4, 0] rfl)
        · have hf := gb_t c28 hf
          refine lv_aload hx hb dX10_anyHas_31 (lv_at hl 0 rfl) ?_
          refine lv_iload_n hx hb dX10_anyHas_33 rfl (lv_at hl 3 rfl) ?_
          obtain ⟨o34, hc34, hf⟩ := gb_b hf
          have hrun34 : va_Run p l e rm_X10_anyHas s m args below meth c H locs 0 0 0 0 (F0 m 34 ls ([.int v2].reverse ++ .ref n19 :: [])) [] (gQ D b (some (.int o34)) M (gW cI cL gv) (Value.ref n19 :: [.int v2]).toArray) (gA b) := by
            obtain ⟨oc, hcO, hc34⟩ := gb_b hc34
            obtain ⟨hcg, hci⟩ := gfO_s hcO
            obtain ⟨kc, fc⟩ := oc
            dsimp only at hci hcg hc34
            rcases gLC_7 hci with rfl | rfl | rfl | rfl | rfl | rfl | rfl
            · exact va_runU (As := [.int v2]) (rest := []) ⟨hx, hb, hml, hown, hts⟩ (c_X5_hasScene (l := l) (D := D) (b := b) (cI := cI) (cL := cL) hc34) (va_cwU 1 hts gX10_anyHas_X5_hasScene_u141X0 rfl rfl rfl rfl (by decide +kernel) ⟨Nat.le_of_ble_eq_true rfl, Nat.le_of_ble_eq_true rfl⟩) (gp_preV hKn hG (cp_obj hcg) rfl) rfl rfl hl.1 rfl (lv_room (Nat.le_of_ble_eq_true rfl)) dX10_anyHas_34 ⟨Nat.le_of_ble_eq_true rfl, Nat.le_of_ble_eq_true rfl⟩
            · exact va_runU (As := [.int v2]) (rest := []) ⟨hx, hb, hml, hown, hts⟩ (c_X5_hasScene (l := l) (D := D) (b := b) (cI := cI) (cL := cL) hc34) (va_cwU 1 hts gX10_anyHas_X5_hasScene_u141X1 rfl rfl rfl rfl (by decide +kernel) ⟨Nat.le_of_ble_eq_true rfl, Nat.le_of_ble_eq_true rfl⟩) (gp_preV hKn hG (cp_obj hcg) rfl) rfl rfl hl.1 rfl (lv_room (Nat.le_of_ble_eq_true rfl)) dX10_anyHas_34 ⟨Nat.le_of_ble_eq_true rfl, Nat.le_of_ble_eq_true rfl⟩
            · exact va_runU (As := [.int v2]) (rest := []) ⟨hx, hb, hml, hown, hts⟩ (c_X5_hasScene (l := l) (D := D) (b := b) (cI := cI) (cL := cL) hc34) (va_cwU 1 hts gX10_anyHas_X5_hasScene_u141X3 rfl rfl rfl rfl (by decide +kernel) ⟨Nat.le_of_ble_eq_true rfl, Nat.le_of_ble_eq_true rfl⟩) (gp_preV hKn hG (cp_obj hcg) rfl) rfl rfl hl.1 rfl (lv_room (Nat.le_of_ble_eq_true rfl)) dX10_anyHas_34 ⟨Nat.le_of_ble_eq_true rfl, Nat.le_of_ble_eq_true rfl⟩
            · exact va_runU (As := [.int v2]) (rest := []) ⟨hx, hb, hml, hown, hts⟩ (c_X5_hasScene (l := l) (D := D) (b := b) (cI := cI) (cL := cL) hc34) (va_cwU 1 hts gX10_anyHas_X5_hasScene_u141X4 rfl rfl rfl rfl (by decide +kernel) ⟨Nat.le_of_ble_eq_true rfl, Nat.le_of_ble_eq_true rfl⟩) (gp_preV hKn hG (cp_obj hcg) rfl) rfl rfl hl.1 rfl (lv_room (Nat.le_of_ble_eq_true rfl)) dX10_anyHas_34 ⟨Nat.le_of_ble_eq_true rfl, Nat.le_of_ble_eq_true rfl⟩
            · exact va_runV (As := [.int v2]) (rest := []) ⟨hx, hb, hml, hown, hts⟩ (c_X5_hasScene (l := l) (D := D) (b := b) (cI := cI) (cL := cL) hc34) (cwV 1 hts gX10_anyHas_X5_hasScene rfl rfl rfl (by decide +kernel) ⟨Nat.le_of_ble_eq_true rfl, Nat.le_of_ble_eq_true rfl⟩) (gp_preV hKn hG (cp_obj hcg) rfl) rfl rfl hl.1 rfl (lv_room (Nat.le_of_ble_eq_true rfl)) dX10_anyHas_34 ⟨Nat.le_of_ble_eq_true rfl, Nat.le_of_ble_eq_true rfl⟩
            · exact va_runU (As := [.int v2]) (rest := []) ⟨hx, hb, hml, hown, hts⟩ (c_X5_hasScene (l := l) (D := D) (b := b) (cI := cI) (cL := cL) hc34) (va_cwU 1 hts gX10_anyHas_X5_hasScene_u141X7 rfl rfl rfl rfl (by decide +kernel) ⟨Nat.le_of_ble_eq_true rfl, Nat.le_of_ble_eq_true rfl⟩) (gp_preV hKn hG (cp_obj hcg) rfl) rfl rfl hl.1 rfl (lv_room (Nat.le_of_ble_eq_true rfl)) dX10_anyHas_34 ⟨Nat.le_of_ble_eq_true rfl, Nat.le_of_ble_eq_true rfl⟩
            · exact va_runU (As := [.int v2]) (rest := []) ⟨hx, hb, hml, hown, hts⟩ (c_X5_hasScene (l := l) (D := D) (b := b) (cI := cI) (cL := cL) hc34) (va_cwU 1 hts gX10_anyHas_X5_hasScene_u141X8 rfl rfl rfl rfl (by decide +kernel) ⟨Nat.le_of_ble_eq_true rfl, Nat.le_of_ble_eq_true rfl⟩) (gp_preV hKn hG (cp_obj hcg) rfl) rfl rfl hl.1 rfl (lv_room (Nat.le_of_ble_eq_true rfl)) dX10_anyHas_34 ⟨Nat.le_of_ble_eq_true rfl, Nat.le_of_ble_eq_true rfl⟩
          refine gp_callI hrun34 hS (fun H locs hG hS => ?_)
          refine lv_if_eq (tgt := 42) hx hb dX10_anyHas_37 (by decide) (fun c37 => ?_) (fun c37 => ?_)
          · have hf := gb_t c37 hf
            refine lv_iinc (v := v3 + 1) (lv' := [(3, .int (v3 + 1)), (4, .ref n19), (0, .ref v0), (1, .int v1), (2, .int v2)]) hx hb dX10_anyHas_42 hl (k := 4) rfl rfl (by decide) rfl (fun ls hl => ?_)
            refine lv_goto (tgt := 2) hx hb dX10_anyHas_45 (by decide) ?_
            exact ih _ hf hk40 hk48 _ _ _ hG hS (lv_sub hl [2, 3, 4, 0] rfl)
          · have hf := gb_f c37 hf
            exact (hk40 _ hf _ _ _ hG hS (lv_sub hl [] rfl))
set_option maxHeartbeats 4000000 in
set_option maxRecDepth 100000 in
theorem c_X10_anyHas {v1 : Int32} {v2 : Int32} {R : Int32} (hf : f_X10_anyHas gv h0 v1 v2 = some R) : Met l yX10_anyHas wsX10_anyHas rm_X10_anyHas (va_Pc [.ref h0, .int v1, .int v2] (gPre D b M (gW cI cL gv) (gTy cI cL))) (gQ D b (some (.int R)) M (gW cI cL gv)) 0 0 (gA b) := by
  refine gp_met (cc := cX10_anyHas) (maxL := 5) (ret := (some .boolean)) (by decide) rfl (Nat.le_of_ble_eq_true rfl) ?_
  intro p e s m below meth c X ls hG hl
  obtain ⟨H, hH0⟩ : ∃ H : Heap, H = s.heap := ⟨_, rfl⟩
  rw [← hH0] at hG ⊢
  have hS : va_S (gA b) s.heap H [] := by rw [hH0]; exact va_S.rf
  obtain ⟨locs, hlo⟩ : ∃ z : List Loc, z = [] := ⟨_, rfl⟩
  rw [← hlo] at hS ⊢
  unfold f_X10_anyHas at hf
  obtain ⟨hx, hb, hr, hml, hown, hts, hlocks, hKn, hBs⟩ := id X
  have hK := hKn.1
  have gclX10 : gcl [8] TX10 6 wsX10_anyHas := gcl_1 rfl (fun _ h => List.mem_cons_of_mem _ (List.mem_append_left _ (List.mem_append_left _ (List.mem_append_left _ (List.mem_append_left _ (List.mem_append_left _ (List.mem_append_left _ (List.mem_append_left _ (List.mem_append_right _ h)))))))))
  have hl : lv_has ls 5 [(0, .ref h0), (1, .int v1), (2, .int v2)] := hl
  refine lv_iconst (v := 0) hx hb dX10_anyHas_0 (by decide) ?_
  refine lv_istore_n (lv' := [(3, .int 0), (0, .ref h0), (1, .int v1), (2, .int v2)]) hx hb dX10_anyHas_1 rfl hl (by decide) rfl (fun ls hl => ?_)
  refine w_X10_anyHas_2 X _ _ hf (fun x2_40 hf H locs ls hG hS hl => ?_) (fun x2_48 hf H locs ls hG hS hl => ?_) _ _ _ hG hS (lv_sub hl [1, 2, 3, 0] rfl)
  · refine lv_iconst (v := 1) hx hb dX10_anyHas_40 (by decide) ?_
    have hf := Option.some.inj hf
    subst hf
    exact gp_retZ hx hb hr (Or.inr rfl) hlocks hG hS (Nat.le_of_ble_eq_true rfl) (Nat.le_of_ble_eq_true rfl) dX10_anyHas_41
  · refine lv_iconst (v := 0) hx hb dX10_anyHas_48 (by decide) ?_
    have hf := Option.some.inj hf
    subst hf
    exact gp_retZ hx hb hr (Or.inl rfl) hlocks hG hS (Nat.le_of_ble_eq_true rfl) (Nat.le_of_ble_eq_true rfl) dX10_anyHas_49
-- X10_become
abbrev rm_X10_become : Room := { frames := 6, cells := 14, slots := 98, locals := 130 }
set_option maxHeartbeats 4000000 in
set_option maxRecDepth 100000 in
theorem w_X10_become_7 {α : Type} {R : α} {K46 : ((Nat → GV) × Nat) → Option α} {v0 : Nat} {v1 : Nat} (X : gC p s m args meth c cX10_become 4 none wsX10_become RX10 D b (gTy cI cL)) : ∀ (n : Nat) (v2 : Int32) (gv : Nat → GV) (M : Nat) (cells slots : Nat), cells + 2 * n ≤ 14 → slots + 14 * n ≤ 98 → L_X10_become_7 K46 v0 v1 n v2 gv M = some R → (∀ (x : (Nat → GV) × Nat), K46 x = some R → ∀ (H : Heap) (locs : List Loc) (ls : Array Slot), GP D b x.2 (gW cI cL x.1) H → va_S (gA b) s.heap H locs → lv_has ls 4 [(0, .ref v0), (1, .ref v1)] → W p l e rm_X10_become s m args below meth c H locs 14 98 Q (F0 m 46 ls [])) → ∀ (H : Heap) (locs : List Loc) (ls : Array Slot), GP D b M (gW cI cL gv) H → va_S (gA b) s.heap H locs → lv_has ls 4 [(0, .ref v0), (1, .ref v1), (2, .int v2)] → W p l e rm_X10_become s m args below meth c H locs cells slots Q (F0 m 7 ls []) := by
  obtain ⟨hx, hb, hr, hml, hown, hts, hlocks, hKn, hBs⟩ := id X
  have hK := hKn.1
  have gclX10 : gcl [8] TX10 6 wsX10_become := gcl_1 rfl (fun _ h => List.mem_cons_of_mem _ (List.mem_append_left _ (List.mem_append_left _ (List.mem_append_left _ (List.mem_append_left _ (List.mem_append_left _ (List.mem_append_left _ (List.mem_append_left _ (List.mem_append_right _ h)))))))))
  intro n
  induction n with
  | zero =>
    intro v2 gv M cells slots hcl hsl hf
    cases hf
  | succ n ih =>
    intro v2 gv M cells slots hcl hsl hf hk46 H locs ls hG hS hl
    rw [L_X10_become_7.eq_2] at hf
    refine lv_iload_n hx hb dX10_become_7 rfl (lv_at hl 2 rfl) ?_
    refine lv_aload_n hx hb dX10_become_8 rfl (lv_at hl 0 rfl) ?_
    obtain ⟨t9, ht9, hf⟩ := gb_b hf
    refine cp_get (v := va_rf t9) hx hb hts gclX10 hown hK hG 0 (gfR_s ht9) (by decide) (hts _ (List.mem_of_getElem? (i := 1) rfl)) (fun _ h9 => h9) dX10_become_9 ?_
    obtain ⟨q12, hq12, hf⟩ := gb_b hf
    refine W.eq (g2 := F0 m 12 ls [.ref q12, .int v2]) (congrArg (fun z => F0 m 12 ls [va_rf z, .int v2]) hq12) ?_
    obtain ⟨t12, ht12, hf⟩ := gb_b hf
    refine cp_alenR hx hb hK hG ht12 dX10_become_12 ?_
    refine lv_icmp_ge (tgt := 46) hx hb dX10_become_13 (by decide) (fun c13 => ?_) (fun c13 => ?_)
    · have hf := gb_t c13 hf
      exact W.widen (by omega) (by omega) (hk46 _ hf _ _ _ hG hS (lv_sub hl [0, 1] rfl))
    · have hf := gb_f c13 hf
      refine lv_aload_n hx hb dX10_become_16 rfl (lv_at hl 1 rfl) ?_
      refine lv_iload_n hx hb dX10_become_17 rfl (lv_at hl 2 rfl) ?_
      obtain ⟨o18, hc18, hf⟩ := gb_b hf
      obtain ⟨oc18, hcO18, hc18⟩ := gb_b hc18
      obtain ⟨hcg18, hci18⟩ := gfO_s hcO18
      have hci18 := List.mem_singleton.mp hci18
      obtain ⟨kc18, fc18⟩ := oc18
      dsimp only at hci18 hcg18
      subst hci18
      refine gp_callR (va_runV (As := [.int v2]) (rest := []) ⟨hx, hb, hml, hown, hts⟩ (c_X10_lampAt (l := l) (D := D) (b := b) (cI := cI) (cL := cL) hc18) (cwV 1 hts gX10_become_X10_lampAt rfl rfl rfl (by decide +kernel) ⟨Nat.le_of_ble_eq_true rfl, Nat.le_of_ble_eq_true rfl⟩) (gp_preV hKn hG (cp_obj hcg18) rfl) rfl rfl hl.1 rfl (lv_room (Nat.le_of_ble_eq_true rfl)) dX10_become_18 ⟨by show _ ≤ (14 : Nat); omega, by show _ ≤ (98 : Nat); omega⟩) hS (fun H locs hG hS => ?_)
      refine gp_astore_n (lv' := [(3, va_rf o18), (0, .ref v0), (1, .ref v1), (2, .int v2)]) hx hb dX10_become_21 rfl hl (by decide) rfl (fun ls hl => ?_)
      refine lv_aload_n hx hb dX10_become_22 rfl (lv_at hl 1 rfl) ?_
      obtain ⟨t23, ht23, hf⟩ := gb_b hf
      refine cp_get (v := va_rf t23) hx hb hts gclX10 hown hK hG 0 (gfR_s ht23) (by decide) (hts _ (List.mem_of_getElem? (i := 1) rfl)) (fun _ h9 => h9) dX10_become_23 ?_
      refine lv_iload_n hx hb dX10_become_26 rfl (lv_at hl 3 rfl) ?_
      refine gp_aload_n (x := o18) hx hb dX10_become_27 rfl (lv_at hl 0 rfl) ?_
      obtain ⟨j28, hj28, hf⟩ := gb_b hf
      have hJ28 : ∀ (H : Heap) (locs : List Loc) (ls : Array Slot), GP D b j28.2.2 (gW cI cL j28.2.1) H → va_S (gA b) s.heap H locs → lv_has ls 4 [(0, .ref v0), (1, .ref v1), (2, .int v2)] → W p l e rm_X10_become s m args below meth c H locs (cells + 2) (slots + 14) Q (F0 m 39 ls [va_rf j28.1, .int v2, va_rf t23]) := by
        intro H locs ls hG hS hl
        obtain ⟨q39, hq39, hf⟩ := gb_b hf
        refine W.eq (g2 := F0 m 39 ls [va_rf j28.1, .int v2, .ref q39]) (congrArg (fun z => F0 m 39 ls [va_rf j28.1, .int v2, va_rf z]) hq39) ?_
        obtain ⟨g39, ht39, hf⟩ := gb_b hf
        refine cp_aast (x := j28.1) hx hb hKn hG hS ht39 dX10_become_39 (fun H locs hG hS => ?_)
        refine lv_iinc (v := v2 + 1) (lv' := [(2, .int (v2 + 1)), (0, .ref v0), (1, .ref v1)]) hx hb dX10_become_40 hl (k := 2) rfl rfl (by decide) rfl (fun ls hl => ?_)
        refine lv_goto (tgt := 7) hx hb dX10_become_43 (by decide) ?_
        exact ih _ _ _ _ _ (by omega) (by omega) hf hk46 _ _ _ hG hS (lv_sub hl [1, 2, 0] rfl)
      refine gp_ifnonnull (x := o18) (tgt := 35) hx hb dX10_become_28 (by decide) ?_ ?_
      · intro n28 e28
        rw [e28] at hl
        rw [e28] at hj28
        dsimp only at hj28
        refine lv_aload_n hx hb dX10_become_35 rfl (lv_at hl 0 rfl) ?_
        obtain ⟨o36, hc36, hj28⟩ := gb_b hj28
        have hrun36 : va_Run p l e rm_X10_become s m args below meth c H locs cells slots 2 14 (F0 m 36 ls ([].reverse ++ .ref n28 :: [.int v2, va_rf t23])) [.int v2, va_rf t23] (gQ D b (some (va_rf o36.1)) o36.2.2 (gW cI cL o36.2.1) (Value.ref n28 :: []).toArray) (gA b) := by
          obtain ⟨oc, hcO, hc36⟩ := gb_b hc36
          obtain ⟨hcg, hci⟩ := gfO_s hcO
          obtain ⟨kc, fc⟩ := oc
          dsimp only at hci hcg hc36
          rcases gLC_7 hci with rfl | rfl | rfl | rfl | rfl | rfl | rfl
          · exact va_runU (As := []) (rest := [.int v2, va_rf t23]) ⟨hx, hb, hml, hown, hts⟩ (c_X5_twin (l := l) (D := D) (b := b) (cI := cI) (cL := cL) hc36) (va_cwU 0 hts gX10_become_X5_twin_u25X0 rfl rfl rfl rfl (by decide +kernel) ⟨Nat.le_of_ble_eq_true rfl, Nat.le_of_ble_eq_true rfl⟩) (gp_preV hKn hG (cp_obj hcg) rfl) rfl rfl hl.1 rfl (lv_room (by simp [gcat_rf, gcat_ref, gcat_int, gcat_long, gcat_null])) dX10_become_36 ⟨by show _ ≤ (14 : Nat); omega, by show _ ≤ (98 : Nat); omega⟩
          · exact va_runU (As := []) (rest := [.int v2, va_rf t23]) ⟨hx, hb, hml, hown, hts⟩ (c_X5_twin (l := l) (D := D) (b := b) (cI := cI) (cL := cL) hc36) (va_cwU 0 hts gX10_become_X5_twin_u25X1 rfl rfl rfl rfl (by decide +kernel) ⟨Nat.le_of_ble_eq_true rfl, Nat.le_of_ble_eq_true rfl⟩) (gp_preV hKn hG (cp_obj hcg) rfl) rfl rfl hl.1 rfl (lv_room (by simp [gcat_rf, gcat_ref, gcat_int, gcat_long, gcat_null])) dX10_become_36 ⟨by show _ ≤ (14 : Nat); omega, by show _ ≤ (98 : Nat); omega⟩
          · exact va_runU (As := []) (rest := [.int v2, va_rf t23]) ⟨hx, hb, hml, hown, hts⟩ (c_X5_twin (l := l) (D := D) (b := b) (cI := cI) (cL := cL) hc36) (va_cwU 0 hts gX10_become_X5_twin_u25X3 rfl rfl rfl rfl (by decide +kernel) ⟨Nat.le_of_ble_eq_true rfl, Nat.le_of_ble_eq_true rfl⟩) (gp_preV hKn hG (cp_obj hcg) rfl) rfl rfl hl.1 rfl (lv_room (by simp [gcat_rf, gcat_ref, gcat_int, gcat_long, gcat_null])) dX10_become_36 ⟨by show _ ≤ (14 : Nat); omega, by show _ ≤ (98 : Nat); omega⟩
          · exact va_runU (As := []) (rest := [.int v2, va_rf t23]) ⟨hx, hb, hml, hown, hts⟩ (c_X5_twin (l := l) (D := D) (b := b) (cI := cI) (cL := cL) hc36) (va_cwU 0 hts gX10_become_X5_twin_u25X4 rfl rfl rfl rfl (by decide +kernel) ⟨Nat.le_of_ble_eq_true rfl, Nat.le_of_ble_eq_true rfl⟩) (gp_preV hKn hG (cp_obj hcg) rfl) rfl rfl hl.1 rfl (lv_room (by simp [gcat_rf, gcat_ref, gcat_int, gcat_long, gcat_null])) dX10_become_36 ⟨by show _ ≤ (14 : Nat); omega, by show _ ≤ (98 : Nat); omega⟩
          · exact va_runV (As := []) (rest := [.int v2, va_rf t23]) ⟨hx, hb, hml, hown, hts⟩ (c_X5_twin (l := l) (D := D) (b := b) (cI := cI) (cL := cL) hc36) (cwV 0 hts gX10_become_X5_twin rfl rfl rfl (by decide +kernel) ⟨Nat.le_of_ble_eq_true rfl, Nat.le_of_ble_eq_true rfl⟩) (gp_preV hKn hG (cp_obj hcg) rfl) rfl rfl hl.1 rfl (lv_room (by simp [gcat_rf, gcat_ref, gcat_int, gcat_long, gcat_null])) dX10_become_36 ⟨by show _ ≤ (14 : Nat); omega, by show _ ≤ (98 : Nat); omega⟩
          · exact va_runU (As := []) (rest := [.int v2, va_rf t23]) ⟨hx, hb, hml, hown, hts⟩ (c_X5_twin (l := l) (D := D) (b := b) (cI := cI) (cL := cL) hc36) (va_cwU 0 hts gX10_become_X5_twin_u25X7 rfl rfl rfl rfl (by decide +kernel) ⟨Nat.le_of_ble_eq_true rfl, Nat.le_of_ble_eq_true rfl⟩) (gp_preV hKn hG (cp_obj hcg) rfl) rfl rfl hl.1 rfl (lv_room (by simp [gcat_rf, gcat_ref, gcat_int, gcat_long, gcat_null])) dX10_become_36 ⟨by show _ ≤ (14 : Nat); omega, by show _ ≤ (98 : Nat); omega⟩
          · exact va_runU (As := []) (rest := [.int v2, va_rf t23]) ⟨hx, hb, hml, hown, hts⟩ (c_X5_twin (l := l) (D := D) (b := b) (cI := cI) (cL := cL) hc36) (va_cwU 0 hts gX10_become_X5_twin_u25X8 rfl rfl rfl rfl (by decide +kernel) ⟨Nat.le_of_ble_eq_true rfl, Nat.le_of_ble_eq_true rfl⟩) (gp_preV hKn hG (cp_obj hcg) rfl) rfl rfl hl.1 rfl (lv_room (by simp [gcat_rf, gcat_ref, gcat_int, gcat_long, gcat_null])) dX10_become_36 ⟨by show _ ≤ (14 : Nat); omega, by show _ ≤ (98 : Nat); omega⟩
        refine gp_callR hrun36 hS (fun H locs hG hS => ?_)
        have hj28 := Option.some.inj hj28
        subst hj28
        exact (hJ28 H locs ls hG hS (lv_sub hl [1, 2, 3] rfl))
      · intro e28
        rw [e28] at hl
        rw [e28] at hj28
        dsimp only at hj28
        refine lv_null hx hb dX10_become_31 ?_
        refine lv_goto (tgt := 39) hx hb dX10_become_32 (by decide) ?_
        have hj28 := Option.some.inj hj28
        subst hj28
        exact W.widen (by omega) (by omega) (hJ28 H locs ls hG hS (lv_sub hl [1, 2, 3] rfl))
set_option maxHeartbeats 4000000 in
set_option maxRecDepth 100000 in
theorem w_X10_become_48 {α : Type} {R : α} {K74 : (Nat → GV) → Option α} {v0 : Nat} {v1 : Nat} {cells slots : Nat} (X : gC p s m args meth c cX10_become 4 none wsX10_become RX10 D b (gTy cI cL)) (hcl : cells ≤ 14) (hsl : slots ≤ 98) : ∀ (n : Nat) (v2 : Int32) (gv : Nat → GV), L_X10_become_48 K74 v0 v1 n v2 gv = some R → (∀ (x : (Nat → GV)), K74 x = some R → ∀ (H : Heap) (locs : List Loc) (ls : Array Slot), GP D b M (gW cI cL x) H → va_S (gA b) s.heap H locs → lv_has ls 4 [(0, .ref v0), (1, .ref v1)] → W p l e rm_X10_become s m args below meth c H locs cells slots Q (F0 m 74 ls [])) → ∀ (H : Heap) (locs : List Loc) (ls : Array Slot), GP D b M (gW cI cL gv) H → va_S (gA b) s.heap H locs → lv_has ls 4 [(0, .ref v0), (1, .ref v1), (2, .int v2)] → W p l e rm_X10_become s m args below meth c H locs cells slots Q (F0 m 48 ls []) := by
  obtain ⟨hx, hb, hr, hml, hown, hts, hlocks, hKn, hBs⟩ := id X
  have hK := hKn.1
  have gclX10 : gcl [8] TX10 6 wsX10_become := gcl_1 rfl (fun _ h => List.mem_cons_of_mem _ (List.mem_append_left _ (List.mem_append_left _ (List.mem_append_left _ (List.mem_append_left _ (List.mem_append_left _ (List.mem_append_left _ (List.mem_append_left _ (List.mem_append_right _ h)))))))))
  intro n
  induction n with
  | zero =>
    intro v2 gv hf
    cases hf
  | succ n ih =>
    intro v2 gv hf hk74 H locs ls hG hS hl
    rw [L_X10_become_48.eq_2] at hf
    refine lv_iload_n hx hb dX10_become_48 rfl (lv_at hl 2 rfl) ?_
    refine lv_aload_n hx hb dX10_become_49 rfl (lv_at hl 0 rfl) ?_
    obtain ⟨t50, ht50, hf⟩ := gb_b hf
    refine cp_get (v := va_rf t50) hx hb hts gclX10 hown hK hG 1 (gfR_s ht50) (by decide) (hts _ (List.mem_of_getElem? (i := 2) rfl)) (fun _ h9 => h9) dX10_become_50 ?_
    obtain ⟨q53, hq53, hf⟩ := gb_b hf
    refine W.eq (g2 := F0 m 53 ls [.ref q53, .int v2]) (congrArg (fun z => F0 m 53 ls [va_rf z, .int v2]) hq53) ?_
    obtain ⟨t53, ht53, hf⟩ := gb_b hf
    refine cp_alenI hx hb hK hG ht53 dX10_become_53 ?_
    refine lv_icmp_ge (tgt := 74) hx hb dX10_become_54 (by decide) (fun c54 => ?_) (fun c54 => ?_)
    · have hf := gb_t c54 hf
      exact (hk74 _ hf _ _ _ hG hS (lv_sub hl [0, 1] rfl))
    · have hf := gb_f c54 hf
      refine lv_aload_n hx hb dX10_become_57 rfl (lv_at hl 0 rfl) ?_
      obtain ⟨t58, ht58, hf⟩ := gb_b hf
      refine cp_get (v := va_rf t58) hx hb hts gclX10 hown hK hG 1 (gfR_s ht58) (by decide) (hts _ (List.mem_of_getElem? (i := 2) rfl)) (fun _ h9 => h9) dX10_become_58 ?_
      refine lv_iload_n hx hb dX10_become_61 rfl (lv_at hl 2 rfl) ?_
      refine lv_aload_n hx hb dX10_become_62 rfl (lv_at hl 1 rfl) ?_
      refine lv_iload_n hx hb dX10_become_63 rfl (lv_at hl 2 rfl) ?_
      obtain ⟨o64, hc64, hf⟩ := gb_b hf
      obtain ⟨oc64, hcO64, hc64⟩ := gb_b hc64
      obtain ⟨hcg64, hci64⟩ := gfO_s hcO64
      have hci64 := List.mem_singleton.mp hci64
      obtain ⟨kc64, fc64⟩ := oc64
      dsimp only at hci64 hcg64
      subst hci64
      refine gp_callI (va_runV (As := [.int v2]) (rest := [.int v2, va_rf t58]) ⟨hx, hb, hml, hown, hts⟩ (c_X10_cellOf (l := l) (D := D) (b := b) (cI := cI) (cL := cL) hc64) (cwV 1 hts gX10_become_X10_cellOf rfl rfl rfl (by decide +kernel) ⟨Nat.le_of_ble_eq_true rfl, Nat.le_of_ble_eq_true rfl⟩) (gp_preV hKn hG (cp_obj hcg64) rfl) rfl rfl hl.1 rfl (lv_room (by simp [gcat_rf, gcat_ref, gcat_int, gcat_long, gcat_null])) dX10_become_64 ⟨by show _ ≤ (14 : Nat); omega, by show _ ≤ (98 : Nat); omega⟩) hS (fun H locs hG hS => ?_)
      obtain ⟨q67, hq67, hf⟩ := gb_b hf
      refine W.eq (g2 := F0 m 67 ls [.int o64, .int v2, .ref q67]) (congrArg (fun z => F0 m 67 ls [.int o64, .int v2, va_rf z]) hq67) ?_
      obtain ⟨g67, ht67, hf⟩ := gb_b hf
      refine cp_iast hx hb hK hG hS ht67 dX10_become_67 (fun H locs hG hS => ?_)
      refine lv_iinc (v := v2 + 1) (lv' := [(2, .int (v2 + 1)), (0, .ref v0), (1, .ref v1)]) hx hb dX10_become_68 hl (k := 2) rfl rfl (by decide) rfl (fun ls hl => ?_)
      refine lv_goto (tgt := 48) hx hb dX10_become_71 (by decide) ?_
      exact ih _ _ hf hk74 _ _ _ hG hS (lv_sub hl [1, 2, 0] rfl)
set_option maxHeartbeats 4000000 in
set_option maxRecDepth 100000 in
theorem c_X10_become {v1 : Option Nat} {R : (Nat → GV) × Nat} (hf : f_X10_become gv M h0 v1 = some R) : Met l yX10_become wsX10_become rm_X10_become (va_Pc [.ref h0, va_rf v1] (gPre D b M (gW cI cL gv) (gTy cI cL))) (gQ D b none R.2 (gW cI cL R.1)) 14 98 (gA b) := by
  refine gp_met (cc := cX10_become) (maxL := 4) (ret := none) (by decide) rfl (by simp [lg_sl, gcat_rf, gcat_ref, gcat_int, gcat_long]) ?_
  intro p e s m below meth c X ls hG hl
  obtain ⟨H, hH0⟩ : ∃ H : Heap, H = s.heap := ⟨_, rfl⟩
  rw [← hH0] at hG ⊢
  have hS : va_S (gA b) s.heap H [] := by rw [hH0]; exact va_S.rf
  obtain ⟨locs, hlo⟩ : ∃ z : List Loc, z = [] := ⟨_, rfl⟩
  rw [← hlo] at hS ⊢
  unfold f_X10_become at hf
  obtain ⟨hx, hb, hr, hml, hown, hts, hlocks, hKn, hBs⟩ := id X
  have hK := hKn.1
  have gclX10 : gcl [8] TX10 6 wsX10_become := gcl_1 rfl (fun _ h => List.mem_cons_of_mem _ (List.mem_append_left _ (List.mem_append_left _ (List.mem_append_left _ (List.mem_append_left _ (List.mem_append_left _ (List.mem_append_left _ (List.mem_append_left _ (List.mem_append_right _ h)))))))))
  have hl : lv_has ls 4 [(0, .ref h0), (1, va_rf v1)] := by simpa [lv_args, gcat_rf, gcat_ref, gcat_int, gcat_long] using hl
  refine gp_aload_n (x := v1) hx hb dX10_become_0 rfl (lv_at hl 1 rfl) ?_
  refine gp_ifnonnull (x := v1) (tgt := 5) hx hb dX10_become_1 (by decide) ?_ ?_
  · intro n1 e1
    rw [e1] at hl
    rw [e1] at hf
    dsimp only at hf
    refine lv_iconst (v := 0) hx hb dX10_become_5 (by decide) ?_
    refine lv_istore_n (lv' := [(2, .int 0), (0, .ref h0), (1, .ref n1)]) hx hb dX10_become_6 rfl hl (by decide) rfl (fun ls hl => ?_)
    refine w_X10_become_7 X _ _ _ _ _ _ (by show _ + 2 * gFb ≤ _; decide) (by show _ + 14 * gFb ≤ _; decide) hf (fun x7_46 hf H locs ls hG hS hl => ?_) _ _ _ hG hS (lv_sub hl [1, 2, 0] rfl)
    · refine lv_iconst (v := 0) hx hb dX10_become_46 (by decide) ?_
      refine lv_istore_n (lv' := [(2, .int 0), (0, .ref h0), (1, .ref n1)]) hx hb dX10_become_47 rfl hl (by decide) rfl (fun ls hl => ?_)
      refine w_X10_become_48 X (by omega) (by omega) _ _ _ hf (fun x48_74 hf H locs ls hG hS hl => ?_) _ _ _ hG hS (lv_sub hl [1, 2, 0] rfl)
      · refine lv_aload_n hx hb dX10_become_74 rfl (lv_at hl 0 rfl) ?_
        refine lv_aload_n hx hb dX10_become_75 rfl (lv_at hl 1 rfl) ?_
        obtain ⟨t76, ht76, hf⟩ := gb_b hf
        refine cp_get (v := .long t76) hx hb hts gclX10 hown hK hG 2 (gfJ_s ht76) (by decide) (hts _ (List.mem_of_getElem? (i := 3) rfl)) (fun _ h9 => h9) dX10_become_76 ?_
        obtain ⟨g79, ht79, hf⟩ := gb_b hf
        refine cp_put (tyk := .long) hx hb hts gclX10 tyX10 tyX10_ok nmX10 hown hK hG hS 2 ht79 (by decide) (hts _ (List.mem_of_getElem? (i := 3) rfl)) (fun _ h9 => h9) rfl (by decide +kernel) rfl rfl dX10_become_79 (fun H locs hG hS => ?_)
        refine lv_aload_n hx hb dX10_become_82 rfl (lv_at hl 0 rfl) ?_
        refine lv_aload_n hx hb dX10_become_83 rfl (lv_at hl 1 rfl) ?_
        obtain ⟨t84, ht84, hf⟩ := gb_b hf
        refine cp_get (v := .int t84) hx hb hts gclX10 hown hK hG 3 (gfI_s ht84) (by decide) (hts _ (List.mem_of_getElem? (i := 4) rfl)) (fun _ h9 => h9) dX10_become_84 ?_
        obtain ⟨g87, ht87, hf⟩ := gb_b hf
        refine cp_put (tyk := .int) hx hb hts gclX10 tyX10 tyX10_ok nmX10 hown hK hG hS 3 ht87 (by decide) (hts _ (List.mem_of_getElem? (i := 4) rfl)) (fun _ h9 => h9) rfl (by decide +kernel) rfl rfl dX10_become_87 (fun H locs hG hS => ?_)
        refine lv_aload_n hx hb dX10_become_90 rfl (lv_at hl 0 rfl) ?_
        refine lv_aload_n hx hb dX10_become_91 rfl (lv_at hl 1 rfl) ?_
        obtain ⟨t92, ht92, hf⟩ := gb_b hf
        refine cp_get (v := .int t92) hx hb hts gclX10 hown hK hG 4 (gfI_s ht92) (by decide) (hts _ (List.mem_of_getElem? (i := 5) rfl)) (fun _ h9 => h9) dX10_become_92 ?_
        obtain ⟨g95, ht95, hf⟩ := gb_b hf
        refine cp_put (tyk := .int) hx hb hts gclX10 tyX10 tyX10_ok nmX10 hown hK hG hS 4 ht95 (by decide) (hts _ (List.mem_of_getElem? (i := 5) rfl)) (fun _ h9 => h9) rfl (by decide +kernel) rfl rfl dX10_become_95 (fun H locs hG hS => ?_)
        refine lv_aload_n hx hb dX10_become_98 rfl (lv_at hl 0 rfl) ?_
        refine lv_aload_n hx hb dX10_become_99 rfl (lv_at hl 1 rfl) ?_
        obtain ⟨t100, ht100, hf⟩ := gb_b hf
        refine cp_get (v := .int t100) hx hb hts gclX10 hown hK hG 5 (gfI_s ht100) (by decide) (hts _ (List.mem_of_getElem? (i := 6) rfl)) (fun _ h9 => h9) dX10_become_100 ?_
        obtain ⟨g103, ht103, hf⟩ := gb_b hf
        refine cp_put (tyk := .int) hx hb hts gclX10 tyX10 tyX10_ok nmX10 hown hK hG hS 5 ht103 (by decide) (hts _ (List.mem_of_getElem? (i := 6) rfl)) (fun _ h9 => h9) rfl (by decide +kernel) rfl rfl dX10_become_103 (fun H locs hG hS => ?_)
        have hf := Option.some.inj hf
        subst hf
        exact gp_retV hx hb hr hlocks hG hS (Nat.le_of_ble_eq_true rfl) (Nat.le_of_ble_eq_true rfl) dX10_become_106
  · intro e1
    rw [e1] at hl
    rw [e1] at hf
    dsimp only at hf
    have hf := Option.some.inj hf
    subst hf
    exact gp_retV hx hb hr hlocks hG hS (Nat.le_of_ble_eq_true rfl) (Nat.le_of_ble_eq_true rfl) dX10_become_4
end
