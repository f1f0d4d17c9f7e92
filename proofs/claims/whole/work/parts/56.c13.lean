section
variable {p : Program} {l : Launch} {e : Env} {s : State} {m : MethodId} {args : Array Value} {below : List Frame} {meth : Method} {c : Code} {D : va_G} {b : GB} {M : Nat} {cI cL : ClassId} {h0 : Nat} {gv : Nat → GV} {gh : Nat → va_E} {Q : State → Prop}
-- X11_noPersonAt
abbrev rm_X11_noPersonAt : Room := { frames := 1, cells := 0, slots := 0, locals := 22 }
set_option maxHeartbeats 4000000 in
set_option maxRecDepth 100000 in
theorem c_X11_noPersonAt {v1 : Int32} {v2 : Int32} {R : Int32} (hf : f_X11_noPersonAt gv h0 v1 v2 = some R) : Met l yX11_noPersonAt wsX11_noPersonAt rm_X11_noPersonAt (va_Pc [.ref h0, .int v1, .int v2] (gPre D b M (gW cI cL gv) (gTy cI cL))) (gQ D b (some (.int R)) M (gW cI cL gv)) 0 0 (gA b) := by
  refine gp_met (cc := cX11_noPersonAt) (maxL := 3) (ret := (some .int)) (by decide) rfl (Nat.le_of_ble_eq_true rfl) ?_
  intro p e s m below meth c X ls hG hl
  obtain ⟨H, hH0⟩ : ∃ H : Heap, H = s.heap := ⟨_, rfl⟩
  rw [← hH0] at hG ⊢
  have hS : va_S (gA b) s.heap H [] := by rw [hH0]; exact va_S.rf
  obtain ⟨locs, hlo⟩ : ∃ z : List Loc, z = [] := ⟨_, rfl⟩
  rw [← hlo] at hS ⊢
  unfold f_X11_noPersonAt at hf
  obtain ⟨hx, hb, hr, hml, hown, hts, hlocks, hKn, hBs⟩ := id X
  have hK := hKn.1
  have gclX11 : gcl [9] TX11 8 wsX11_noPersonAt := gcl_1 rfl (fun _ h => List.mem_cons_of_mem _ (List.mem_append_left _ (List.mem_append_right _ h)))
  have hl : lv_has ls 3 [(0, .ref h0), (1, .int v1), (2, .int v2)] := hl
  refine lv_aload_n hx hb dX11_noPersonAt_0 rfl (lv_at hl 0 rfl) ?_
  obtain ⟨t1, ht1, hf⟩ := gb_b hf
  refine cp_get (v := va_rf t1) hx hb hts gclX11 hown hK hG 4 (gfR_s ht1) (by decide) (hts _ (List.mem_of_getElem? (i := 1) rfl)) (fun _ h9 => h9) dX11_noPersonAt_1 ?_
  refine lv_iload_n hx hb dX11_noPersonAt_4 rfl (lv_at hl 1 rfl) ?_
  obtain ⟨q5, hq5, hf⟩ := gb_b hf
  refine W.eq (g2 := F0 m 5 ls [.int v1, .ref q5]) (congrArg (fun z => F0 m 5 ls [.int v1, va_rf z]) hq5) ?_
  obtain ⟨o5, hc5, hf⟩ := gb_b hf
  obtain ⟨oc5, hcO5, hc5⟩ := gb_b hc5
  obtain ⟨hcg5, hci5⟩ := gfO_s hcO5
  have hci5 := List.mem_singleton.mp hci5
  obtain ⟨kc5, fc5⟩ := oc5
  dsimp only at hci5 hcg5
  subst hci5
  refine gp_callI (va_runV (As := [.int v1]) (rest := []) ⟨hx, hb, hml, hown, hts⟩ (c_X10_isPerson (l := l) (D := D) (b := b) (cI := cI) (cL := cL) hc5) (cwV 1 hts gX11_noPersonAt_X10_isPerson rfl rfl rfl (by decide +kernel) ⟨Nat.le_of_ble_eq_true rfl, Nat.le_of_ble_eq_true rfl⟩) (gp_preV hKn hG (cp_obj hcg5) rfl) rfl rfl hl.1 rfl (lv_room (Nat.le_of_ble_eq_true rfl)) dX11_noPersonAt_5 ⟨Nat.le_of_ble_eq_true rfl, Nat.le_of_ble_eq_true rfl⟩) hS (fun H locs hG hS => ?_)
  obtain ⟨j8, hj8, hf⟩ := gb_b hf
  have hJ8 : ∀ (H : Heap) (locs : List Loc) (ls : Array Slot), GP D b M (gW cI cL gv) H → va_S (gA b) s.heap H locs → lv_has ls 3 [] → W p l e rm_X11_noPersonAt s m [.ref h0, .int v1, .int v2].toArray below meth c H locs 0 0 (MQ below (gQ D b (some (.int R)) M (gW cI cL gv)) [.ref h0, .int v1, .int v2].toArray s 0 0 (gA b)) (F0 m 23 ls [.int j8]) := by
    intro H locs ls hG hS hl
    have hf := Option.some.inj hf
    subst hf
    exact gp_retI hx hb hr hlocks hG hS (Nat.le_of_ble_eq_true rfl) (Nat.le_of_ble_eq_true rfl) dX11_noPersonAt_23
  refine lv_if_eq (tgt := 22) hx hb dX11_noPersonAt_8 (by decide) (fun c8 => ?_) (fun c8 => ?_)
  · have hj8 := gb_t c8 hj8
    refine lv_iconst (v := (-1 : Int32)) hx hb dX11_noPersonAt_22 (by decide) ?_
    have hj8 := Option.some.inj hj8
    subst hj8
    exact (hJ8 H locs ls hG hS (lv_sub hl [] rfl))
  · have hj8 := gb_f c8 hj8
    refine lv_iload_n hx hb dX11_noPersonAt_11 rfl (lv_at hl 2 rfl) ?_
    refine lv_iconst (v := 0) hx hb dX11_noPersonAt_12 (by decide) ?_
    refine lv_sipush (v := 9999) hx hb dX11_noPersonAt_13 (by decide) ?_
    obtain ⟨o16, hc16, hj8⟩ := gb_b hj8
    refine gp_callI (va_runS (As := [.int v2, .int 0, .int 9999]) (rest := []) ⟨hx, hb, hml, hown, hts⟩ (c_X11_outside (l := l) (D := D) (b := b) (cI := cI) (cL := cL) hc16) (va_cwS 3 hts gX11_noPersonAt_X11_outside rfl rfl rfl (by decide +kernel) ⟨Nat.le_of_ble_eq_true rfl, Nat.le_of_ble_eq_true rfl⟩) (gp_preS hKn hG) rfl rfl hl.1 rfl (lv_room (Nat.le_of_ble_eq_true rfl)) dX11_noPersonAt_16 ⟨Nat.le_of_ble_eq_true rfl, Nat.le_of_ble_eq_true rfl⟩) hS (fun H locs hG hS => ?_)
    refine lv_goto (tgt := 23) hx hb dX11_noPersonAt_19 (by decide) ?_
    have hj8 := Option.some.inj hj8
    subst hj8
    exact (hJ8 H locs ls hG hS (lv_sub hl [] rfl))
-- X11_refuse
abbrev rm_X11_refuse : Room := { frames := 0, cells := 0, slots := 0, locals := 0 }
set_option maxHeartbeats 4000000 in
set_option maxRecDepth 100000 in
theorem c_X11_refuse {v1 : Int32} {R : Int32 × (Nat → GV)} (hf : f_X11_refuse gv h0 v1 = some R) : Met l yX11_refuse wsX11_refuse rm_X11_refuse (va_Pc [.ref h0, .int v1] (gPre D b M (gW cI cL gv) (gTy cI cL))) (gQ D b (some (.int R.1)) M (gW cI cL R.2)) 0 0 (gA b) := by
  refine gp_met (cc := cX11_refuse) (maxL := 2) (ret := (some .int)) (by decide) rfl (Nat.le_of_ble_eq_true rfl) ?_
  intro p e s m below meth c X ls hG hl
  obtain ⟨H, hH0⟩ : ∃ H : Heap, H = s.heap := ⟨_, rfl⟩
  rw [← hH0] at hG ⊢
  have hS : va_S (gA b) s.heap H [] := by rw [hH0]; exact va_S.rf
  obtain ⟨locs, hlo⟩ : ∃ z : List Loc, z = [] := ⟨_, rfl⟩
  rw [← hlo] at hS ⊢
  unfold f_X11_refuse at hf
  obtain ⟨hx, hb, hr, hml, hown, hts, hlocks, hKn, hBs⟩ := id X
  have hK := hKn.1
  have gclX11 : gcl [9] TX11 8 wsX11_refuse := gcl_1 rfl (fun _ h => List.mem_cons_of_mem _ (List.mem_append_right _ h))
  have hl : lv_has ls 2 [(0, .ref h0), (1, .int v1)] := hl
  refine lv_iload_n hx hb dX11_refuse_0 rfl (lv_at hl 1 rfl) ?_
  obtain ⟨j1, hj1, hf⟩ := gb_b hf
  have hJ1 : ∀ (H : Heap) (locs : List Loc) (ls : Array Slot), GP D b M (gW cI cL j1) H → va_S (gA b) s.heap H locs → lv_has ls 2 [(1, .int v1)] → W p l e rm_X11_refuse s m [.ref h0, .int v1].toArray below meth c H locs 0 0 (MQ below (gQ D b (some (.int R.1)) M (gW cI cL R.2)) [.ref h0, .int v1].toArray s 0 0 (gA b)) (F0 m 25 ls []) := by
    intro H locs ls hG hS hl
    refine lv_iload_n hx hb dX11_refuse_25 rfl (lv_at hl 0 rfl) ?_
    have hf := Option.some.inj hf
    subst hf
    exact gp_retI hx hb hr hlocks hG hS (Nat.le_of_ble_eq_true rfl) (Nat.le_of_ble_eq_true rfl) dX11_refuse_26
  refine lv_if_ge (tgt := 25) hx hb dX11_refuse_1 (by decide) (fun c1 => ?_) (fun c1 => ?_)
  · have hj1 := gb_t c1 hj1
    have hj1 := Option.some.inj hj1
    subst hj1
    exact (hJ1 H locs ls hG hS (lv_sub hl [1] rfl))
  · have hj1 := gb_f c1 hj1
    refine lv_iload_n hx hb dX11_refuse_4 rfl (lv_at hl 1 rfl) ?_
    refine lv_aload_n hx hb dX11_refuse_5 rfl (lv_at hl 0 rfl) ?_
    obtain ⟨t6, ht6, hj1⟩ := gb_b hj1
    refine cp_get (v := va_rf t6) hx hb hts gclX11 hown hK hG 2 (gfR_s ht6) (by decide) (hts _ (List.mem_of_getElem? (i := 1) rfl)) (fun _ h9 => h9) dX11_refuse_6 ?_
    obtain ⟨q9, hq9, hj1⟩ := gb_b hj1
    refine W.eq (g2 := F0 m 9 ls [.ref q9, .int v1]) (congrArg (fun z => F0 m 9 ls [va_rf z, .int v1]) hq9) ?_
    obtain ⟨t9, ht9, hj1⟩ := gb_b hj1
    refine cp_alenI hx hb hK hG ht9 dX11_refuse_9 ?_
    refine lv_ineg hx hb dX11_refuse_10 ?_
    refine lv_icmp_le (tgt := 25) hx hb dX11_refuse_11 (by decide) (fun c11 => ?_) (fun c11 => ?_)
    · have hj1 := gb_t c11 hj1
      have hj1 := Option.some.inj hj1
      subst hj1
      exact (hJ1 H locs ls hG hS (lv_sub hl [1] rfl))
    · have hj1 := gb_f c11 hj1
      refine lv_aload_n hx hb dX11_refuse_14 rfl (lv_at hl 0 rfl) ?_
      obtain ⟨t15, ht15, hj1⟩ := gb_b hj1
      refine cp_get (v := va_rf t15) hx hb hts gclX11 hown hK hG 2 (gfR_s ht15) (by decide) (hts _ (List.mem_of_getElem? (i := 1) rfl)) (fun _ h9 => h9) dX11_refuse_15 ?_
      refine lv_iload_n hx hb dX11_refuse_18 rfl (lv_at hl 1 rfl) ?_
      refine lv_ineg hx hb dX11_refuse_19 ?_
      refine lv_dup2_11 hx hb dX11_refuse_20 rfl (by cases t15 <;> rfl) ?_
      obtain ⟨q21, hq21, hj1⟩ := gb_b hj1
      refine W.eq (g2 := F0 m 21 ls [.int (-v1), .ref q21, .int (-v1), .ref q21]) (congrArg (fun z => F0 m 21 ls [.int (-v1), va_rf z, .int (-v1), va_rf z]) hq21) ?_
      obtain ⟨t21, ht21, hj1⟩ := gb_b hj1
      refine cp_iald hx hb hK hG ht21 dX11_refuse_21 ?_
      refine lv_iconst (v := 1) hx hb dX11_refuse_22 (by decide) ?_
      refine lv_iadd hx hb dX11_refuse_23 ?_
      obtain ⟨g24, ht24, hj1⟩ := gb_b hj1
      refine cp_iast hx hb hK hG hS ht24 dX11_refuse_24 (fun H locs hG hS => ?_)
      have hj1 := Option.some.inj hj1
      subst hj1
      exact (hJ1 H locs ls hG hS (lv_sub hl [1] rfl))
-- X11_by
abbrev rm_X11_by : Room := { frames := 3, cells := 0, slots := 0, locals := 66 }
set_option maxHeartbeats 4000000 in
set_option maxRecDepth 100000 in
theorem w_X11_by_23 {α : Type} {R : α} {K76 : Int32 → Option α} {v0 : Nat} {v1 : Int32} {v2 : Int32} (X : gC p s m args meth c cX11_by 7 (some .int) wsX11_by RX11 D b (gTy cI cL)) : ∀ (n : Nat) (v4 : Int32) (v5 : Int32), L_X11_by_23 K76 gv v0 v1 v2 n v4 v5 = some R → (∀ (x : Int32), K76 x = some R → ∀ (H : Heap) (locs : List Loc) (ls : Array Slot), GP D b M (gW cI cL gv) H → va_S (gA b) s.heap H locs → lv_has ls 7 [(4, .int x)] → W p l e rm_X11_by s m args below meth c H locs 0 0 Q (F0 m 76 ls [])) → ∀ (H : Heap) (locs : List Loc) (ls : Array Slot), GP D b M (gW cI cL gv) H → va_S (gA b) s.heap H locs → lv_has ls 7 [(0, .ref v0), (1, .int v1), (2, .int v2), (4, .int v4), (5, .int v5)] → W p l e rm_X11_by s m args below meth c H locs 0 0 Q (F0 m 23 ls []) := by
  obtain ⟨hx, hb, hr, hml, hown, hts, hlocks, hKn, hBs⟩ := id X
  have hK := hKn.1
  have gclX10 : gcl [8] TX10 6 wsX11_by := gcl_1 rfl (fun _ h => List.mem_cons_of_mem _ (List.mem_append_left _ (List.mem_append_left _ (List.mem_append_left _ (List.mem_append_left _ (List.mem_append_left _ (List.mem_append_left _ (List.mem_append_left _ (List.mem_append_right _ h)))))))))
  have gclX11 : gcl [9] TX11 8 wsX11_by := gcl_1 rfl (fun _ h => List.mem_cons_of_mem _ (List.mem_append_left _ (List.mem_append_left _ (List.mem_append_left _ (List.mem_append_left _ (List.mem_append_left _ (List.mem_append_left _ (List.mem_append_left _ (List.mem_append_left _ (List.mem_append_right _ h))))))))))
  intro n
  induction n with
  | zero =>
    intro v4 v5 hf
    cases hf
  | succ n ih =>
    intro v4 v5 hf hk76 H locs ls hG hS hl
    rw [L_X11_by_23.eq_2] at hf
    refine lv_iload hx hb dX11_by_23 (lv_at hl 4 rfl) ?_
    refine lv_aload_n hx hb dX11_by_25 rfl (lv_at hl 0 rfl) ?_
    obtain ⟨t26, ht26, hf⟩ := gb_b hf
    refine cp_get (v := va_rf t26) hx hb hts gclX11 hown hK hG 4 (gfR_s ht26) (by decide) (hts _ (List.mem_of_getElem? (i := 1) rfl)) (fun _ h9 => h9) dX11_by_26 ?_
    obtain ⟨q29, hq29, hf⟩ := gb_b hf
    refine W.eq (g2 := F0 m 29 ls [.ref q29, .int v5]) (congrArg (fun z => F0 m 29 ls [va_rf z, .int v5]) hq29) ?_
    obtain ⟨t29, ht29, hf⟩ := gb_b hf
    refine cp_get (v := .int t29) hx hb hts gclX10 hown hK hG 3 (gfI_s ht29) (by decide) (hts _ (List.mem_of_getElem? (i := 2) rfl)) (fun _ h9 => h9) dX11_by_29 ?_
    refine lv_icmp_ge (tgt := 76) hx hb dX11_by_32 (by decide) (fun c32 => ?_) (fun c32 => ?_)
    · have hf := gb_t c32 hf
      exact (hk76 _ hf _ _ _ hG hS (lv_sub hl [3] rfl))
    · have hf := gb_f c32 hf
      refine lv_aload_n hx hb dX11_by_35 rfl (lv_at hl 0 rfl) ?_
      obtain ⟨t36, ht36, hf⟩ := gb_b hf
      refine cp_get (v := va_rf t36) hx hb hts gclX11 hown hK hG 4 (gfR_s ht36) (by decide) (hts _ (List.mem_of_getElem? (i := 1) rfl)) (fun _ h9 => h9) dX11_by_36 ?_
      refine lv_iload hx hb dX11_by_39 (lv_at hl 4 rfl) ?_
      obtain ⟨q41, hq41, hf⟩ := gb_b hf
      refine W.eq (g2 := F0 m 41 ls [.int v5, .ref q41]) (congrArg (fun z => F0 m 41 ls [.int v5, va_rf z]) hq41) ?_
      obtain ⟨o41, hc41, hf⟩ := gb_b hf
      obtain ⟨oc41, hcO41, hc41⟩ := gb_b hc41
      obtain ⟨hcg41, hci41⟩ := gfO_s hcO41
      have hci41 := List.mem_singleton.mp hci41
      obtain ⟨kc41, fc41⟩ := oc41
      dsimp only at hci41 hcg41
      subst hci41
      refine gp_callR (va_runV (As := [.int v5]) (rest := []) ⟨hx, hb, hml, hown, hts⟩ (c_X10_lampAt (l := l) (D := D) (b := b) (cI := cI) (cL := cL) hc41) (cwV 1 hts gX11_by_X10_lampAt rfl rfl rfl (by decide +kernel) ⟨Nat.le_of_ble_eq_true rfl, Nat.le_of_ble_eq_true rfl⟩) (gp_preV hKn hG (cp_obj hcg41) rfl) rfl rfl hl.1 rfl (lv_room (Nat.le_of_ble_eq_true rfl)) dX11_by_41 ⟨Nat.le_of_ble_eq_true rfl, Nat.le_of_ble_eq_true rfl⟩) hS (fun H locs hG hS => ?_)
      refine gp_astore (lv' := [(6, va_rf o41), (0, .ref v0), (1, .int v1), (2, .int v2), (4, .int v4), (5, .int v5)]) hx hb dX11_by_44 hl (by decide) rfl (fun ls hl => ?_)
      refine gp_aload (x := o41) hx hb dX11_by_46 (lv_at hl 0 rfl) ?_
      obtain ⟨j48, hj48, hf⟩ := gb_b hf
      have hJ48 : ∀ (H : Heap) (locs : List Loc) (ls : Array Slot), GP D b M (gW cI cL gv) H → va_S (gA b) s.heap H locs → lv_has ls 7 [(0, .ref v0), (1, .int v1), (2, .int v2), (4, .int j48), (5, .int v5)] → W p l e rm_X11_by s m args below meth c H locs 0 0 Q (F0 m 70 ls []) := by
        intro H locs ls hG hS hl
        refine lv_iinc (v := v5 + 1) (lv' := [(5, .int (v5 + 1)), (0, .ref v0), (1, .int v1), (2, .int v2), (4, .int j48)]) hx hb dX11_by_70 hl (k := 4) rfl rfl (by decide) rfl (fun ls hl => ?_)
        refine lv_goto (tgt := 23) hx hb dX11_by_73 (by decide) ?_
        exact ih _ _ hf hk76 _ _ _ hG hS (lv_sub hl [1, 2, 3, 4, 0] rfl)
      refine gp_ifnull (x := o41) (tgt := 70) hx hb dX11_by_48 (by decide) ?_ ?_
      · intro e48
        rw [e48] at hl
        rw [e48] at hj48
        dsimp only at hj48
        have hj48 := Option.some.inj hj48
        subst hj48
        exact (hJ48 H locs ls hG hS (lv_sub hl [1, 2, 3, 4, 5] rfl))
      · intro n48 e48
        rw [e48] at hl
        rw [e48] at hj48
        dsimp only at hj48
        refine lv_aload hx hb dX11_by_51 (lv_at hl 0 rfl) ?_
        refine lv_iload_n hx hb dX11_by_53 rfl (lv_at hl 2 rfl) ?_
        refine lv_iload_n hx hb dX11_by_54 rfl (lv_at hl 3 rfl) ?_
        obtain ⟨o55, hc55, hj48⟩ := gb_b hj48
        have hrun55 : va_Run p l e rm_X11_by s m args below meth c H locs 0 0 0 0 (F0 m 55 ls ([.int v1, .int v2].reverse ++ .ref n48 :: [])) [] (gQ D b (some (.int o55)) M (gW cI cL gv) (Value.ref n48 :: [.int v1, .int v2]).toArray) (gA b) := by
          obtain ⟨oc, hcO, hc55⟩ := gb_b hc55
          obtain ⟨hcg, hci⟩ := gfO_s hcO
          obtain ⟨kc, fc⟩ := oc
          dsimp only at hci hcg hc55
          rcases gLC_7 hci with rfl | rfl | rfl | rfl | rfl | rfl | rfl
          · exact va_runU (As := [.int v1, .int v2]) (rest := []) ⟨hx, hb, hml, hown, hts⟩ (c_X5_sawAt (l := l) (D := D) (b := b) (cI := cI) (cL := cL) hc55) (va_cwU 2 hts gX11_by_X5_sawAt_u182X0 rfl rfl rfl rfl (by decide +kernel) ⟨Nat.le_of_ble_eq_true rfl, Nat.le_of_ble_eq_true rfl⟩) (gp_preV hKn hG (cp_obj hcg) rfl) rfl rfl hl.1 rfl (lv_room (Nat.le_of_ble_eq_true rfl)) dX11_by_55 ⟨Nat.le_of_ble_eq_true rfl, Nat.le_of_ble_eq_true rfl⟩
          · exact va_runU (As := [.int v1, .int v2]) (rest := []) ⟨hx, hb, hml, hown, hts⟩ (c_X5_sawAt (l := l) (D := D) (b := b) (cI := cI) (cL := cL) hc55) (va_cwU 2 hts gX11_by_X5_sawAt_u182X1 rfl rfl rfl rfl (by decide +kernel) ⟨Nat.le_of_ble_eq_true rfl, Nat.le_of_ble_eq_true rfl⟩) (gp_preV hKn hG (cp_obj hcg) rfl) rfl rfl hl.1 rfl (lv_room (Nat.le_of_ble_eq_true rfl)) dX11_by_55 ⟨Nat.le_of_ble_eq_true rfl, Nat.le_of_ble_eq_true rfl⟩
          · exact va_runU (As := [.int v1, .int v2]) (rest := []) ⟨hx, hb, hml, hown, hts⟩ (c_X5_sawAt (l := l) (D := D) (b := b) (cI := cI) (cL := cL) hc55) (va_cwU 2 hts gX11_by_X5_sawAt_u182X3 rfl rfl rfl rfl (by decide +kernel) ⟨Nat.le_of_ble_eq_true rfl, Nat.le_of_ble_eq_true rfl⟩) (gp_preV hKn hG (cp_obj hcg) rfl) rfl rfl hl.1 rfl (lv_room (Nat.le_of_ble_eq_true rfl)) dX11_by_55 ⟨Nat.le_of_ble_eq_true rfl, Nat.le_of_ble_eq_true rfl⟩
          · exact va_runU (As := [.int v1, .int v2]) (rest := []) ⟨hx, hb, hml, hown, hts⟩ (c_X5_sawAt (l := l) (D := D) (b := b) (cI := cI) (cL := cL) hc55) (va_cwU 2 hts gX11_by_X5_sawAt_u182X4 rfl rfl rfl rfl (by decide +kernel) ⟨Nat.le_of_ble_eq_true rfl, Nat.le_of_ble_eq_true rfl⟩) (gp_preV hKn hG (cp_obj hcg) rfl) rfl rfl hl.1 rfl (lv_room (Nat.le_of_ble_eq_true rfl)) dX11_by_55 ⟨Nat.le_of_ble_eq_true rfl, Nat.le_of_ble_eq_true rfl⟩
          · exact va_runV (As := [.int v1, .int v2]) (rest := []) ⟨hx, hb, hml, hown, hts⟩ (c_X5_sawAt (l := l) (D := D) (b := b) (cI := cI) (cL := cL) hc55) (cwV 2 hts gX11_by_X5_sawAt rfl rfl rfl (by decide +kernel) ⟨Nat.le_of_ble_eq_true rfl, Nat.le_of_ble_eq_true rfl⟩) (gp_preV hKn hG (cp_obj hcg) rfl) rfl rfl hl.1 rfl (lv_room (Nat.le_of_ble_eq_true rfl)) dX11_by_55 ⟨Nat.le_of_ble_eq_true rfl, Nat.le_of_ble_eq_true rfl⟩
          · exact va_runU (As := [.int v1, .int v2]) (rest := []) ⟨hx, hb, hml, hown, hts⟩ (c_X5_sawAt (l := l) (D := D) (b := b) (cI := cI) (cL := cL) hc55) (va_cwU 2 hts gX11_by_X5_sawAt_u182X7 rfl rfl rfl rfl (by decide +kernel) ⟨Nat.le_of_ble_eq_true rfl, Nat.le_of_ble_eq_true rfl⟩) (gp_preV hKn hG (cp_obj hcg) rfl) rfl rfl hl.1 rfl (lv_room (Nat.le_of_ble_eq_true rfl)) dX11_by_55 ⟨Nat.le_of_ble_eq_true rfl, Nat.le_of_ble_eq_true rfl⟩
          · exact va_runU (As := [.int v1, .int v2]) (rest := []) ⟨hx, hb, hml, hown, hts⟩ (c_X5_sawAt (l := l) (D := D) (b := b) (cI := cI) (cL := cL) hc55) (va_cwU 2 hts gX11_by_X5_sawAt_u182X8 rfl rfl rfl rfl (by decide +kernel) ⟨Nat.le_of_ble_eq_true rfl, Nat.le_of_ble_eq_true rfl⟩) (gp_preV hKn hG (cp_obj hcg) rfl) rfl rfl hl.1 rfl (lv_room (Nat.le_of_ble_eq_true rfl)) dX11_by_55 ⟨Nat.le_of_ble_eq_true rfl, Nat.le_of_ble_eq_true rfl⟩
        refine gp_callI hrun55 hS (fun H locs hG hS => ?_)
        refine lv_if_eq (tgt := 70) hx hb dX11_by_58 (by decide) (fun c58 => ?_) (fun c58 => ?_)
        · have hj48 := gb_t c58 hj48
          have hj48 := Option.some.inj hj48
          subst hj48
          exact (hJ48 H locs ls hG hS (lv_sub hl [1, 2, 3, 4, 5] rfl))
        · have hj48 := gb_f c58 hj48
          refine lv_iload hx hb dX11_by_61 (lv_at hl 4 rfl) ?_
          refine lv_iconst (v := 1) hx hb dX11_by_63 (by decide) ?_
          refine lv_iload hx hb dX11_by_64 (lv_at hl 5 rfl) ?_
          refine lv_ishl hx hb dX11_by_66 ?_
          refine lv_ior hx hb dX11_by_67 ?_
          refine lv_istore (lv' := [(4, .int (v4 ||| ((1 : Int32) <<< (v5 &&& 31)))), (6, .ref n48), (0, .ref v0), (1, .int v1), (2, .int v2), (5, .int v5)]) hx hb dX11_by_68 hl (by decide) rfl (fun ls hl => ?_)
          have hj48 := Option.some.inj hj48
          subst hj48
          exact (hJ48 H locs ls hG hS (lv_sub hl [2, 3, 4, 0, 5] rfl))
set_option maxHeartbeats 4000000 in
set_option maxRecDepth 100000 in
theorem c_X11_by {v1 : Int32} {v2 : Int32} {R : Int32 × (Nat → GV)} (hf : f_X11_by gv h0 v1 v2 = some R) : Met l yX11_by wsX11_by rm_X11_by (va_Pc [.ref h0, .int v1, .int v2] (gPre D b M (gW cI cL gv) (gTy cI cL))) (gQ D b (some (.int R.1)) M (gW cI cL R.2)) 0 0 (gA b) := by
  refine gp_met (cc := cX11_by) (maxL := 7) (ret := (some .int)) (by decide) rfl (Nat.le_of_ble_eq_true rfl) ?_
  intro p e s m below meth c X ls hG hl
  obtain ⟨H, hH0⟩ : ∃ H : Heap, H = s.heap := ⟨_, rfl⟩
  rw [← hH0] at hG ⊢
  have hS : va_S (gA b) s.heap H [] := by rw [hH0]; exact va_S.rf
  obtain ⟨locs, hlo⟩ : ∃ z : List Loc, z = [] := ⟨_, rfl⟩
  rw [← hlo] at hS ⊢
  unfold f_X11_by at hf
  obtain ⟨hx, hb, hr, hml, hown, hts, hlocks, hKn, hBs⟩ := id X
  have hK := hKn.1
  have gclX10 : gcl [8] TX10 6 wsX11_by := gcl_1 rfl (fun _ h => List.mem_cons_of_mem _ (List.mem_append_left _ (List.mem_append_left _ (List.mem_append_left _ (List.mem_append_left _ (List.mem_append_left _ (List.mem_append_left _ (List.mem_append_left _ (List.mem_append_right _ h)))))))))
  have gclX11 : gcl [9] TX11 8 wsX11_by := gcl_1 rfl (fun _ h => List.mem_cons_of_mem _ (List.mem_append_left _ (List.mem_append_left _ (List.mem_append_left _ (List.mem_append_left _ (List.mem_append_left _ (List.mem_append_left _ (List.mem_append_left _ (List.mem_append_left _ (List.mem_append_right _ h))))))))))
  have hl : lv_has ls 7 [(0, .ref h0), (1, .int v1), (2, .int v2)] := hl
  refine lv_aload_n hx hb dX11_by_0 rfl (lv_at hl 0 rfl) ?_
  refine lv_iload_n hx hb dX11_by_1 rfl (lv_at hl 1 rfl) ?_
  refine lv_iload_n hx hb dX11_by_2 rfl (lv_at hl 2 rfl) ?_
  obtain ⟨o3, hc3, hf⟩ := gb_b hf
  obtain ⟨oc3, hcO3, hc3⟩ := gb_b hc3
  obtain ⟨hcg3, hci3⟩ := gfO_s hcO3
  have hci3 := List.mem_singleton.mp hci3
  obtain ⟨kc3, fc3⟩ := oc3
  dsimp only at hci3 hcg3
  subst hci3
  refine gp_callI (va_runV (As := [.int v1, .int v2]) (rest := []) ⟨hx, hb, hml, hown, hts⟩ (c_X11_noPersonAt (l := l) (D := D) (b := b) (cI := cI) (cL := cL) hc3) (cwV 2 hts gX11_by_X11_noPersonAt rfl rfl rfl (by decide +kernel) ⟨Nat.le_of_ble_eq_true rfl, Nat.le_of_ble_eq_true rfl⟩) (gp_preV hKn hG (cp_obj hcg3) rfl) rfl rfl hl.1 rfl (lv_room (Nat.le_of_ble_eq_true rfl)) dX11_by_3 ⟨Nat.le_of_ble_eq_true rfl, Nat.le_of_ble_eq_true rfl⟩) hS (fun H locs hG hS => ?_)
  refine lv_istore_n (lv' := [(3, .int o3), (0, .ref h0), (1, .int v1), (2, .int v2)]) hx hb dX11_by_6 rfl hl (by decide) rfl (fun ls hl => ?_)
  refine lv_iload_n hx hb dX11_by_7 rfl (lv_at hl 0 rfl) ?_
  refine lv_if_ge (tgt := 17) hx hb dX11_by_8 (by decide) (fun c8 => ?_) (fun c8 => ?_)
  · have hf := gb_t c8 hf
    refine lv_iconst (v := 0) hx hb dX11_by_17 (by decide) ?_
    refine lv_istore (lv' := [(4, .int 0), (3, .int o3), (0, .ref h0), (1, .int v1), (2, .int v2)]) hx hb dX11_by_18 hl (by decide) rfl (fun ls hl => ?_)
    refine lv_iconst (v := 0) hx hb dX11_by_20 (by decide) ?_
    refine lv_istore (lv' := [(5, .int 0), (4, .int 0), (3, .int o3), (0, .ref h0), (1, .int v1), (2, .int v2)]) hx hb dX11_by_21 hl (by decide) rfl (fun ls hl => ?_)
    refine w_X11_by_23 X _ _ _ hf (fun x23_76 hf H locs ls hG hS hl => ?_) _ _ _ hG hS (lv_sub hl [3, 4, 5, 1, 0] rfl)
    · refine lv_iload hx hb dX11_by_76 (lv_at hl 0 rfl) ?_
      have hf := Option.some.inj hf
      subst hf
      exact gp_retI hx hb hr hlocks hG hS (Nat.le_of_ble_eq_true rfl) (Nat.le_of_ble_eq_true rfl) dX11_by_78
  · have hf := gb_f c8 hf
    refine lv_aload_n hx hb dX11_by_11 rfl (lv_at hl 1 rfl) ?_
    refine lv_iload_n hx hb dX11_by_12 rfl (lv_at hl 0 rfl) ?_
    obtain ⟨o13, hc13, hf⟩ := gb_b hf
    obtain ⟨oc13, hcO13, hc13⟩ := gb_b hc13
    obtain ⟨hcg13, hci13⟩ := gfO_s hcO13
    have hci13 := List.mem_singleton.mp hci13
    obtain ⟨kc13, fc13⟩ := oc13
    dsimp only at hci13 hcg13
    subst hci13
    refine gp_callI (va_runV (As := [.int o3]) (rest := []) ⟨hx, hb, hml, hown, hts⟩ (c_X11_refuse (l := l) (D := D) (b := b) (cI := cI) (cL := cL) hc13) (cwV 1 hts gX11_by_X11_refuse rfl rfl rfl (by decide +kernel) ⟨Nat.le_of_ble_eq_true rfl, Nat.le_of_ble_eq_true rfl⟩) (gp_preV hKn hG (cp_obj hcg13) rfl) rfl rfl hl.1 rfl (lv_room (Nat.le_of_ble_eq_true rfl)) dX11_by_13 ⟨Nat.le_of_ble_eq_true rfl, Nat.le_of_ble_eq_true rfl⟩) hS (fun H locs hG hS => ?_)
    have hf := Option.some.inj hf
    subst hf
    exact gp_retI hx hb hr hlocks hG hS (Nat.le_of_ble_eq_true rfl) (Nat.le_of_ble_eq_true rfl) dX11_by_16
-- X11_inRowAt
abbrev rm_X11_inRowAt : Room := { frames := 0, cells := 0, slots := 0, locals := 0 }
set_option maxHeartbeats 4000000 in
set_option maxRecDepth 100000 in
theorem c_X11_inRowAt {v1 : Int32} {R : Int32} (hf : f_X11_inRowAt gv h0 v1 = some R) : Met l yX11_inRowAt wsX11_inRowAt rm_X11_inRowAt (va_Pc [.ref h0, .int v1] (gPre D b M (gW cI cL gv) (gTy cI cL))) (gQ D b (some (.int R)) M (gW cI cL gv)) 0 0 (gA b) := by
  refine gp_met (cc := cX11_inRowAt) (maxL := 2) (ret := (some .int)) (by decide) rfl (Nat.le_of_ble_eq_true rfl) ?_
  intro p e s m below meth c X ls hG hl
  obtain ⟨H, hH0⟩ : ∃ H : Heap, H = s.heap := ⟨_, rfl⟩
  rw [← hH0] at hG ⊢
  have hS : va_S (gA b) s.heap H [] := by rw [hH0]; exact va_S.rf
  obtain ⟨locs, hlo⟩ : ∃ z : List Loc, z = [] := ⟨_, rfl⟩
  rw [← hlo] at hS ⊢
  unfold f_X11_inRowAt at hf
  obtain ⟨hx, hb, hr, hml, hown, hts, hlocks, hKn, hBs⟩ := id X
  have hK := hKn.1
  have gclX11 : gcl [9] TX11 8 wsX11_inRowAt := gcl_1 rfl (fun _ h => List.mem_cons_of_mem _ (List.mem_append_right _ h))
  have hl : lv_has ls 2 [(0, .ref h0), (1, .int v1)] := hl
  refine lv_iload_n hx hb dX11_inRowAt_0 rfl (lv_at hl 1 rfl) ?_
  obtain ⟨j1, hj1, hf⟩ := gb_b hf
  have hJ1 : ∀ (H : Heap) (locs : List Loc) (ls : Array Slot), GP D b M (gW cI cL gv) H → va_S (gA b) s.heap H locs → lv_has ls 2 [] → W p l e rm_X11_inRowAt s m [.ref h0, .int v1].toArray below meth c H locs 0 0 (MQ below (gQ D b (some (.int R)) M (gW cI cL gv)) [.ref h0, .int v1].toArray s 0 0 (gA b)) (F0 m 24 ls [.int j1]) := by
    intro H locs ls hG hS hl
    have hf := Option.some.inj hf
    subst hf
    exact gp_retI hx hb hr hlocks hG hS (Nat.le_of_ble_eq_true rfl) (Nat.le_of_ble_eq_true rfl) dX11_inRowAt_24
  refine lv_if_lt (tgt := 22) hx hb dX11_inRowAt_1 (by decide) (fun c1 => ?_) (fun c1 => ?_)
  · have hj1 := gb_t c1 hj1
    refine lv_bipush (v := (-9 : Int32)) hx hb dX11_inRowAt_22 (by decide) ?_
    have hj1 := Option.some.inj hj1
    subst hj1
    exact (hJ1 H locs ls hG hS (lv_sub hl [] rfl))
  · have hj1 := gb_f c1 hj1
    refine lv_iload_n hx hb dX11_inRowAt_4 rfl (lv_at hl 1 rfl) ?_
    refine lv_aload_n hx hb dX11_inRowAt_5 rfl (lv_at hl 0 rfl) ?_
    obtain ⟨t6, ht6, hj1⟩ := gb_b hj1
    refine cp_get (v := va_rf t6) hx hb hts gclX11 hown hK hG 1 (gfR_s ht6) (by decide) (hts _ (List.mem_of_getElem? (i := 1) rfl)) (fun _ h9 => h9) dX11_inRowAt_6 ?_
    obtain ⟨q9, hq9, hj1⟩ := gb_b hj1
    refine W.eq (g2 := F0 m 9 ls [.ref q9, .int v1]) (congrArg (fun z => F0 m 9 ls [va_rf z, .int v1]) hq9) ?_
    obtain ⟨t9, ht9, hj1⟩ := gb_b hj1
    refine cp_alenI hx hb hK hG ht9 dX11_inRowAt_9 ?_
    refine lv_icmp_ge (tgt := 22) hx hb dX11_inRowAt_10 (by decide) (fun c10 => ?_) (fun c10 => ?_)
    · have hj1 := gb_t c10 hj1
      refine lv_bipush (v := (-9 : Int32)) hx hb dX11_inRowAt_22 (by decide) ?_
      have hj1 := Option.some.inj hj1
      subst hj1
      exact (hJ1 H locs ls hG hS (lv_sub hl [] rfl))
    · have hj1 := gb_f c10 hj1
      refine lv_aload_n hx hb dX11_inRowAt_13 rfl (lv_at hl 0 rfl) ?_
      obtain ⟨t14, ht14, hj1⟩ := gb_b hj1
      refine cp_get (v := va_rf t14) hx hb hts gclX11 hown hK hG 1 (gfR_s ht14) (by decide) (hts _ (List.mem_of_getElem? (i := 1) rfl)) (fun _ h9 => h9) dX11_inRowAt_14 ?_
      refine lv_iload_n hx hb dX11_inRowAt_17 rfl (lv_at hl 1 rfl) ?_
      obtain ⟨q18, hq18, hj1⟩ := gb_b hj1
      refine W.eq (g2 := F0 m 18 ls [.int v1, .ref q18]) (congrArg (fun z => F0 m 18 ls [.int v1, va_rf z]) hq18) ?_
      obtain ⟨t18, ht18, hj1⟩ := gb_b hj1
      refine cp_iald hx hb hK hG ht18 dX11_inRowAt_18 ?_
      refine lv_goto (tgt := 24) hx hb dX11_inRowAt_19 (by decide) ?_
      have hj1 := Option.some.inj hj1
      subst hj1
      exact (hJ1 H locs ls hG hS (lv_sub hl [] rfl))
-- X11_caught
abbrev rm_X11_caught : Room := { frames := 5, cells := 0, slots := 0, locals := 120 }
set_option maxHeartbeats 4000000 in
set_option maxRecDepth 100000 in
theorem w_X11_caught_33 {α : Type} {R : α} {K70 : Int32 → Option α} {v0 : Nat} {v2 : Int64} (X : gC p s m args meth c cX11_caught 6 (some .int) wsX11_caught RX11 D b (gTy cI cL)) : ∀ (n : Nat) (v4 : Int32) (v5 : Int32), L_X11_caught_33 K70 gv v0 v2 n v4 v5 = some R → (∀ (x : Int32), K70 x = some R → ∀ (H : Heap) (locs : List Loc) (ls : Array Slot), GP D b M (gW cI cL gv) H → va_S (gA b) s.heap H locs → lv_has ls 6 [(0, .ref v0), (4, .int x)] → W p l e rm_X11_caught s m args below meth c H locs 0 0 Q (F0 m 70 ls [])) → ∀ (H : Heap) (locs : List Loc) (ls : Array Slot), GP D b M (gW cI cL gv) H → va_S (gA b) s.heap H locs → lv_has ls 6 [(0, .ref v0), (2, .long v2), (4, .int v4), (5, .int v5)] → W p l e rm_X11_caught s m args below meth c H locs 0 0 Q (F0 m 33 ls []) := by
  obtain ⟨hx, hb, hr, hml, hown, hts, hlocks, hKn, hBs⟩ := id X
  have hK := hKn.1
  have gclX11 : gcl [9] TX11 8 wsX11_caught := gcl_1 rfl (fun _ h => List.mem_cons_of_mem _ (List.mem_append_left _ (List.mem_append_left _ (List.mem_append_left _ (List.mem_append_left _ (List.mem_append_left _ (List.mem_append_left _ (List.mem_append_left _ (List.mem_append_left _ (List.mem_append_right _ h))))))))))
  intro n
  induction n with
  | zero =>
    intro v4 v5 hf
    cases hf
  | succ n ih =>
    intro v4 v5 hf hk70 H locs ls hG hS hl
    rw [L_X11_caught_33.eq_2] at hf
    refine lv_iload hx hb dX11_caught_33 (lv_at hl 3 rfl) ?_
    refine lv_aload_n hx hb dX11_caught_35 rfl (lv_at hl 0 rfl) ?_
    obtain ⟨t36, ht36, hf⟩ := gb_b hf
    refine cp_get (v := .int t36) hx hb hts gclX11 hown hK hG 6 (gfI_s ht36) (by decide) (hts _ (List.mem_of_getElem? (i := 2) rfl)) (fun _ h9 => h9) dX11_caught_36 ?_
    refine lv_icmp_ge (tgt := 70) hx hb dX11_caught_39 (by decide) (fun c39 => ?_) (fun c39 => ?_)
    · have hf := gb_t c39 hf
      exact (hk70 _ hf _ _ _ hG hS (lv_sub hl [0, 2] rfl))
    · have hf := gb_f c39 hf
      refine lv_iload hx hb dX11_caught_42 (lv_at hl 2 rfl) ?_
      refine lv_if_ge (tgt := 70) hx hb dX11_caught_44 (by decide) (fun c44 => ?_) (fun c44 => ?_)
      · have hf := gb_t c44 hf
        exact (hk70 _ hf _ _ _ hG hS (lv_sub hl [0, 2] rfl))
      · have hf := gb_f c44 hf
        refine lv_lload_n hx hb dX11_caught_47 rfl (lv_at hl 1 rfl) ?_
        refine lv_aload_n hx hb dX11_caught_48 rfl (lv_at hl 0 rfl) ?_
        refine lv_iload hx hb dX11_caught_49 (lv_at hl 3 rfl) ?_
        obtain ⟨o51, hc51, hf⟩ := gb_b hf
        obtain ⟨oc51, hcO51, hc51⟩ := gb_b hc51
        obtain ⟨hcg51, hci51⟩ := gfO_s hcO51
        have hci51 := List.mem_singleton.mp hci51
        obtain ⟨kc51, fc51⟩ := oc51
        dsimp only at hci51 hcg51
        subst hci51
        refine gp_callI (va_runV (As := [.int v5]) (rest := [.long v2]) ⟨hx, hb, hml, hown, hts⟩ (c_X11_inRowAt (l := l) (D := D) (b := b) (cI := cI) (cL := cL) hc51) (cwV 1 hts gX11_caught_X11_inRowAt rfl rfl rfl (by decide +kernel) ⟨Nat.le_of_ble_eq_true rfl, Nat.le_of_ble_eq_true rfl⟩) (gp_preV hKn hG (cp_obj hcg51) rfl) rfl rfl hl.1 rfl (lv_room (Nat.le_of_ble_eq_true rfl)) dX11_caught_51 ⟨Nat.le_of_ble_eq_true rfl, Nat.le_of_ble_eq_true rfl⟩) hS (fun H locs hG hS => ?_)
        obtain ⟨o54, hc54, hf⟩ := gb_b hf
        refine gp_callI (va_runS (As := [.long v2, .int o51]) (rest := []) ⟨hx, hb, hml, hown, hts⟩ (c_X2_has (l := l) (D := D) (b := b) (cI := cI) (cL := cL) hc54) (va_cwS 2 hts gX11_caught_X2_has rfl rfl rfl (by decide +kernel) ⟨Nat.le_of_ble_eq_true rfl, Nat.le_of_ble_eq_true rfl⟩) (gp_preS hKn hG) rfl rfl hl.1 rfl (lv_room (Nat.le_of_ble_eq_true rfl)) dX11_caught_54 ⟨Nat.le_of_ble_eq_true rfl, Nat.le_of_ble_eq_true rfl⟩) hS (fun H locs hG hS => ?_)
        obtain ⟨j57, hj57, hf⟩ := gb_b hf
        have hJ57 : ∀ (H : Heap) (locs : List Loc) (ls : Array Slot), GP D b M (gW cI cL gv) H → va_S (gA b) s.heap H locs → lv_has ls 6 [(0, .ref v0), (2, .long v2), (4, .int j57), (5, .int v5)] → W p l e rm_X11_caught s m args below meth c H locs 0 0 Q (F0 m 64 ls []) := by
          intro H locs ls hG hS hl
          refine lv_iinc (v := v5 + 1) (lv' := [(5, .int (v5 + 1)), (0, .ref v0), (2, .long v2), (4, .int j57)]) hx hb dX11_caught_64 hl (k := 3) rfl rfl (by decide) rfl (fun ls hl => ?_)
          refine lv_goto (tgt := 33) hx hb dX11_caught_67 (by decide) ?_
          exact ih _ _ hf hk70 _ _ _ hG hS (lv_sub hl [1, 2, 3, 0] rfl)
        refine lv_if_eq (tgt := 64) hx hb dX11_caught_57 (by decide) (fun c57 => ?_) (fun c57 => ?_)
        · have hj57 := gb_t c57 hj57
          have hj57 := Option.some.inj hj57
          subst hj57
          exact (hJ57 H locs ls hG hS (lv_sub hl [0, 1, 2, 3] rfl))
        · have hj57 := gb_f c57 hj57
          refine lv_iload hx hb dX11_caught_60 (lv_at hl 3 rfl) ?_
          refine lv_istore (lv' := [(4, .int v5), (0, .ref v0), (2, .long v2), (5, .int v5)]) hx hb dX11_caught_62 hl (by decide) rfl (fun ls hl => ?_)
          have hj57 := Option.some.inj hj57
          subst hj57
          exact (hJ57 H locs ls hG hS (lv_sub hl [1, 2, 0, 3] rfl))
set_option maxHeartbeats 4000000 in
set_option maxRecDepth 100000 in
theorem c_X11_caught {v1 : Int32} {R : Int32 × (Nat → GV)} (hf : f_X11_caught gv h0 v1 = some R) : Met l yX11_caught wsX11_caught rm_X11_caught (va_Pc [.ref h0, .int v1] (gPre D b M (gW cI cL gv) (gTy cI cL))) (gQ D b (some (.int R.1)) M (gW cI cL R.2)) 0 0 (gA b) := by
  refine gp_met (cc := cX11_caught) (maxL := 6) (ret := (some .int)) (by decide) rfl (Nat.le_of_ble_eq_true rfl) ?_
  intro p e s m below meth c X ls hG hl
  obtain ⟨H, hH0⟩ : ∃ H : Heap, H = s.heap := ⟨_, rfl⟩
  rw [← hH0] at hG ⊢
  have hS : va_S (gA b) s.heap H [] := by rw [hH0]; exact va_S.rf
  obtain ⟨locs, hlo⟩ : ∃ z : List Loc, z = [] := ⟨_, rfl⟩
  rw [← hlo] at hS ⊢
  unfold f_X11_caught at hf
  obtain ⟨hx, hb, hr, hml, hown, hts, hlocks, hKn, hBs⟩ := id X
  have hK := hKn.1
  have gclX11 : gcl [9] TX11 8 wsX11_caught := gcl_1 rfl (fun _ h => List.mem_cons_of_mem _ (List.mem_append_left _ (List.mem_append_left _ (List.mem_append_left _ (List.mem_append_left _ (List.mem_append_left _ (List.mem_append_left _ (List.mem_append_left _ (List.mem_append_left _ (List.mem_append_right _ h))))))))))
  have hl : lv_has ls 6 [(0, .ref h0), (1, .int v1)] := hl
  refine lv_aload_n hx hb dX11_caught_0 rfl (lv_at hl 0 rfl) ?_
  obtain ⟨t1, ht1, hf⟩ := gb_b hf
  refine cp_get (v := va_rf t1) hx hb hts gclX11 hown hK hG 4 (gfR_s ht1) (by decide) (hts _ (List.mem_of_getElem? (i := 1) rfl)) (fun _ h9 => h9) dX11_caught_1 ?_
  refine lv_iload_n hx hb dX11_caught_4 rfl (lv_at hl 1 rfl) ?_
  obtain ⟨q5, hq5, hf⟩ := gb_b hf
  refine W.eq (g2 := F0 m 5 ls [.int v1, .ref q5]) (congrArg (fun z => F0 m 5 ls [.int v1, va_rf z]) hq5) ?_
  obtain ⟨o5, hc5, hf⟩ := gb_b hf
  obtain ⟨oc5, hcO5, hc5⟩ := gb_b hc5
  obtain ⟨hcg5, hci5⟩ := gfO_s hcO5
  have hci5 := List.mem_singleton.mp hci5
  obtain ⟨kc5, fc5⟩ := oc5
  dsimp only at hci5 hcg5
  subst hci5
  refine gp_callI (va_runV (As := [.int v1]) (rest := []) ⟨hx, hb, hml, hown, hts⟩ (c_X10_isPerson (l := l) (D := D) (b := b) (cI := cI) (cL := cL) hc5) (cwV 1 hts gX11_caught_X10_isPerson rfl rfl rfl (by decide +kernel) ⟨Nat.le_of_ble_eq_true rfl, Nat.le_of_ble_eq_true rfl⟩) (gp_preV hKn hG (cp_obj hcg5) rfl) rfl rfl hl.1 rfl (lv_room (Nat.le_of_ble_eq_true rfl)) dX11_caught_5 ⟨Nat.le_of_ble_eq_true rfl, Nat.le_of_ble_eq_true rfl⟩) hS (fun H locs hG hS => ?_)
  refine lv_if_ne (tgt := 17) hx hb dX11_caught_8 (by decide) (fun c8 => ?_) (fun c8 => ?_)
  · have hf := gb_f c8 hf
    refine lv_aload_n hx hb dX11_caught_17 rfl (lv_at hl 0 rfl) ?_
    obtain ⟨t18, ht18, hf⟩ := gb_b hf
    refine cp_get (v := va_rf t18) hx hb hts gclX11 hown hK hG 4 (gfR_s ht18) (by decide) (hts _ (List.mem_of_getElem? (i := 1) rfl)) (fun _ h9 => h9) dX11_caught_18 ?_
    refine lv_iconst (v := 0) hx hb dX11_caught_21 (by decide) ?_
    obtain ⟨q22, hq22, hf⟩ := gb_b hf
    refine W.eq (g2 := F0 m 22 ls [.int 0, .ref q22]) (congrArg (fun z => F0 m 22 ls [.int 0, va_rf z]) hq22) ?_
    obtain ⟨o22, hc22, hf⟩ := gb_b hf
    obtain ⟨oc22, hcO22, hc22⟩ := gb_b hc22
    obtain ⟨hcg22, hci22⟩ := gfO_s hcO22
    have hci22 := List.mem_singleton.mp hci22
    obtain ⟨kc22, fc22⟩ := oc22
    dsimp only at hci22 hcg22
    subst hci22
    refine gp_callL (va_runV (As := [.int 0]) (rest := []) ⟨hx, hb, hml, hown, hts⟩ (c_X10_litBut (l := l) (D := D) (b := b) (cI := cI) (cL := cL) hc22) (cwV 1 hts gX11_caught_X10_litBut rfl rfl rfl (by decide +kernel) ⟨Nat.le_of_ble_eq_true rfl, Nat.le_of_ble_eq_true rfl⟩) (gp_preV hKn hG (cp_obj hcg22) rfl) rfl rfl hl.1 rfl (lv_room (Nat.le_of_ble_eq_true rfl)) dX11_caught_22 ⟨Nat.le_of_ble_eq_true rfl, Nat.le_of_ble_eq_true rfl⟩) hS (fun H locs hG hS => ?_)
    refine lv_lstore_n (lv' := [(2, .long o22), (0, .ref h0), (1, .int v1)]) hx hb dX11_caught_25 rfl hl (by decide) rfl (fun ls hl => ?_)
    refine lv_bipush (v := (-9 : Int32)) hx hb dX11_caught_26 (by decide) ?_
    refine lv_istore (lv' := [(4, .int (-9 : Int32)), (2, .long o22), (0, .ref h0), (1, .int v1)]) hx hb dX11_caught_28 hl (by decide) rfl (fun ls hl => ?_)
    refine lv_iconst (v := 0) hx hb dX11_caught_30 (by decide) ?_
    refine lv_istore (lv' := [(5, .int 0), (4, .int (-9 : Int32)), (2, .long o22), (0, .ref h0), (1, .int v1)]) hx hb dX11_caught_31 hl (by decide) rfl (fun ls hl => ?_)
    refine w_X11_caught_33 X _ _ _ hf (fun x33_70 hf H locs ls hG hS hl => ?_) _ _ _ hG hS (lv_sub hl [3, 2, 1, 0] rfl)
    · refine lv_aload_n hx hb dX11_caught_70 rfl (lv_at hl 0 rfl) ?_
      refine lv_iconst (v := 0) hx hb dX11_caught_71 (by decide) ?_
      obtain ⟨g72, ht72, hf⟩ := gb_b hf
      refine cp_put (tyk := .int) hx hb hts gclX11 tyX11 tyX11_ok nmX11 hown hK hG hS 6 ht72 (by decide) (hts _ (List.mem_of_getElem? (i := 2) rfl)) (fun _ h9 => h9) rfl (by decide +kernel) rfl rfl dX11_caught_72 (fun H locs hG hS => ?_)
      refine lv_iload hx hb dX11_caught_75 (lv_at hl 1 rfl) ?_
      have hf := Option.some.inj hf
      subst hf
      exact gp_retI hx hb hr hlocks hG hS (Nat.le_of_ble_eq_true rfl) (Nat.le_of_ble_eq_true rfl) dX11_caught_77
  · have hf := gb_t c8 hf
    refine lv_aload_n hx hb dX11_caught_11 rfl (lv_at hl 0 rfl) ?_
    refine lv_iconst (v := (-1 : Int32)) hx hb dX11_caught_12 (by decide) ?_
    obtain ⟨o13, hc13, hf⟩ := gb_b hf
    obtain ⟨oc13, hcO13, hc13⟩ := gb_b hc13
    obtain ⟨hcg13, hci13⟩ := gfO_s hcO13
    have hci13 := List.mem_singleton.mp hci13
    obtain ⟨kc13, fc13⟩ := oc13
    dsimp only at hci13 hcg13
    subst hci13
    refine gp_callI (va_runV (As := [.int (-1 : Int32)]) (rest := []) ⟨hx, hb, hml, hown, hts⟩ (c_X11_refuse (l := l) (D := D) (b := b) (cI := cI) (cL := cL) hc13) (cwV 1 hts gX11_caught_X11_refuse rfl rfl rfl (by decide +kernel) ⟨Nat.le_of_ble_eq_true rfl, Nat.le_of_ble_eq_true rfl⟩) (gp_preV hKn hG (cp_obj hcg13) rfl) rfl rfl hl.1 rfl (lv_room (Nat.le_of_ble_eq_true rfl)) dX11_caught_13 ⟨Nat.le_of_ble_eq_true rfl, Nat.le_of_ble_eq_true rfl⟩) hS (fun H locs hG hS => ?_)
    have hf := Option.some.inj hf
    subst hf
    exact gp_retI hx hb hr hlocks hG hS (Nat.le_of_ble_eq_true rfl) (Nat.le_of_ble_eq_true rfl) dX11_caught_16
-- X11_changeCells
abbrev rm_X11_changeCells : Room := { frames := 0, cells := 0, slots := 0, locals := 0 }
set_option maxHeartbeats 4000000 in
set_option maxRecDepth 100000 in
theorem c_X11_changeCells {v0 : Option Nat} {v1 : Option Nat} {R : (Nat → GV)} (hf : f_X11_changeCells gv v0 v1 = some R) : Met l yX11_changeCells wsX11_changeCells rm_X11_changeCells (va_Pc [va_rf v0, va_rf v1] (gPre D b M (gW cI cL gv) (gTy cI cL))) (gQ D b none M (gW cI cL R)) 0 0 (gA b) := by
  refine gp_met (cc := cX11_changeCells) (maxL := 3) (ret := none) (by decide) rfl (by simp [lg_sl, gcat_rf, gcat_ref, gcat_int, gcat_long]) ?_
  intro p e s m below meth c X ls hG hl
  obtain ⟨H, hH0⟩ : ∃ H : Heap, H = s.heap := ⟨_, rfl⟩
  rw [← hH0] at hG ⊢
  have hS : va_S (gA b) s.heap H [] := by rw [hH0]; exact va_S.rf
  obtain ⟨locs, hlo⟩ : ∃ z : List Loc, z = [] := ⟨_, rfl⟩
  rw [← hlo] at hS ⊢
  unfold f_X11_changeCells at hf
  obtain ⟨hx, hb, hr, hml, hown, hts, hlocks, hKn, hBs⟩ := id X
  have hK := hKn.1
  have gclL : gcl gLC TX5 5 wsX11_changeCells := gcl_L (fun _ h => List.mem_cons_of_mem _ (List.mem_append_left _ (List.mem_append_left _ (List.mem_append_left _ (List.mem_append_left _ (List.mem_append_left _ (List.mem_append_left _ (List.mem_append_right _ h)))))))) (fun _ h => List.mem_cons_of_mem _ (List.mem_append_left _ (List.mem_append_left _ (List.mem_append_left _ (List.mem_append_left _ (List.mem_append_left _ (List.mem_append_right _ h))))))) (fun _ h => List.mem_cons_of_mem _ (List.mem_append_left _ (List.mem_append_left _ (List.mem_append_left _ (List.mem_append_left _ (List.mem_append_right _ h)))))) (fun _ h => List.mem_cons_of_mem _ (List.mem_append_left _ (List.mem_append_left _ (List.mem_append_left _ (List.mem_append_right _ h))))) (fun _ h => List.mem_cons_of_mem _ (List.mem_append_left _ (List.mem_append_left _ (List.mem_append_right _ h)))) (fun _ h => List.mem_cons_of_mem _ (List.mem_append_left _ (List.mem_append_right _ h))) (fun _ h => List.mem_cons_of_mem _ (List.mem_append_right _ h))
  have hl : lv_has ls 3 [(0, va_rf v0), (1, va_rf v1)] := by simpa [lv_args, gcat_rf, gcat_ref, gcat_int, gcat_long] using hl
  refine gp_aload_n (x := v0) hx hb dX11_changeCells_0 rfl (lv_at hl 0 rfl) ?_
  obtain ⟨q1, hq1, hf⟩ := gb_b hf
  refine W.eq (g2 := F0 m 1 ls [.ref q1]) (congrArg (fun z => F0 m 1 ls [va_rf z]) hq1) ?_
  rw [hq1] at hl
  obtain ⟨t1, ht1, hf⟩ := gb_b hf
  refine cp_get (v := .int t1) hx hb hts gclL hown hK hG 0 (gfI_s ht1) (by decide) (hts _ (List.mem_of_getElem? (i := 1) rfl)) (fun _ h9 => h9) dX11_changeCells_1 ?_
  refine lv_istore_n (lv' := [(2, .int t1), (0, .ref q1), (1, va_rf v1)]) hx hb dX11_changeCells_4 rfl hl (by decide) (by generalize v1 = zz; cases zz <;> rfl) (fun ls hl => ?_)
  refine lv_aload_n hx hb dX11_changeCells_5 rfl (lv_at hl 1 rfl) ?_
  refine gp_aload_n (x := v1) hx hb dX11_changeCells_6 rfl (lv_at hl 2 rfl) ?_
  obtain ⟨q7, hq7, hf⟩ := gb_b hf
  refine W.eq (g2 := F0 m 7 ls [.ref q7, .ref q1]) (congrArg (fun z => F0 m 7 ls [va_rf z, .ref q1]) hq7) ?_
  rw [hq7] at hl
  obtain ⟨t7, ht7, hf⟩ := gb_b hf
  refine cp_get (v := .int t7) hx hb hts gclL hown hK hG 0 (gfI_s ht7) (by decide) (hts _ (List.mem_of_getElem? (i := 1) rfl)) (fun _ h9 => h9) dX11_changeCells_7 ?_
  obtain ⟨g10, ht10, hf⟩ := gb_b hf
  refine cp_put (tyk := .int) hx hb hts gclL tyX5 tyX5_ok nmX5 hown hK hG hS 0 ht10 (by decide) (hts _ (List.mem_of_getElem? (i := 1) rfl)) (fun _ h9 => h9) rfl (by decide +kernel) rfl rfl dX11_changeCells_10 (fun H locs hG hS => ?_)
  refine lv_aload_n hx hb dX11_changeCells_13 rfl (lv_at hl 2 rfl) ?_
  refine lv_iload_n hx hb dX11_changeCells_14 rfl (lv_at hl 0 rfl) ?_
  obtain ⟨g15, ht15, hf⟩ := gb_b hf
  refine cp_put (tyk := .int) hx hb hts gclL tyX5 tyX5_ok nmX5 hown hK hG hS 0 ht15 (by decide) (hts _ (List.mem_of_getElem? (i := 1) rfl)) (fun _ h9 => h9) rfl (by decide +kernel) rfl rfl dX11_changeCells_15 (fun H locs hG hS => ?_)
  have hf := Option.some.inj hf
  subst hf
  exact gp_retV hx hb hr hlocks hG hS (Nat.le_of_ble_eq_true rfl) (Nat.le_of_ble_eq_true rfl) dX11_changeCells_18
-- X11_count
abbrev rm_X11_count : Room := { frames := 5, cells := 0, slots := 0, locals := 120 }
set_option maxHeartbeats 4000000 in
set_option maxRecDepth 100000 in
theorem c_X11_count {v1 : Int32} {R : Int32} (hf : f_X11_count gv h0 v1 = some R) : Met l yX11_count wsX11_count rm_X11_count (va_Pc [.ref h0, .int v1] (gPre D b M (gW cI cL gv) (gTy cI cL))) (gQ D b (some (.int R)) M (gW cI cL gv)) 0 0 (gA b) := by
  refine gp_met (cc := cX11_count) (maxL := 2) (ret := (some .int)) (by decide) rfl (Nat.le_of_ble_eq_true rfl) ?_
  intro p e s m below meth c X ls hG hl
  obtain ⟨H, hH0⟩ : ∃ H : Heap, H = s.heap := ⟨_, rfl⟩
  rw [← hH0] at hG ⊢
  have hS : va_S (gA b) s.heap H [] := by rw [hH0]; exact va_S.rf
  obtain ⟨locs, hlo⟩ : ∃ z : List Loc, z = [] := ⟨_, rfl⟩
  rw [← hlo] at hS ⊢
  unfold f_X11_count at hf
  obtain ⟨hx, hb, hr, hml, hown, hts, hlocks, hKn, hBs⟩ := id X
  have hK := hKn.1
  have gclX10 : gcl [8] TX10 6 wsX11_count := gcl_1 rfl (fun _ h => List.mem_cons_of_mem _ (List.mem_append_left _ (List.mem_append_left _ (List.mem_append_left _ (List.mem_append_left _ (List.mem_append_left _ (List.mem_append_left _ (List.mem_append_left _ (List.mem_append_left _ (List.mem_append_right _ h))))))))))
  have gclX11 : gcl [9] TX11 8 wsX11_count := gcl_1 rfl (fun _ h => List.mem_cons_of_mem _ (List.mem_append_left _ (List.mem_append_left _ (List.mem_append_left _ (List.mem_append_left _ (List.mem_append_left _ (List.mem_append_left _ (List.mem_append_left _ (List.mem_append_left _ (List.mem_append_left _ (List.mem_append_right _ h)))))))))))
  have gclX6 : gcl [5] TX6 2 wsX11_count := gcl_1 rfl (fun _ h => List.mem_cons_of_mem _ (List.mem_append_left _ (List.mem_append_left _ (List.mem_append_left _ (List.mem_append_left _ (List.mem_append_left _ (List.mem_append_left _ (List.mem_append_left _ (List.mem_append_right _ h)))))))))
  have hl : lv_has ls 2 [(0, .ref h0), (1, .int v1)] := hl
  refine lv_iload_n hx hb dX11_count_0 rfl (lv_at hl 1 rfl) ?_
  by_cases c1_0 : v1 = 0
  · have hf := gb_t c1_0 hf
    refine lv_tableIn (tgt := 52) (off := 51) hx hb dX11_count_1 (by rw [c1_0]; decide) (by rw [c1_0]; decide) (by rw [c1_0]; rfl) (by decide) ?_
    refine lv_aload_n hx hb dX11_count_52 rfl (lv_at hl 0 rfl) ?_
    obtain ⟨t53, ht53, hf⟩ := gb_b hf
    refine cp_get (v := va_rf t53) hx hb hts gclX11 hown hK hG 4 (gfR_s ht53) (by decide) (hts _ (List.mem_of_getElem? (i := 1) rfl)) (fun _ h9 => h9) dX11_count_53 ?_
    obtain ⟨q56, hq56, hf⟩ := gb_b hf
    refine W.eq (g2 := F0 m 56 ls [.ref q56]) (congrArg (fun z => F0 m 56 ls [va_rf z]) hq56) ?_
    obtain ⟨t56, ht56, hf⟩ := gb_b hf
    refine cp_get (v := .int t56) hx hb hts gclX10 hown hK hG 3 (gfI_s ht56) (by decide) (hts _ (List.mem_of_getElem? (i := 2) rfl)) (fun _ h9 => h9) dX11_count_56 ?_
    have hf := Option.some.inj hf
    subst hf
    exact gp_retI hx hb hr hlocks hG hS (Nat.le_of_ble_eq_true rfl) (Nat.le_of_ble_eq_true rfl) dX11_count_59
  · have hf := gb_f c1_0 hf
    by_cases c1_1 : v1 = 1
    · have hf := gb_t c1_1 hf
      refine lv_tableIn (tgt := 60) (off := 59) hx hb dX11_count_1 (by rw [c1_1]; decide) (by rw [c1_1]; decide) (by rw [c1_1]; rfl) (by decide) ?_
      refine lv_aload_n hx hb dX11_count_60 rfl (lv_at hl 0 rfl) ?_
      obtain ⟨t61, ht61, hf⟩ := gb_b hf
      refine cp_get (v := va_rf t61) hx hb hts gclX11 hown hK hG 4 (gfR_s ht61) (by decide) (hts _ (List.mem_of_getElem? (i := 1) rfl)) (fun _ h9 => h9) dX11_count_61 ?_
      obtain ⟨q64, hq64, hf⟩ := gb_b hf
      refine W.eq (g2 := F0 m 64 ls [.ref q64]) (congrArg (fun z => F0 m 64 ls [va_rf z]) hq64) ?_
      obtain ⟨t64, ht64, hf⟩ := gb_b hf
      refine cp_get (v := .int t64) hx hb hts gclX10 hown hK hG 4 (gfI_s ht64) (by decide) (hts _ (List.mem_of_getElem? (i := 3) rfl)) (fun _ h9 => h9) dX11_count_64 ?_
      have hf := Option.some.inj hf
      subst hf
      exact gp_retI hx hb hr hlocks hG hS (Nat.le_of_ble_eq_true rfl) (Nat.le_of_ble_eq_true rfl) dX11_count_67
    · have hf := gb_f c1_1 hf
      by_cases c1_2 : v1 = 2
      · have hf := gb_t c1_2 hf
        refine lv_tableIn (tgt := 68) (off := 67) hx hb dX11_count_1 (by rw [c1_2]; decide) (by rw [c1_2]; decide) (by rw [c1_2]; rfl) (by decide) ?_
        refine lv_aload_n hx hb dX11_count_68 rfl (lv_at hl 0 rfl) ?_
        obtain ⟨t69, ht69, hf⟩ := gb_b hf
        refine cp_get (v := va_rf t69) hx hb hts gclX11 hown hK hG 4 (gfR_s ht69) (by decide) (hts _ (List.mem_of_getElem? (i := 1) rfl)) (fun _ h9 => h9) dX11_count_69 ?_
        obtain ⟨q72, hq72, hf⟩ := gb_b hf
        refine W.eq (g2 := F0 m 72 ls [.ref q72]) (congrArg (fun z => F0 m 72 ls [va_rf z]) hq72) ?_
        obtain ⟨t72, ht72, hf⟩ := gb_b hf
        refine cp_get (v := .long t72) hx hb hts gclX10 hown hK hG 2 (gfJ_s ht72) (by decide) (hts _ (List.mem_of_getElem? (i := 4) rfl)) (fun _ h9 => h9) dX11_count_72 ?_
        obtain ⟨o75, hc75, hf⟩ := gb_b hf
        refine gp_callI (va_runS (As := [.long t72]) (rest := []) ⟨hx, hb, hml, hown, hts⟩ (c_X2_howMany (l := l) (D := D) (b := b) (cI := cI) (cL := cL) hc75) (va_cwS 1 hts gX11_count_X2_howMany rfl rfl rfl (by decide +kernel) ⟨Nat.le_of_ble_eq_true rfl, Nat.le_of_ble_eq_true rfl⟩) (gp_preS hKn hG) rfl rfl hl.1 rfl (lv_room (Nat.le_of_ble_eq_true rfl)) dX11_count_75 ⟨Nat.le_of_ble_eq_true rfl, Nat.le_of_ble_eq_true rfl⟩) hS (fun H locs hG hS => ?_)
        have hf := Option.some.inj hf
        subst hf
        exact gp_retI hx hb hr hlocks hG hS (Nat.le_of_ble_eq_true rfl) (Nat.le_of_ble_eq_true rfl) dX11_count_78
      · have hf := gb_f c1_2 hf
        by_cases c1_3 : v1 = 3
        · have hf := gb_t c1_3 hf
          refine lv_tableIn (tgt := 79) (off := 78) hx hb dX11_count_1 (by rw [c1_3]; decide) (by rw [c1_3]; decide) (by rw [c1_3]; rfl) (by decide) ?_
          refine lv_aload_n hx hb dX11_count_79 rfl (lv_at hl 0 rfl) ?_
          obtain ⟨t80, ht80, hf⟩ := gb_b hf
          refine cp_get (v := va_rf t80) hx hb hts gclX11 hown hK hG 4 (gfR_s ht80) (by decide) (hts _ (List.mem_of_getElem? (i := 1) rfl)) (fun _ h9 => h9) dX11_count_80 ?_
          obtain ⟨q83, hq83, hf⟩ := gb_b hf
          refine W.eq (g2 := F0 m 83 ls [.ref q83]) (congrArg (fun z => F0 m 83 ls [va_rf z]) hq83) ?_
          obtain ⟨t83, ht83, hf⟩ := gb_b hf
          refine cp_get (v := .int t83) hx hb hts gclX10 hown hK hG 5 (gfI_s ht83) (by decide) (hts _ (List.mem_of_getElem? (i := 5) rfl)) (fun _ h9 => h9) dX11_count_83 ?_
          have hf := Option.some.inj hf
          subst hf
          exact gp_retI hx hb hr hlocks hG hS (Nat.le_of_ble_eq_true rfl) (Nat.le_of_ble_eq_true rfl) dX11_count_86
        · have hf := gb_f c1_3 hf
          by_cases c1_4 : v1 = 4
          · have hf := gb_t c1_4 hf
            refine lv_tableIn (tgt := 87) (off := 86) hx hb dX11_count_1 (by rw [c1_4]; decide) (by rw [c1_4]; decide) (by rw [c1_4]; rfl) (by decide) ?_
            refine lv_aload_n hx hb dX11_count_87 rfl (lv_at hl 0 rfl) ?_
            obtain ⟨t88, ht88, hf⟩ := gb_b hf
            refine cp_get (v := va_rf t88) hx hb hts gclX11 hown hK hG 4 (gfR_s ht88) (by decide) (hts _ (List.mem_of_getElem? (i := 1) rfl)) (fun _ h9 => h9) dX11_count_88 ?_
            obtain ⟨q91, hq91, hf⟩ := gb_b hf
            refine W.eq (g2 := F0 m 91 ls [.ref q91]) (congrArg (fun z => F0 m 91 ls [va_rf z]) hq91) ?_
            obtain ⟨o91, hc91, hf⟩ := gb_b hf
            obtain ⟨oc91, hcO91, hc91⟩ := gb_b hc91
            obtain ⟨hcg91, hci91⟩ := gfO_s hcO91
            have hci91 := List.mem_singleton.mp hci91
            obtain ⟨kc91, fc91⟩ := oc91
            dsimp only at hci91 hcg91
            subst hci91
            refine gp_callI (va_runV (As := []) (rest := []) ⟨hx, hb, hml, hown, hts⟩ (c_X10_allScenes (l := l) (D := D) (b := b) (cI := cI) (cL := cL) hc91) (cwV 0 hts gX11_count_X10_allScenes rfl rfl rfl (by decide +kernel) ⟨Nat.le_of_ble_eq_true rfl, Nat.le_of_ble_eq_true rfl⟩) (gp_preV hKn hG (cp_obj hcg91) rfl) rfl rfl hl.1 rfl (lv_room (Nat.le_of_ble_eq_true rfl)) dX11_count_91 ⟨Nat.le_of_ble_eq_true rfl, Nat.le_of_ble_eq_true rfl⟩) hS (fun H locs hG hS => ?_)
            have hf := Option.some.inj hf
            subst hf
            exact gp_retI hx hb hr hlocks hG hS (Nat.le_of_ble_eq_true rfl) (Nat.le_of_ble_eq_true rfl) dX11_count_94
          · have hf := gb_f c1_4 hf
            by_cases c1_5 : v1 = 5
            · have hf := gb_t c1_5 hf
              refine lv_tableIn (tgt := 95) (off := 94) hx hb dX11_count_1 (by rw [c1_5]; decide) (by rw [c1_5]; decide) (by rw [c1_5]; rfl) (by decide) ?_
              refine lv_aload_n hx hb dX11_count_95 rfl (lv_at hl 0 rfl) ?_
              obtain ⟨t96, ht96, hf⟩ := gb_b hf
              refine cp_get (v := va_rf t96) hx hb hts gclX11 hown hK hG 4 (gfR_s ht96) (by decide) (hts _ (List.mem_of_getElem? (i := 1) rfl)) (fun _ h9 => h9) dX11_count_96 ?_
              refine lv_iconst (v := 0) hx hb dX11_count_99 (by decide) ?_
              obtain ⟨q100, hq100, hf⟩ := gb_b hf
              refine W.eq (g2 := F0 m 100 ls [.int 0, .ref q100]) (congrArg (fun z => F0 m 100 ls [.int 0, va_rf z]) hq100) ?_
              obtain ⟨o100, hc100, hf⟩ := gb_b hf
              obtain ⟨oc100, hcO100, hc100⟩ := gb_b hc100
              obtain ⟨hcg100, hci100⟩ := gfO_s hcO100
              have hci100 := List.mem_singleton.mp hci100
              obtain ⟨kc100, fc100⟩ := oc100
              dsimp only at hci100 hcg100
              subst hci100
              refine gp_callL (va_runV (As := [.int 0]) (rest := []) ⟨hx, hb, hml, hown, hts⟩ (c_X10_litBut (l := l) (D := D) (b := b) (cI := cI) (cL := cL) hc100) (cwV 1 hts gX11_count_X10_litBut rfl rfl rfl (by decide +kernel) ⟨Nat.le_of_ble_eq_true rfl, Nat.le_of_ble_eq_true rfl⟩) (gp_preV hKn hG (cp_obj hcg100) rfl) rfl rfl hl.1 rfl (lv_room (Nat.le_of_ble_eq_true rfl)) dX11_count_100 ⟨Nat.le_of_ble_eq_true rfl, Nat.le_of_ble_eq_true rfl⟩) hS (fun H locs hG hS => ?_)
              obtain ⟨o103, hc103, hf⟩ := gb_b hf
              refine gp_callI (va_runS (As := [.long o100]) (rest := []) ⟨hx, hb, hml, hown, hts⟩ (c_X2_howMany (l := l) (D := D) (b := b) (cI := cI) (cL := cL) hc103) (va_cwS 1 hts gX11_count_X2_howMany rfl rfl rfl (by decide +kernel) ⟨Nat.le_of_ble_eq_true rfl, Nat.le_of_ble_eq_true rfl⟩) (gp_preS hKn hG) rfl rfl hl.1 rfl (lv_room (Nat.le_of_ble_eq_true rfl)) dX11_count_103 ⟨Nat.le_of_ble_eq_true rfl, Nat.le_of_ble_eq_true rfl⟩) hS (fun H locs hG hS => ?_)
              have hf := Option.some.inj hf
              subst hf
              exact gp_retI hx hb hr hlocks hG hS (Nat.le_of_ble_eq_true rfl) (Nat.le_of_ble_eq_true rfl) dX11_count_106
            · have hf := gb_f c1_5 hf
              by_cases c1_6 : v1 = 6
              · have hf := gb_t c1_6 hf
                refine lv_tableIn (tgt := 107) (off := 106) hx hb dX11_count_1 (by rw [c1_6]; decide) (by rw [c1_6]; decide) (by rw [c1_6]; rfl) (by decide) ?_
                refine lv_aload_n hx hb dX11_count_107 rfl (lv_at hl 0 rfl) ?_
                obtain ⟨t108, ht108, hf⟩ := gb_b hf
                refine cp_get (v := va_rf t108) hx hb hts gclX11 hown hK hG 4 (gfR_s ht108) (by decide) (hts _ (List.mem_of_getElem? (i := 1) rfl)) (fun _ h9 => h9) dX11_count_108 ?_
                obtain ⟨q111, hq111, hf⟩ := gb_b hf
                refine W.eq (g2 := F0 m 111 ls [.ref q111]) (congrArg (fun z => F0 m 111 ls [va_rf z]) hq111) ?_
                obtain ⟨o111, hc111, hf⟩ := gb_b hf
                obtain ⟨oc111, hcO111, hc111⟩ := gb_b hc111
                obtain ⟨hcg111, hci111⟩ := gfO_s hcO111
                have hci111 := List.mem_singleton.mp hci111
                obtain ⟨kc111, fc111⟩ := oc111
                dsimp only at hci111 hcg111
                subst hci111
                refine gp_callI (va_runV (As := []) (rest := []) ⟨hx, hb, hml, hown, hts⟩ (c_X10_litLamps (l := l) (D := D) (b := b) (cI := cI) (cL := cL) hc111) (cwV 0 hts gX11_count_X10_litLamps rfl rfl rfl (by decide +kernel) ⟨Nat.le_of_ble_eq_true rfl, Nat.le_of_ble_eq_true rfl⟩) (gp_preV hKn hG (cp_obj hcg111) rfl) rfl rfl hl.1 rfl (lv_room (Nat.le_of_ble_eq_true rfl)) dX11_count_111 ⟨Nat.le_of_ble_eq_true rfl, Nat.le_of_ble_eq_true rfl⟩) hS (fun H locs hG hS => ?_)
                have hf := Option.some.inj hf
                subst hf
                exact gp_retI hx hb hr hlocks hG hS (Nat.le_of_ble_eq_true rfl) (Nat.le_of_ble_eq_true rfl) dX11_count_114
              · have hf := gb_f c1_6 hf
                by_cases c1_7 : v1 = 7
                · have hf := gb_t c1_7 hf
                  refine lv_tableIn (tgt := 115) (off := 114) hx hb dX11_count_1 (by rw [c1_7]; decide) (by rw [c1_7]; decide) (by rw [c1_7]; rfl) (by decide) ?_
                  refine lv_aload_n hx hb dX11_count_115 rfl (lv_at hl 0 rfl) ?_
                  obtain ⟨t116, ht116, hf⟩ := gb_b hf
                  refine cp_get (v := .int t116) hx hb hts gclX11 hown hK hG 6 (gfI_s ht116) (by decide) (hts _ (List.mem_of_getElem? (i := 6) rfl)) (fun _ h9 => h9) dX11_count_116 ?_
                  have hf := Option.some.inj hf
                  subst hf
                  exact gp_retI hx hb hr hlocks hG hS (Nat.le_of_ble_eq_true rfl) (Nat.le_of_ble_eq_true rfl) dX11_count_119
                · have hf := gb_f c1_7 hf
                  by_cases c1_8 : v1 = 8
                  · have hf := gb_t c1_8 hf
                    refine lv_tableIn (tgt := 120) (off := 119) hx hb dX11_count_1 (by rw [c1_8]; decide) (by rw [c1_8]; decide) (by rw [c1_8]; rfl) (by decide) ?_
                    refine lv_aload_n hx hb dX11_count_120 rfl (lv_at hl 0 rfl) ?_
                    obtain ⟨t121, ht121, hf⟩ := gb_b hf
                    refine cp_get (v := va_rf t121) hx hb hts gclX11 hown hK hG 0 (gfR_s ht121) (by decide) (hts _ (List.mem_of_getElem? (i := 7) rfl)) (fun _ h9 => h9) dX11_count_121 ?_
                    obtain ⟨q124, hq124, hf⟩ := gb_b hf
                    refine W.eq (g2 := F0 m 124 ls [.ref q124]) (congrArg (fun z => F0 m 124 ls [va_rf z]) hq124) ?_
                    obtain ⟨t124, ht124, hf⟩ := gb_b hf
                    refine cp_get (v := .int t124) hx hb hts gclX6 hown hK hG 1 (gfI_s ht124) (by decide) (hts _ (List.mem_of_getElem? (i := 8) rfl)) (fun _ h9 => h9) dX11_count_124 ?_
                    have hf := Option.some.inj hf
                    subst hf
                    exact gp_retI hx hb hr hlocks hG hS (Nat.le_of_ble_eq_true rfl) (Nat.le_of_ble_eq_true rfl) dX11_count_127
                  · have hf := gb_f c1_8 hf
                    have ho1 : (v1).toInt < 0 ∨ 8 < (v1).toInt := by
                      have q : ∀ k : Int32, ¬ v1 = k → ¬ (v1).toInt = k.toInt := fun k hk h => hk (Int32.toInt_inj.mp h)
                      have q0 := q 0 c1_0; rw [show (0 : Int32).toInt = 0 from rfl] at q0
                      have q1 := q 1 c1_1; rw [show (1 : Int32).toInt = 1 from rfl] at q1
                      have q2 := q 2 c1_2; rw [show (2 : Int32).toInt = 2 from rfl] at q2
                      have q3 := q 3 c1_3; rw [show (3 : Int32).toInt = 3 from rfl] at q3
                      have q4 := q 4 c1_4; rw [show (4 : Int32).toInt = 4 from rfl] at q4
                      have q5 := q 5 c1_5; rw [show (5 : Int32).toInt = 5 from rfl] at q5
                      have q6 := q 6 c1_6; rw [show (6 : Int32).toInt = 6 from rfl] at q6
                      have q7 := q 7 c1_7; rw [show (7 : Int32).toInt = 7 from rfl] at q7
                      have q8 := q 8 c1_8; rw [show (8 : Int32).toInt = 8 from rfl] at q8
                      omega
                    refine lv_tableOut (tgt := 128) hx hb dX11_count_1 ho1 (by decide) ?_
                    refine lv_iload_n hx hb dX11_count_128 rfl (lv_at hl 1 rfl) ?_
                    refine lv_bipush (v := 11) hx hb dX11_count_129 (by decide) ?_
                    obtain ⟨j131, hj131, hf⟩ := gb_b hf
                    have hJ131 : ∀ (H : Heap) (locs : List Loc) (ls : Array Slot), GP D b M (gW cI cL gv) H → va_S (gA b) s.heap H locs → lv_has ls 2 [] → W p l e rm_X11_count s m [.ref h0, .int v1].toArray below meth c H locs 0 0 (MQ below (gQ D b (some (.int R)) M (gW cI cL gv)) [.ref h0, .int v1].toArray s 0 0 (gA b)) (F0 m 154 ls [.int j131]) := by
                      intro H locs ls hG hS hl
                      have hf := Option.some.inj hf
                      subst hf
                      exact gp_retI hx hb hr hlocks hG hS (Nat.le_of_ble_eq_true rfl) (Nat.le_of_ble_eq_true rfl) dX11_count_154
                    refine lv_icmp_lt (tgt := 140) hx hb dX11_count_131 (by decide) (fun c131 => ?_) (fun c131 => ?_)
                    · have hj131 := gb_t c131 hj131
                      refine lv_bipush (v := (-9 : Int32)) hx hb dX11_count_140 (by decide) ?_
                      refine lv_goto (tgt := 154) hx hb dX11_count_142 (by decide) ?_
                      have hj131 := Option.some.inj hj131
                      subst hj131
                      exact (hJ131 H locs ls hG hS (lv_sub hl [] rfl))
                    · have hj131 := gb_f c131 hj131
                      refine lv_iload_n hx hb dX11_count_134 rfl (lv_at hl 1 rfl) ?_
                      refine lv_bipush (v := 16) hx hb dX11_count_135 (by decide) ?_
                      refine lv_icmp_le (tgt := 145) hx hb dX11_count_137 (by decide) (fun c137 => ?_) (fun c137 => ?_)
                      · have hj131 := gb_t c137 hj131
                        refine lv_aload_n hx hb dX11_count_145 rfl (lv_at hl 0 rfl) ?_
                        obtain ⟨t146, ht146, hj131⟩ := gb_b hj131
                        refine cp_get (v := va_rf t146) hx hb hts gclX11 hown hK hG 2 (gfR_s ht146) (by decide) (hts _ (List.mem_of_getElem? (i := 9) rfl)) (fun _ h9 => h9) dX11_count_146 ?_
                        refine lv_iload_n hx hb dX11_count_149 rfl (lv_at hl 1 rfl) ?_
                        refine lv_bipush (v := 10) hx hb dX11_count_150 (by decide) ?_
                        refine lv_isub hx hb dX11_count_152 ?_
                        obtain ⟨q153, hq153, hj131⟩ := gb_b hj131
                        refine W.eq (g2 := F0 m 153 ls [.int (v1 - 10), .ref q153]) (congrArg (fun z => F0 m 153 ls [.int (v1 - 10), va_rf z]) hq153) ?_
                        obtain ⟨t153, ht153, hj131⟩ := gb_b hj131
                        refine cp_iald hx hb hK hG ht153 dX11_count_153 ?_
                        have hj131 := Option.some.inj hj131
                        subst hj131
                        exact (hJ131 H locs ls hG hS (lv_sub hl [] rfl))
                      · have hj131 := gb_f c137 hj131
                        refine lv_bipush (v := (-9 : Int32)) hx hb dX11_count_140 (by decide) ?_
                        refine lv_goto (tgt := 154) hx hb dX11_count_142 (by decide) ?_
                        have hj131 := Option.some.inj hj131
                        subst hj131
                        exact (hJ131 H locs ls hG hS (lv_sub hl [] rfl))
-- X11_counted
abbrev rm_X11_counted : Room := { frames := 1, cells := 0, slots := 0, locals := 21 }
set_option maxHeartbeats 4000000 in
set_option maxRecDepth 100000 in
theorem c_X11_counted {v1 : Int32} {R : Int32 × (Nat → GV)} (hf : f_X11_counted gv h0 v1 = some R) : Met l yX11_counted wsX11_counted rm_X11_counted (va_Pc [.ref h0, .int v1] (gPre D b M (gW cI cL gv) (gTy cI cL))) (gQ D b (some (.int R.1)) M (gW cI cL R.2)) 0 0 (gA b) := by
  refine gp_met (cc := cX11_counted) (maxL := 2) (ret := (some .int)) (by decide) rfl (Nat.le_of_ble_eq_true rfl) ?_
  intro p e s m below meth c X ls hG hl
  obtain ⟨H, hH0⟩ : ∃ H : Heap, H = s.heap := ⟨_, rfl⟩
  rw [← hH0] at hG ⊢
  have hS : va_S (gA b) s.heap H [] := by rw [hH0]; exact va_S.rf
  obtain ⟨locs, hlo⟩ : ∃ z : List Loc, z = [] := ⟨_, rfl⟩
  rw [← hlo] at hS ⊢
  unfold f_X11_counted at hf
  obtain ⟨hx, hb, hr, hml, hown, hts, hlocks, hKn, hBs⟩ := id X
  have hK := hKn.1
  have hl : lv_has ls 2 [(0, .ref h0), (1, .int v1)] := hl
  refine lv_iload_n hx hb dX11_counted_0 rfl (lv_at hl 1 rfl) ?_
  obtain ⟨j1, hj1, hf⟩ := gb_b hf
  have hJ1 : ∀ (H : Heap) (locs : List Loc) (ls : Array Slot), GP D b M (gW cI cL j1.2) H → va_S (gA b) s.heap H locs → lv_has ls 2 [] → W p l e rm_X11_counted s m [.ref h0, .int v1].toArray below meth c H locs 0 0 (MQ below (gQ D b (some (.int R.1)) M (gW cI cL R.2)) [.ref h0, .int v1].toArray s 0 0 (gA b)) (F0 m 13 ls [.int j1.1]) := by
    intro H locs ls hG hS hl
    have hf := Option.some.inj hf
    subst hf
    exact gp_retI hx hb hr hlocks hG hS (Nat.le_of_ble_eq_true rfl) (Nat.le_of_ble_eq_true rfl) dX11_counted_13
  refine lv_if_ge (tgt := 12) hx hb dX11_counted_1 (by decide) (fun c1 => ?_) (fun c1 => ?_)
  · have hj1 := gb_t c1 hj1
    refine lv_iload_n hx hb dX11_counted_12 rfl (lv_at hl 1 rfl) ?_
    have hj1 := Option.some.inj hj1
    subst hj1
    exact (hJ1 H locs ls hG hS (lv_sub hl [] rfl))
  · have hj1 := gb_f c1 hj1
    refine lv_aload_n hx hb dX11_counted_4 rfl (lv_at hl 0 rfl) ?_
    refine lv_iload_n hx hb dX11_counted_5 rfl (lv_at hl 1 rfl) ?_
    obtain ⟨o6, hc6, hj1⟩ := gb_b hj1
    obtain ⟨oc6, hcO6, hc6⟩ := gb_b hc6
    obtain ⟨hcg6, hci6⟩ := gfO_s hcO6
    have hci6 := List.mem_singleton.mp hci6
    obtain ⟨kc6, fc6⟩ := oc6
    dsimp only at hci6 hcg6
    subst hci6
    refine gp_callI (va_runV (As := [.int v1]) (rest := []) ⟨hx, hb, hml, hown, hts⟩ (c_X11_refuse (l := l) (D := D) (b := b) (cI := cI) (cL := cL) hc6) (cwV 1 hts gX11_counted_X11_refuse rfl rfl rfl (by decide +kernel) ⟨Nat.le_of_ble_eq_true rfl, Nat.le_of_ble_eq_true rfl⟩) (gp_preV hKn hG (cp_obj hcg6) rfl) rfl rfl hl.1 rfl (lv_room (Nat.le_of_ble_eq_true rfl)) dX11_counted_6 ⟨Nat.le_of_ble_eq_true rfl, Nat.le_of_ble_eq_true rfl⟩) hS (fun H locs hG hS => ?_)
    refine lv_goto (tgt := 13) hx hb dX11_counted_9 (by decide) ?_
    have hj1 := Option.some.inj hj1
    subst hj1
    exact (hJ1 H locs ls hG hS (lv_sub hl [] rfl))
-- X11_evenestLamp
abbrev rm_X11_evenestLamp : Room := { frames := 3, cells := 0, slots := 0, locals := 74 }
set_option maxHeartbeats 4000000 in
set_option maxRecDepth 100000 in
theorem w_X11_evenestLamp_18 {α : Type} {R : α} {K100 : Int32 → Option α} {v0 : Nat} {v1 : Int64} (X : gC p s m args meth c cX11_evenestLamp 10 (some .int) wsX11_evenestLamp RX11 D b (gTy cI cL)) : ∀ (n : Nat) (v3 : Int32) (v4 : Int32) (v5 : Int32), L_X11_evenestLamp_18 K100 gv v0 v1 n v3 v4 v5 = some R → (∀ (x : Int32), K100 x = some R → ∀ (H : Heap) (locs : List Loc) (ls : Array Slot), GP D b M (gW cI cL gv) H → va_S (gA b) s.heap H locs → lv_has ls 10 [(3, .int x)] → W p l e rm_X11_evenestLamp s m args below meth c H locs 0 0 Q (F0 m 100 ls [])) → ∀ (H : Heap) (locs : List Loc) (ls : Array Slot), GP D b M (gW cI cL gv) H → va_S (gA b) s.heap H locs → lv_has ls 10 [(0, .ref v0), (1, .long v1), (3, .int v3), (4, .int v4), (5, .int v5)] → W p l e rm_X11_evenestLamp s m args below meth c H locs 0 0 Q (F0 m 18 ls []) := by
  obtain ⟨hx, hb, hr, hml, hown, hts, hlocks, hKn, hBs⟩ := id X
  have hK := hKn.1
  have gclX10 : gcl [8] TX10 6 wsX11_evenestLamp := gcl_1 rfl (fun _ h => List.mem_cons_of_mem _ (List.mem_append_left _ (List.mem_append_left _ (List.mem_append_left _ (List.mem_append_left _ (List.mem_append_left _ (List.mem_append_left _ (List.mem_append_left _ (List.mem_append_right _ h)))))))))
  have gclX11 : gcl [9] TX11 8 wsX11_evenestLamp := gcl_1 rfl (fun _ h => List.mem_cons_of_mem _ (List.mem_append_left _ (List.mem_append_left _ (List.mem_append_left _ (List.mem_append_left _ (List.mem_append_left _ (List.mem_append_left _ (List.mem_append_left _ (List.mem_append_left _ (List.mem_append_right _ h))))))))))
  intro n
  induction n with
  | zero =>
    intro v3 v4 v5 hf
    cases hf
  | succ n ih =>
    intro v3 v4 v5 hf hk100 H locs ls hG hS hl
    rw [L_X11_evenestLamp_18.eq_2] at hf
    refine lv_iload hx hb dX11_evenestLamp_18 (lv_at hl 4 rfl) ?_
    refine lv_aload_n hx hb dX11_evenestLamp_20 rfl (lv_at hl 0 rfl) ?_
    obtain ⟨t21, ht21, hf⟩ := gb_b hf
    refine cp_get (v := va_rf t21) hx hb hts gclX11 hown hK hG 4 (gfR_s ht21) (by decide) (hts _ (List.mem_of_getElem? (i := 1) rfl)) (fun _ h9 => h9) dX11_evenestLamp_21 ?_
    obtain ⟨q24, hq24, hf⟩ := gb_b hf
    refine W.eq (g2 := F0 m 24 ls [.ref q24, .int v5]) (congrArg (fun z => F0 m 24 ls [va_rf z, .int v5]) hq24) ?_
    obtain ⟨t24, ht24, hf⟩ := gb_b hf
    refine cp_get (v := .int t24) hx hb hts gclX10 hown hK hG 3 (gfI_s ht24) (by decide) (hts _ (List.mem_of_getElem? (i := 2) rfl)) (fun _ h9 => h9) dX11_evenestLamp_24 ?_
    refine lv_icmp_ge (tgt := 100) hx hb dX11_evenestLamp_27 (by decide) (fun c27 => ?_) (fun c27 => ?_)
    · have hf := gb_t c27 hf
      exact (hk100 _ hf _ _ _ hG hS (lv_sub hl [2] rfl))
    · have hf := gb_f c27 hf
      refine lv_aload_n hx hb dX11_evenestLamp_30 rfl (lv_at hl 0 rfl) ?_
      obtain ⟨t31, ht31, hf⟩ := gb_b hf
      refine cp_get (v := va_rf t31) hx hb hts gclX11 hown hK hG 4 (gfR_s ht31) (by decide) (hts _ (List.mem_of_getElem? (i := 1) rfl)) (fun _ h9 => h9) dX11_evenestLamp_31 ?_
      refine lv_iload hx hb dX11_evenestLamp_34 (lv_at hl 4 rfl) ?_
      obtain ⟨q36, hq36, hf⟩ := gb_b hf
      refine W.eq (g2 := F0 m 36 ls [.int v5, .ref q36]) (congrArg (fun z => F0 m 36 ls [.int v5, va_rf z]) hq36) ?_
      obtain ⟨o36, hc36, hf⟩ := gb_b hf
      obtain ⟨oc36, hcO36, hc36⟩ := gb_b hc36
      obtain ⟨hcg36, hci36⟩ := gfO_s hcO36
      have hci36 := List.mem_singleton.mp hci36
      obtain ⟨kc36, fc36⟩ := oc36
      dsimp only at hci36 hcg36
      subst hci36
      refine gp_callR (va_runV (As := [.int v5]) (rest := []) ⟨hx, hb, hml, hown, hts⟩ (c_X10_lampAt (l := l) (D := D) (b := b) (cI := cI) (cL := cL) hc36) (cwV 1 hts gX11_evenestLamp_X10_lampAt rfl rfl rfl (by decide +kernel) ⟨Nat.le_of_ble_eq_true rfl, Nat.le_of_ble_eq_true rfl⟩) (gp_preV hKn hG (cp_obj hcg36) rfl) rfl rfl hl.1 rfl (lv_room (Nat.le_of_ble_eq_true rfl)) dX11_evenestLamp_36 ⟨Nat.le_of_ble_eq_true rfl, Nat.le_of_ble_eq_true rfl⟩) hS (fun H locs hG hS => ?_)
      refine gp_astore (lv' := [(6, va_rf o36), (0, .ref v0), (1, .long v1), (3, .int v3), (4, .int v4), (5, .int v5)]) hx hb dX11_evenestLamp_39 hl (by decide) rfl (fun ls hl => ?_)
      refine gp_aload (x := o36) hx hb dX11_evenestLamp_41 (lv_at hl 0 rfl) ?_
      obtain ⟨j43, hj43, hf⟩ := gb_b hf
      have hJ43 : ∀ (H : Heap) (locs : List Loc) (ls : Array Slot), GP D b M (gW cI cL gv) H → va_S (gA b) s.heap H locs → lv_has ls 10 [(0, .ref v0), (1, .long v1), (3, .int j43.1), (4, .int j43.2), (5, .int v5)] → W p l e rm_X11_evenestLamp s m args below meth c H locs 0 0 Q (F0 m 94 ls []) := by
        intro H locs ls hG hS hl
        refine lv_iinc (v := v5 + 1) (lv' := [(5, .int (v5 + 1)), (0, .ref v0), (1, .long v1), (3, .int j43.1), (4, .int j43.2)]) hx hb dX11_evenestLamp_94 hl (k := 4) rfl rfl (by decide) rfl (fun ls hl => ?_)
        refine lv_goto (tgt := 18) hx hb dX11_evenestLamp_97 (by decide) ?_
        exact ih _ _ _ hf hk100 _ _ _ hG hS (lv_sub hl [1, 2, 3, 4, 0] rfl)
      refine gp_ifnull (x := o36) (tgt := 94) hx hb dX11_evenestLamp_43 (by decide) ?_ ?_
      · intro e43
        rw [e43] at hl
        rw [e43] at hj43
        dsimp only at hj43
        have hj43 := Option.some.inj hj43
        subst hj43
        exact (hJ43 H locs ls hG hS (lv_sub hl [1, 2, 3, 4, 5] rfl))
      · intro n43 e43
        rw [e43] at hl
        rw [e43] at hj43
        dsimp only at hj43
        refine lv_aload hx hb dX11_evenestLamp_46 (lv_at hl 0 rfl) ?_
        refine lv_aload_n hx hb dX11_evenestLamp_48 rfl (lv_at hl 1 rfl) ?_
        obtain ⟨t49, ht49, hj43⟩ := gb_b hj43
        refine cp_get (v := va_rf t49) hx hb hts gclX11 hown hK hG 4 (gfR_s ht49) (by decide) (hts _ (List.mem_of_getElem? (i := 1) rfl)) (fun _ h9 => h9) dX11_evenestLamp_49 ?_
        obtain ⟨o52, hc52, hj43⟩ := gb_b hj43
        have hrun52 : va_Run p l e rm_X11_evenestLamp s m args below meth c H locs 0 0 0 0 (F0 m 52 ls ([va_rf t49].reverse ++ .ref n43 :: [])) [] (gQ D b (some (.long o52)) M (gW cI cL gv) (Value.ref n43 :: [va_rf t49]).toArray) (gA b) := by
          obtain ⟨oc, hcO, hc52⟩ := gb_b hc52
          obtain ⟨hcg, hci⟩ := gfO_s hcO
          obtain ⟨kc, fc⟩ := oc
          dsimp only at hci hcg hc52
          rcases gLC_7 hci with rfl | rfl | rfl | rfl | rfl | rfl | rfl
          · exact va_runU (As := [va_rf t49]) (rest := []) ⟨hx, hb, hml, hown, hts⟩ (c_X5_glow (l := l) (D := D) (b := b) (cI := cI) (cL := cL) hc52) (va_cwU 1 hts gX11_evenestLamp_X5_glow_u108X0 rfl rfl rfl rfl (by decide +kernel) ⟨Nat.le_of_ble_eq_true rfl, Nat.le_of_ble_eq_true rfl⟩) (gp_preV hKn hG (cp_obj hcg) rfl) rfl rfl hl.1 rfl (lv_room (Nat.le_of_ble_eq_true rfl)) dX11_evenestLamp_52 ⟨Nat.le_of_ble_eq_true rfl, Nat.le_of_ble_eq_true rfl⟩
          · exact va_runU (As := [va_rf t49]) (rest := []) ⟨hx, hb, hml, hown, hts⟩ (c_X5_glow (l := l) (D := D) (b := b) (cI := cI) (cL := cL) hc52) (va_cwU 1 hts gX11_evenestLamp_X5_glow_u108X1 rfl rfl rfl rfl (by decide +kernel) ⟨Nat.le_of_ble_eq_true rfl, Nat.le_of_ble_eq_true rfl⟩) (gp_preV hKn hG (cp_obj hcg) rfl) rfl rfl hl.1 rfl (lv_room (Nat.le_of_ble_eq_true rfl)) dX11_evenestLamp_52 ⟨Nat.le_of_ble_eq_true rfl, Nat.le_of_ble_eq_true rfl⟩
          · exact va_runU (As := [va_rf t49]) (rest := []) ⟨hx, hb, hml, hown, hts⟩ (c_X5_glow (l := l) (D := D) (b := b) (cI := cI) (cL := cL) hc52) (va_cwU 1 hts gX11_evenestLamp_X5_glow_u108X3 rfl rfl rfl rfl (by decide +kernel) ⟨Nat.le_of_ble_eq_true rfl, Nat.le_of_ble_eq_true rfl⟩) (gp_preV hKn hG (cp_obj hcg) rfl) rfl rfl hl.1 rfl (lv_room (Nat.le_of_ble_eq_true rfl)) dX11_evenestLamp_52 ⟨Nat.le_of_ble_eq_true rfl, Nat.le_of_ble_eq_true rfl⟩
          · exact va_runU (As := [va_rf t49]) (rest := []) ⟨hx, hb, hml, hown, hts⟩ (c_X5_glow (l := l) (D := D) (b := b) (cI := cI) (cL := cL) hc52) (va_cwU 1 hts gX11_evenestLamp_X5_glow_u108X4 rfl rfl rfl rfl (by decide +kernel) ⟨Nat.le_of_ble_eq_true rfl, Nat.le_of_ble_eq_true rfl⟩) (gp_preV hKn hG (cp_obj hcg) rfl) rfl rfl hl.1 rfl (lv_room (Nat.le_of_ble_eq_true rfl)) dX11_evenestLamp_52 ⟨Nat.le_of_ble_eq_true rfl, Nat.le_of_ble_eq_true rfl⟩
          · exact va_runV (As := [va_rf t49]) (rest := []) ⟨hx, hb, hml, hown, hts⟩ (c_X5_glow (l := l) (D := D) (b := b) (cI := cI) (cL := cL) hc52) (cwV 1 hts gX11_evenestLamp_X5_glow rfl rfl rfl (by decide +kernel) ⟨Nat.le_of_ble_eq_true rfl, Nat.le_of_ble_eq_true rfl⟩) (gp_preV hKn hG (cp_obj hcg) rfl) rfl rfl hl.1 rfl (lv_room (Nat.le_of_ble_eq_true rfl)) dX11_evenestLamp_52 ⟨Nat.le_of_ble_eq_true rfl, Nat.le_of_ble_eq_true rfl⟩
          · exact va_runU (As := [va_rf t49]) (rest := []) ⟨hx, hb, hml, hown, hts⟩ (c_X5_glow (l := l) (D := D) (b := b) (cI := cI) (cL := cL) hc52) (va_cwU 1 hts gX11_evenestLamp_X5_glow_u108X7 rfl rfl rfl rfl (by decide +kernel) ⟨Nat.le_of_ble_eq_true rfl, Nat.le_of_ble_eq_true rfl⟩) (gp_preV hKn hG (cp_obj hcg) rfl) rfl rfl hl.1 rfl (lv_room (Nat.le_of_ble_eq_true rfl)) dX11_evenestLamp_52 ⟨Nat.le_of_ble_eq_true rfl, Nat.le_of_ble_eq_true rfl⟩
          · exact va_runU (As := [va_rf t49]) (rest := []) ⟨hx, hb, hml, hown, hts⟩ (c_X5_glow (l := l) (D := D) (b := b) (cI := cI) (cL := cL) hc52) (va_cwU 1 hts gX11_evenestLamp_X5_glow_u108X8 rfl rfl rfl rfl (by decide +kernel) ⟨Nat.le_of_ble_eq_true rfl, Nat.le_of_ble_eq_true rfl⟩) (gp_preV hKn hG (cp_obj hcg) rfl) rfl rfl hl.1 rfl (lv_room (Nat.le_of_ble_eq_true rfl)) dX11_evenestLamp_52 ⟨Nat.le_of_ble_eq_true rfl, Nat.le_of_ble_eq_true rfl⟩
        refine gp_callL hrun52 hS (fun H locs hG hS => ?_)
        refine lv_lstore (lv' := [(7, .long o52), (6, .ref n43), (0, .ref v0), (1, .long v1), (3, .int v3), (4, .int v4), (5, .int v5)]) hx hb dX11_evenestLamp_55 hl (by decide) rfl (fun ls hl => ?_)
        refine lv_lload_n hx hb dX11_evenestLamp_57 rfl (lv_at hl 3 rfl) ?_
        refine lv_lload hx hb dX11_evenestLamp_58 (lv_at hl 0 rfl) ?_
        refine lv_land hx hb dX11_evenestLamp_60 ?_
        obtain ⟨o61, hc61, hj43⟩ := gb_b hj43
        refine gp_callI (va_runS (As := [.long (v1 &&& o52)]) (rest := []) ⟨hx, hb, hml, hown, hts⟩ (c_X2_howMany (l := l) (D := D) (b := b) (cI := cI) (cL := cL) hc61) (va_cwS 1 hts gX11_evenestLamp_X2_howMany rfl rfl rfl (by decide +kernel) ⟨Nat.le_of_ble_eq_true rfl, Nat.le_of_ble_eq_true rfl⟩) (gp_preS hKn hG) rfl rfl hl.1 rfl (lv_room (Nat.le_of_ble_eq_true rfl)) dX11_evenestLamp_61 ⟨Nat.le_of_ble_eq_true rfl, Nat.le_of_ble_eq_true rfl⟩) hS (fun H locs hG hS => ?_)
        refine lv_lload_n hx hb dX11_evenestLamp_64 rfl (lv_at hl 3 rfl) ?_
        refine lv_lload hx hb dX11_evenestLamp_65 (lv_at hl 0 rfl) ?_
        refine lv_ldc2 (v := (-1 : Int64)) hx hb hown (hts _ (List.mem_of_getElem? (i := 3) rfl)) dX11_evenestLamp_67 ?_
        refine lv_lxor hx hb dX11_evenestLamp_70 ?_
        refine lv_land hx hb dX11_evenestLamp_71 ?_
        obtain ⟨o72, hc72, hj43⟩ := gb_b hj43
        refine gp_callI (va_runS (As := [.long (v1 &&& (o52 ^^^ (-1 : Int64)))]) (rest := [.int o61]) ⟨hx, hb, hml, hown, hts⟩ (c_X2_howMany (l := l) (D := D) (b := b) (cI := cI) (cL := cL) hc72) (va_cwS 1 hts gX11_evenestLamp_X2_howMany rfl rfl rfl (by decide +kernel) ⟨Nat.le_of_ble_eq_true rfl, Nat.le_of_ble_eq_true rfl⟩) (gp_preS hKn hG) rfl rfl hl.1 rfl (lv_room (Nat.le_of_ble_eq_true rfl)) dX11_evenestLamp_72 ⟨Nat.le_of_ble_eq_true rfl, Nat.le_of_ble_eq_true rfl⟩) hS (fun H locs hG hS => ?_)
        refine va_mmin hx hb (hml.trans hl.1.symm) hown (hts _ (List.mem_of_getElem? (i := 4) rfl)) (hts _ (List.mem_of_getElem? (i := 5) rfl)) (hts _ (List.mem_of_getElem? (i := 6) rfl)) (hts _ (List.mem_of_getElem? (i := 7) rfl)) (Nat.le_of_ble_eq_true rfl) (Nat.le_of_ble_eq_true rfl) (Nat.le_of_ble_eq_true rfl) (Nat.le_of_ble_eq_true rfl) dX11_evenestLamp_75 ?_
        refine lv_istore (lv' := [(9, .int (if o72 < o61 then o72 else o61)), (7, .long o52), (6, .ref n43), (0, .ref v0), (1, .long v1), (3, .int v3), (4, .int v4), (5, .int v5)]) hx hb dX11_evenestLamp_78 hl (by decide) rfl (fun ls hl => ?_)
        refine lv_iload hx hb dX11_evenestLamp_80 (lv_at hl 0 rfl) ?_
        refine lv_iload hx hb dX11_evenestLamp_82 (lv_at hl 6 rfl) ?_
        refine lv_icmp_le (tgt := 94) hx hb dX11_evenestLamp_84 (by decide) (fun c84 => ?_) (fun c84 => ?_)
        · have hj43 := gb_t c84 hj43
          have hj43 := Option.some.inj hj43
          subst hj43
          exact (hJ43 H locs ls hG hS (lv_sub hl [3, 4, 5, 6, 7] rfl))
        · have hj43 := gb_f c84 hj43
          refine lv_iload hx hb dX11_evenestLamp_87 (lv_at hl 7 rfl) ?_
          refine lv_istore_n (lv' := [(3, .int v5), (9, .int (if o72 < o61 then o72 else o61)), (7, .long o52), (6, .ref n43), (0, .ref v0), (1, .long v1), (4, .int v4), (5, .int v5)]) hx hb dX11_evenestLamp_89 rfl hl (by decide) rfl (fun ls hl => ?_)
          refine lv_iload hx hb dX11_evenestLamp_90 (lv_at hl 1 rfl) ?_
          refine lv_istore (lv' := [(4, .int (if o72 < o61 then o72 else o61)), (3, .int v5), (9, .int (if o72 < o61 then o72 else o61)), (7, .long o52), (6, .ref n43), (0, .ref v0), (1, .long v1), (5, .int v5)]) hx hb dX11_evenestLamp_92 hl (by decide) rfl (fun ls hl => ?_)
          have hj43 := Option.some.inj hj43
          subst hj43
          exact (hJ43 H locs ls hG hS (lv_sub hl [5, 6, 1, 0, 7] rfl))
set_option maxHeartbeats 4000000 in
set_option maxRecDepth 100000 in
theorem c_X11_evenestLamp {v1 : Int64} {R : Int32} (hf : f_X11_evenestLamp gv h0 v1 = some R) : Met l yX11_evenestLamp wsX11_evenestLamp rm_X11_evenestLamp (va_Pc [.ref h0, .long v1] (gPre D b M (gW cI cL gv) (gTy cI cL))) (gQ D b (some (.int R)) M (gW cI cL gv)) 0 0 (gA b) := by
  refine gp_met (cc := cX11_evenestLamp) (maxL := 10) (ret := (some .int)) (by decide) rfl (Nat.le_of_ble_eq_true rfl) ?_
  intro p e s m below meth c X ls hG hl
  obtain ⟨H, hH0⟩ : ∃ H : Heap, H = s.heap := ⟨_, rfl⟩
  rw [← hH0] at hG ⊢
  have hS : va_S (gA b) s.heap H [] := by rw [hH0]; exact va_S.rf
  obtain ⟨locs, hlo⟩ : ∃ z : List Loc, z = [] := ⟨_, rfl⟩
  rw [← hlo] at hS ⊢
  unfold f_X11_evenestLamp at hf
  obtain ⟨hx, hb, hr, hml, hown, hts, hlocks, hKn, hBs⟩ := id X
  have hK := hKn.1
  have gclX10 : gcl [8] TX10 6 wsX11_evenestLamp := gcl_1 rfl (fun _ h => List.mem_cons_of_mem _ (List.mem_append_left _ (List.mem_append_left _ (List.mem_append_left _ (List.mem_append_left _ (List.mem_append_left _ (List.mem_append_left _ (List.mem_append_left _ (List.mem_append_right _ h)))))))))
  have gclX11 : gcl [9] TX11 8 wsX11_evenestLamp := gcl_1 rfl (fun _ h => List.mem_cons_of_mem _ (List.mem_append_left _ (List.mem_append_left _ (List.mem_append_left _ (List.mem_append_left _ (List.mem_append_left _ (List.mem_append_left _ (List.mem_append_left _ (List.mem_append_left _ (List.mem_append_right _ h))))))))))
  have hl : lv_has ls 10 [(0, .ref h0), (1, .long v1)] := hl
  refine lv_lload_n hx hb dX11_evenestLamp_0 rfl (lv_at hl 1 rfl) ?_
  refine lv_lconst (v := (0 : Int64)) hx hb dX11_evenestLamp_1 (by decide) ?_
  refine W.lcmp hx hb dX11_evenestLamp_2 ?_
  refine lv_if_ne (tgt := 9) hx hb dX11_evenestLamp_3 (by decide) (fun c3 => ?_) (fun c3 => ?_)
  · have hf := gb_f c3 hf
    refine lv_bipush (v := (-9 : Int32)) hx hb dX11_evenestLamp_9 (by decide) ?_
    refine lv_istore_n (lv' := [(3, .int (-9 : Int32)), (0, .ref h0), (1, .long v1)]) hx hb dX11_evenestLamp_11 rfl hl (by decide) rfl (fun ls hl => ?_)
    refine lv_iconst (v := (-1 : Int32)) hx hb dX11_evenestLamp_12 (by decide) ?_
    refine lv_istore (lv' := [(4, .int (-1 : Int32)), (3, .int (-9 : Int32)), (0, .ref h0), (1, .long v1)]) hx hb dX11_evenestLamp_13 hl (by decide) rfl (fun ls hl => ?_)
    refine lv_iconst (v := 0) hx hb dX11_evenestLamp_15 (by decide) ?_
    refine lv_istore (lv' := [(5, .int 0), (4, .int (-1 : Int32)), (3, .int (-9 : Int32)), (0, .ref h0), (1, .long v1)]) hx hb dX11_evenestLamp_16 hl (by decide) rfl (fun ls hl => ?_)
    refine w_X11_evenestLamp_18 X _ _ _ _ hf (fun x18_100 hf H locs ls hG hS hl => ?_) _ _ _ hG hS (lv_sub hl [3, 4, 2, 1, 0] rfl)
    · refine lv_iload_n hx hb dX11_evenestLamp_100 rfl (lv_at hl 0 rfl) ?_
      have hf := Option.some.inj hf
      subst hf
      exact gp_retI hx hb hr hlocks hG hS (Nat.le_of_ble_eq_true rfl) (Nat.le_of_ble_eq_true rfl) dX11_evenestLamp_101
  · have hf := gb_t c3 hf
    refine lv_bipush (v := (-9 : Int32)) hx hb dX11_evenestLamp_6 (by decide) ?_
    have hf := Option.some.inj hf
    subst hf
    exact gp_retI hx hb hr hlocks hG hS (Nat.le_of_ble_eq_true rfl) (Nat.le_of_ble_eq_true rfl) dX11_evenestLamp_8
-- J6_bitCount_0f7a4
abbrev rm_J6_bitCount_0f7a4 : Room := { frames := 0, cells := 0, slots := 0, locals := 0 }
set_option maxHeartbeats 4000000 in
set_option maxRecDepth 100000 in
theorem c_J6_bitCount_0f7a4 {v0 : Int32} {R : Int32} (hf : f_J6_bitCount_0f7a4 v0 = some R) : Met l yJ6_bitCount_0f7a4 wsJ6_bitCount_0f7a4 rm_J6_bitCount_0f7a4 (va_Pc [.int v0] (gPre D b M (gh) (gTy cI cL))) (gQ D b (some (.int R)) M (gh)) 0 0 (gA b) := by
  refine gp_met (cc := cJ6_bitCount_0f7a4) (maxL := 1) (ret := (some .int)) (by decide) rfl (Nat.le_of_ble_eq_true rfl) ?_
  intro p e s m below meth c X ls hG hl
  obtain ⟨H, hH0⟩ : ∃ H : Heap, H = s.heap := ⟨_, rfl⟩
  rw [← hH0] at hG ⊢
  have hS : va_S (gA b) s.heap H [] := by rw [hH0]; exact va_S.rf
  obtain ⟨locs, hlo⟩ : ∃ z : List Loc, z = [] := ⟨_, rfl⟩
  rw [← hlo] at hS ⊢
  unfold f_J6_bitCount_0f7a4 at hf
  obtain ⟨hx, hb, hr, hml, hown, hts, hlocks, hKn, hBs⟩ := id X
  have hK := hKn.1
  have hl : lv_has ls 1 [(0, .int v0)] := hl
  refine lv_iload_n hx hb dJ6_bitCount_0f7a4_0 rfl (lv_at hl 0 rfl) ?_
  refine lv_iload_n hx hb dJ6_bitCount_0f7a4_1 rfl (lv_at hl 0 rfl) ?_
  refine lv_iconst (v := 1) hx hb dJ6_bitCount_0f7a4_2 (by decide) ?_
  refine lv_iushr hx hb dJ6_bitCount_0f7a4_3 rfl ?_
  refine lv_ldcw (v := 1431655765) hx hb hown (hts _ (List.mem_of_getElem? (i := 1) rfl)) dJ6_bitCount_0f7a4_4 ?_
  refine lv_iand hx hb dJ6_bitCount_0f7a4_7 ?_
  refine lv_isub hx hb dJ6_bitCount_0f7a4_8 ?_
  refine lv_istore_n (lv' := [(0, .int (v0 - (((v0.toUInt32 >>> ((1 : Int32).toUInt32 &&& Int32.toUInt32 31)).toInt32) &&& 1431655765)))]) hx hb dJ6_bitCount_0f7a4_9 rfl hl (by decide) rfl (fun ls hl => ?_)
  refine lv_iload_n hx hb dJ6_bitCount_0f7a4_10 rfl (lv_at hl 0 rfl) ?_
  refine lv_ldcw (v := 858993459) hx hb hown (hts _ (List.mem_of_getElem? (i := 2) rfl)) dJ6_bitCount_0f7a4_11 ?_
  refine lv_iand hx hb dJ6_bitCount_0f7a4_14 ?_
  refine lv_iload_n hx hb dJ6_bitCount_0f7a4_15 rfl (lv_at hl 0 rfl) ?_
  refine lv_iconst (v := 2) hx hb dJ6_bitCount_0f7a4_16 (by decide) ?_
  refine lv_iushr hx hb dJ6_bitCount_0f7a4_17 rfl ?_
  refine lv_ldcw (v := 858993459) hx hb hown (hts _ (List.mem_of_getElem? (i := 2) rfl)) dJ6_bitCount_0f7a4_18 ?_
  refine lv_iand hx hb dJ6_bitCount_0f7a4_21 ?_
  refine lv_iadd hx hb dJ6_bitCount_0f7a4_22 ?_
  refine lv_istore_n (lv' := [(0, .int (((v0 - (((v0.toUInt32 >>> ((1 : Int32).toUInt32 &&& Int32.toUInt32 31)).toInt32) &&& 1431655765)) &&& 858993459) + ((((v0 - (((v0.toUInt32 >>> ((1 : Int32).toUInt32 &&& Int32.toUInt32 31)).toInt32) &&& 1431655765)).toUInt32 >>> ((2 : Int32).toUInt32 &&& Int32.toUInt32 31)).toInt32) &&& 858993459)))]) hx hb dJ6_bitCount_0f7a4_23 rfl hl (by decide) rfl (fun ls hl => ?_)
  refine lv_iload_n hx hb dJ6_bitCount_0f7a4_24 rfl (lv_at hl 0 rfl) ?_
  refine lv_iload_n hx hb dJ6_bitCount_0f7a4_25 rfl (lv_at hl 0 rfl) ?_
  refine lv_iconst (v := 4) hx hb dJ6_bitCount_0f7a4_26 (by decide) ?_
  refine lv_iushr hx hb dJ6_bitCount_0f7a4_27 rfl ?_
  refine lv_iadd hx hb dJ6_bitCount_0f7a4_28 ?_
  refine lv_ldcw (v := 252645135) hx hb hown (hts _ (List.mem_of_getElem? (i := 3) rfl)) dJ6_bitCount_0f7a4_29 ?_
  refine lv_iand hx hb dJ6_bitCount_0f7a4_32 ?_
  refine lv_istore_n (lv' := [(0, .int (((((v0 - (((v0.toUInt32 >>> ((1 : Int32).toUInt32 &&& Int32.toUInt32 31)).toInt32) &&& 1431655765)) &&& 858993459) + ((((v0 - (((v0.toUInt32 >>> ((1 : Int32).toUInt32 &&& Int32.toUInt32 31)).toInt32) &&& 1431655765)).toUInt32 >>> ((2 : Int32).toUInt32 &&& Int32.toUInt32 31)).toInt32) &&& 858993459)) + (((((v0 - (((v0.toUInt32 >>> ((1 : Int32).toUInt32 &&& Int32.toUInt32 31)).toInt32) &&& 1431655765)) &&& 858993459) + ((((v0 - (((v0.toUInt32 >>> ((1 : Int32).toUInt32 &&& Int32.toUInt32 31)).toInt32) &&& 1431655765)).toUInt32 >>> ((2 : Int32).toUInt32 &&& Int32.toUInt32 31)).toInt32) &&& 858993459)).toUInt32 >>> ((4 : Int32).toUInt32 &&& Int32.toUInt32 31)).toInt32)) &&& 252645135))]) hx hb dJ6_bitCount_0f7a4_33 rfl hl (by decide) rfl (fun ls hl => ?_)
  refine lv_iload_n hx hb dJ6_bitCount_0f7a4_34 rfl (lv_at hl 0 rfl) ?_
  refine lv_iload_n hx hb dJ6_bitCount_0f7a4_35 rfl (lv_at hl 0 rfl) ?_
  refine lv_bipush (v := 8) hx hb dJ6_bitCount_0f7a4_36 (by decide) ?_
  refine lv_iushr hx hb dJ6_bitCount_0f7a4_38 rfl ?_
  refine lv_iadd hx hb dJ6_bitCount_0f7a4_39 ?_
  refine lv_istore_n (lv' := [(0, .int ((((((v0 - (((v0.toUInt32 >>> ((1 : Int32).toUInt32 &&& Int32.toUInt32 31)).toInt32) &&& 1431655765)) &&& 858993459) + ((((v0 - (((v0.toUInt32 >>> ((1 : Int32).toUInt32 &&& Int32.toUInt32 31)).toInt32) &&& 1431655765)).toUInt32 >>> ((2 : Int32).toUInt32 &&& Int32.toUInt32 31)).toInt32) &&& 858993459)) + (((((v0 - (((v0.toUInt32 >>> ((1 : Int32).toUInt32 &&& Int32.toUInt32 31)).toInt32) &&& 1431655765)) &&& 858993459) + ((((v0 - (((v0.toUInt32 >>> ((1 : Int32).toUInt32 &&& Int32.toUInt32 31)).toInt32) &&& 1431655765)).toUInt32 >>> ((2 : Int32).toUInt32 &&& Int32.toUInt32 31)).toInt32) &&& 858993459)).toUInt32 >>> ((4 : Int32).toUInt32 &&& Int32.toUInt32 31)).toInt32)) &&& 252645135) + (((((((v0 - (((v0.toUInt32 >>> ((1 : Int32).toUInt32 &&& Int32.toUInt32 31)).toInt32) &&& 1431655765)) &&& 858993459) + ((((v0 - (((v0.toUInt32 >>> ((1 : Int32).toUInt32 &&& Int32.toUInt32 31)).toInt32) &&& 1431655765)).toUInt32 >>> ((2 : Int32).toUInt32 &&& Int32.toUInt32 31)).toInt32) &&& 858993459)) + (((((v0 - (((v0.toUInt32 >>> ((1 : Int32).toUInt32 &&& Int32.toUInt32 31)).toInt32) &&& 1431655765)) &&& 858993459) + ((((v0 - (((v0.toUInt32 >>> ((1 : Int32).toUInt32 &&& Int32.toUInt32 31)).toInt32) &&& 1431655765)).toUInt32 >>> ((2 : Int32).toUInt32 &&& Int32.toUInt32 31)).toInt32) &&& 858993459)).toUInt32 >>> ((4 : Int32).toUInt32 &&& Int32.toUInt32 31)).toInt32)) &&& 252645135).toUInt32 >>> ((8 : Int32).toUInt32 &&& Int32.toUInt32 31)).toInt32)))]) hx hb dJ6_bitCount_0f7a4_40 rfl hl (by decide) rfl (fun ls hl => ?_)
  refine lv_iload_n hx hb dJ6_bitCount_0f7a4_41 rfl (lv_at hl 0 rfl) ?_
  refine lv_iload_n hx hb dJ6_bitCount_0f7a4_42 rfl (lv_at hl 0 rfl) ?_
  refine lv_bipush (v := 16) hx hb dJ6_bitCount_0f7a4_43 (by decide) ?_
  refine lv_iushr hx hb dJ6_bitCount_0f7a4_45 rfl ?_
  refine lv_iadd hx hb dJ6_bitCount_0f7a4_46 ?_
  refine lv_istore_n (lv' := [(0, .int (((((((v0 - (((v0.toUInt32 >>> ((1 : Int32).toUInt32 &&& Int32.toUInt32 31)).toInt32) &&& 1431655765)) &&& 858993459) + ((((v0 - (((v0.toUInt32 >>> ((1 : Int32).toUInt32 &&& Int32.toUInt32 31)).toInt32) &&& 1431655765)).toUInt32 >>> ((2 : Int32).toUInt32 &&& Int32.toUInt32 31)).toInt32) &&& 858993459)) + (((((v0 - (((v0.toUInt32 >>> ((1 : Int32).toUInt32 &&& Int32.toUInt32 31)).toInt32) &&& 1431655765)) &&& 858993459) + ((((v0 - (((v0.toUInt32 >>> ((1 : Int32).toUInt32 &&& Int32.toUInt32 31)).toInt32) &&& 1431655765)).toUInt32 >>> ((2 : Int32).toUInt32 &&& Int32.toUInt32 31)).toInt32) &&& 858993459)).toUInt32 >>> ((4 : Int32).toUInt32 &&& Int32.toUInt32 31)).toInt32)) &&& 252645135) + (((((((v0 - (((v0.toUInt32 >>> ((1 : Int32).toUInt32 &&& Int32.toUInt32 31)).toInt32) &&& 1431655765)) &&& 858993459) + ((((v0 - (((v0.toUInt32 >>> ((1 : Int32).toUInt32 &&& Int32.toUInt32 31)).toInt32) &&& 1431655765)).toUInt32 >>> ((2 : Int32).toUInt32 &&& Int32.toUInt32 31)).toInt32) &&& 858993459)) + (((((v0 - (((v0.toUInt32 >>> ((1 : Int32).toUInt32 &&& Int32.toUInt32 31)).toInt32) &&& 1431655765)) &&& 858993459) + ((((v0 - (((v0.toUInt32 >>> ((1 : Int32).toUInt32 &&& Int32.toUInt32 31)).toInt32) &&& 1431655765)).toUInt32 >>> ((2 : Int32).toUInt32 &&& Int32.toUInt32 31)).toInt32) &&& 858993459)).toUInt32 >>> ((4 : Int32).toUInt32 &&& Int32.toUInt32 31)).toInt32)) &&& 252645135).toUInt32 >>> ((8 : Int32).toUInt32 &&& Int32.toUInt32 31)).toInt32)) + ((((((((v0 - (((v0.toUInt32 >>> ((1 : Int32).toUInt32 &&& Int32.toUInt32 31)).toInt32) &&& 1431655765)) &&& 858993459) + ((((v0 - (((v0.toUInt32 >>> ((1 : Int32).toUInt32 &&& Int32.toUInt32 31)).toInt32) &&& 1431655765)).toUInt32 >>> ((2 : Int32).toUInt32 &&& Int32.toUInt32 31)).toInt32) &&& 858993459)) + (((((v0 - (((v0.toUInt32 >>> ((1 : Int32).toUInt32 &&& Int32.toUInt32 31)).toInt32) &&& 1431655765)) &&& 858993459) + ((((v0 - (((v0.toUInt32 >>> ((1 : Int32).toUInt32 &&& Int32.toUInt32 31)).toInt32) &&& 1431655765)).toUInt32 >>> ((2 : Int32).toUInt32 &&& Int32.toUInt32 31)).toInt32) &&& 858993459)).toUInt32 >>> ((4 : Int32).toUInt32 &&& Int32.toUInt32 31)).toInt32)) &&& 252645135) + (((((((v0 - (((v0.toUInt32 >>> ((1 : Int32).toUInt32 &&& Int32.toUInt32 31)).toInt32) &&& 1431655765)) &&& 858993459) + ((((v0 - (((v0.toUInt32 >>> ((1 : Int32).toUInt32 &&& Int32.toUInt32 31)).toInt32) &&& 1431655765)).toUInt32 >>> ((2 : Int32).toUInt32 &&& Int32.toUInt32 31)).toInt32) &&& 858993459)) + (((((v0 - (((v0.toUInt32 >>> ((1 : Int32).toUInt32 &&& Int32.toUInt32 31)).toInt32) &&& 1431655765)) &&& 858993459) + ((((v0 - (((v0.toUInt32 >>> ((1 : Int32).toUInt32 &&& Int32.toUInt32 31)).toInt32) &&& 1431655765)).toUInt32 >>> ((2 : Int32).toUInt32 &&& Int32.toUInt32 31)).toInt32) &&& 858993459)).toUInt32 >>> ((4 : Int32).toUInt32 &&& Int32.toUInt32 31)).toInt32)) &&& 252645135).toUInt32 >>> ((8 : Int32).toUInt32 &&& Int32.toUInt32 31)).toInt32)).toUInt32 >>> ((16 : Int32).toUInt32 &&& Int32.toUInt32 31)).toInt32)))]) hx hb dJ6_bitCount_0f7a4_47 rfl hl (by decide) rfl (fun ls hl => ?_)
  refine lv_iload_n hx hb dJ6_bitCount_0f7a4_48 rfl (lv_at hl 0 rfl) ?_
  refine lv_bipush (v := 63) hx hb dJ6_bitCount_0f7a4_49 (by decide) ?_
  refine lv_iand hx hb dJ6_bitCount_0f7a4_51 ?_
  have hf := Option.some.inj hf
  subst hf
  exact gp_retI hx hb hr hlocks hG hS (Nat.le_of_ble_eq_true rfl) (Nat.le_of_ble_eq_true rfl) dJ6_bitCount_0f7a4_52
end
