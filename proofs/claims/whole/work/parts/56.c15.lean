section
variable {p : Program} {l : Launch} {e : Env} {s : State} {m : MethodId} {args : Array Value} {below : List Frame} {meth : Method} {c : Code} {D : va_G} {b : GB} {M : Nat} {cI cL : ClassId} {h0 : Nat} {gv : Nat → GV} {gh : Nat → va_E} {Q : State → Prop}
-- X11_light
abbrev rm_X11_light : Room := { frames := 1, cells := 0, slots := 0, locals := 21 }
set_option maxHeartbeats 4000000 in
set_option maxRecDepth 100000 in
theorem c_X11_light {v1 : Int32} {v2 : Int32} {R : Int32 × (Nat → GV)} (hf : f_X11_light gv h0 v1 v2 = some R) : Met l yX11_light wsX11_light rm_X11_light (va_Pc [.ref h0, .int v1, .int v2] (gPre D b M (gW cI cL gv) (gTy cI cL))) (gQ D b (some (.int R.1)) M (gW cI cL R.2)) 0 0 (gA b) := by
  refine gp_met (cc := cX11_light) (maxL := 5) (ret := (some .int)) (by decide) rfl (Nat.le_of_ble_eq_true rfl) ?_
  intro p e s m below meth c X ls hG hl
  obtain ⟨H, hH0⟩ : ∃ H : Heap, H = s.heap := ⟨_, rfl⟩
  rw [← hH0] at hG ⊢
  have hS : va_S (gA b) s.heap H [] := by rw [hH0]; exact va_S.rf
  obtain ⟨locs, hlo⟩ : ∃ z : List Loc, z = [] := ⟨_, rfl⟩
  rw [← hlo] at hS ⊢
  unfold f_X11_light at hf
  obtain ⟨hx, hb, hr, hml, hown, hts, hlocks, hKn, hBs⟩ := id X
  have hK := hKn.1
  have gclL : gcl gLC TX5 5 wsX11_light := gcl_L (fun _ h => List.mem_cons_of_mem _ (List.mem_append_left _ (List.mem_append_left _ (List.mem_append_left _ (List.mem_append_left _ (List.mem_append_left _ (List.mem_append_left _ (List.mem_append_left _ (List.mem_append_right _ h))))))))) (fun _ h => List.mem_cons_of_mem _ (List.mem_append_left _ (List.mem_append_left _ (List.mem_append_left _ (List.mem_append_left _ (List.mem_append_left _ (List.mem_append_left _ (List.mem_append_right _ h)))))))) (fun _ h => List.mem_cons_of_mem _ (List.mem_append_left _ (List.mem_append_left _ (List.mem_append_left _ (List.mem_append_left _ (List.mem_append_left _ (List.mem_append_right _ h))))))) (fun _ h => List.mem_cons_of_mem _ (List.mem_append_left _ (List.mem_append_left _ (List.mem_append_left _ (List.mem_append_left _ (List.mem_append_right _ h)))))) (fun _ h => List.mem_cons_of_mem _ (List.mem_append_left _ (List.mem_append_left _ (List.mem_append_left _ (List.mem_append_right _ h))))) (fun _ h => List.mem_cons_of_mem _ (List.mem_append_left _ (List.mem_append_left _ (List.mem_append_right _ h)))) (fun _ h => List.mem_cons_of_mem _ (List.mem_append_left _ (List.mem_append_right _ h)))
  have gclX11 : gcl [9] TX11 8 wsX11_light := gcl_1 rfl (fun _ h => List.mem_cons_of_mem _ (List.mem_append_left _ (List.mem_append_left _ (List.mem_append_left _ (List.mem_append_left _ (List.mem_append_left _ (List.mem_append_left _ (List.mem_append_left _ (List.mem_append_left _ (List.mem_append_right _ h))))))))))
  have hl : lv_has ls 5 [(0, .ref h0), (1, .int v1), (2, .int v2)] := hl
  refine lv_aload_n hx hb dX11_light_0 rfl (lv_at hl 0 rfl) ?_
  obtain ⟨t1, ht1, hf⟩ := gb_b hf
  refine cp_get (v := va_rf t1) hx hb hts gclX11 hown hK hG 4 (gfR_s ht1) (by decide) (hts _ (List.mem_of_getElem? (i := 1) rfl)) (fun _ h9 => h9) dX11_light_1 ?_
  refine lv_iload_n hx hb dX11_light_4 rfl (lv_at hl 1 rfl) ?_
  obtain ⟨q5, hq5, hf⟩ := gb_b hf
  refine W.eq (g2 := F0 m 5 ls [.int v1, .ref q5]) (congrArg (fun z => F0 m 5 ls [.int v1, va_rf z]) hq5) ?_
  obtain ⟨o5, hc5, hf⟩ := gb_b hf
  obtain ⟨oc5, hcO5, hc5⟩ := gb_b hc5
  obtain ⟨hcg5, hci5⟩ := gfO_s hcO5
  have hci5 := List.mem_singleton.mp hci5
  obtain ⟨kc5, fc5⟩ := oc5
  dsimp only at hci5 hcg5
  subst hci5
  refine gp_callR (va_runV (As := [.int v1]) (rest := []) ⟨hx, hb, hml, hown, hts⟩ (c_X10_lampAt (l := l) (D := D) (b := b) (cI := cI) (cL := cL) hc5) (cwV 1 hts gX11_light_X10_lampAt rfl rfl rfl (by decide +kernel) ⟨Nat.le_of_ble_eq_true rfl, Nat.le_of_ble_eq_true rfl⟩) (gp_preV hKn hG (cp_obj hcg5) rfl) rfl rfl hl.1 rfl (lv_room (Nat.le_of_ble_eq_true rfl)) dX11_light_5 ⟨Nat.le_of_ble_eq_true rfl, Nat.le_of_ble_eq_true rfl⟩) hS (fun H locs hG hS => ?_)
  refine gp_astore_n (lv' := [(3, va_rf o5), (0, .ref h0), (1, .int v1), (2, .int v2)]) hx hb dX11_light_8 rfl hl (by decide) rfl (fun ls hl => ?_)
  refine gp_aload_n (x := o5) hx hb dX11_light_9 rfl (lv_at hl 0 rfl) ?_
  refine gp_ifnonnull (x := o5) (tgt := 19) hx hb dX11_light_10 (by decide) ?_ ?_
  · intro n10 e10
    rw [e10] at hl
    rw [e10] at hf
    dsimp only at hf
    refine lv_iload_n hx hb dX11_light_19 rfl (lv_at hl 3 rfl) ?_
    refine lv_if_eq (tgt := 35) hx hb dX11_light_20 (by decide) (fun c20 => ?_) (fun c20 => ?_)
    · have hf := gb_t c20 hf
      refine lv_aload_n hx hb dX11_light_35 rfl (lv_at hl 0 rfl) ?_
      obtain ⟨t36, ht36, hf⟩ := gb_b hf
      refine cp_get (v := .int t36) hx hb hts gclL hown hK hG 2 (gfI_s ht36) (by decide) (hts _ (List.mem_of_getElem? (i := 2) rfl)) (fun _ h9 => h9) dX11_light_36 ?_
      obtain ⟨o39, hc39, hf⟩ := gb_b hf
      refine gp_callI (va_runS (As := [.int t36]) (rest := []) ⟨hx, hb, hml, hown, hts⟩ (c_X11_yes (l := l) (D := D) (b := b) (cI := cI) (cL := cL) hc39) (va_cwS 1 hts gX11_light_X11_yes rfl rfl rfl (by decide +kernel) ⟨Nat.le_of_ble_eq_true rfl, Nat.le_of_ble_eq_true rfl⟩) (gp_preS hKn hG) rfl rfl hl.1 rfl (lv_room (Nat.le_of_ble_eq_true rfl)) dX11_light_39 ⟨Nat.le_of_ble_eq_true rfl, Nat.le_of_ble_eq_true rfl⟩) hS (fun H locs hG hS => ?_)
      refine lv_istore (lv' := [(4, .int o39), (3, .ref n10), (0, .ref h0), (1, .int v1), (2, .int v2)]) hx hb dX11_light_42 hl (by decide) rfl (fun ls hl => ?_)
      refine lv_aload_n hx hb dX11_light_44 rfl (lv_at hl 1 rfl) ?_
      refine lv_iload_n hx hb dX11_light_45 rfl (lv_at hl 4 rfl) ?_
      refine lv_iconst (v := 1) hx hb dX11_light_46 (by decide) ?_
      have hJ47 : ∀ Z : Int32, Z = (if v2 = 1 then 1 else 0) → W p l e rm_X11_light s m [.ref h0, .int v1, .int v2].toArray below meth c H locs 0 0 (MQ below (gQ D b (some (.int R.1)) M (gW cI cL R.2)) [.ref h0, .int v1, .int v2].toArray s 0 0 (gA b)) (F0 m 55 ls (.int Z :: [.ref n10])) := by
        intro Z hZ
        subst hZ
        obtain ⟨z55, hf⟩ := gb_zb hf
        obtain ⟨g55, ht55, hf⟩ := gb_b hf
        refine cp_put (tyk := .boolean) hx hb hts gclL tyX5 tyX5_ok nmX5 hown hK hG hS 2 ht55 (by decide) (hts _ (List.mem_of_getElem? (i := 2) rfl)) (fun _ h9 => h9) rfl (by decide +kernel) (gfit_z z55).1 (gfit_z z55).2 dX11_light_55 (fun H locs hG hS => ?_)
        refine lv_iload hx hb dX11_light_58 (lv_at hl 0 rfl) ?_
        have hf := Option.some.inj hf
        subst hf
        exact gp_retI hx hb hr hlocks hG hS (Nat.le_of_ble_eq_true rfl) (Nat.le_of_ble_eq_true rfl) dX11_light_60
      refine lv_icmp_ne (tgt := 54) hx hb dX11_light_47 (by decide) (fun c47 => ?_) (fun c47 => ?_)
      · rw [if_neg c47] at hJ47
        refine lv_iconst (v := 0) hx hb dX11_light_54 (by decide) ?_
        exact hJ47 _ rfl
      · rw [if_pos c47] at hJ47
        refine lv_iconst (v := 1) hx hb dX11_light_50 (by decide) ?_
        refine lv_goto (tgt := 55) hx hb dX11_light_51 (by decide) ?_
        exact hJ47 _ rfl
    · have hf := gb_f c20 hf
      refine lv_iload_n hx hb dX11_light_23 rfl (lv_at hl 3 rfl) ?_
      refine lv_iconst (v := 1) hx hb dX11_light_24 (by decide) ?_
      refine lv_icmp_eq (tgt := 35) hx hb dX11_light_25 (by decide) (fun c25 => ?_) (fun c25 => ?_)
      · have hf := gb_t c25 hf
        refine lv_aload_n hx hb dX11_light_35 rfl (lv_at hl 0 rfl) ?_
        obtain ⟨t36, ht36, hf⟩ := gb_b hf
        refine cp_get (v := .int t36) hx hb hts gclL hown hK hG 2 (gfI_s ht36) (by decide) (hts _ (List.mem_of_getElem? (i := 2) rfl)) (fun _ h9 => h9) dX11_light_36 ?_
        obtain ⟨o39, hc39, hf⟩ := gb_b hf
        refine gp_callI (va_runS (As := [.int t36]) (rest := []) ⟨hx, hb, hml, hown, hts⟩ (c_X11_yes (l := l) (D := D) (b := b) (cI := cI) (cL := cL) hc39) (va_cwS 1 hts gX11_light_X11_yes rfl rfl rfl (by decide +kernel) ⟨Nat.le_of_ble_eq_true rfl, Nat.le_of_ble_eq_true rfl⟩) (gp_preS hKn hG) rfl rfl hl.1 rfl (lv_room (Nat.le_of_ble_eq_true rfl)) dX11_light_39 ⟨Nat.le_of_ble_eq_true rfl, Nat.le_of_ble_eq_true rfl⟩) hS (fun H locs hG hS => ?_)
        refine lv_istore (lv' := [(4, .int o39), (3, .ref n10), (0, .ref h0), (1, .int v1), (2, .int v2)]) hx hb dX11_light_42 hl (by decide) rfl (fun ls hl => ?_)
        refine lv_aload_n hx hb dX11_light_44 rfl (lv_at hl 1 rfl) ?_
        refine lv_iload_n hx hb dX11_light_45 rfl (lv_at hl 4 rfl) ?_
        refine lv_iconst (v := 1) hx hb dX11_light_46 (by decide) ?_
        have hJ47 : ∀ Z : Int32, Z = (if v2 = 1 then 1 else 0) → W p l e rm_X11_light s m [.ref h0, .int v1, .int v2].toArray below meth c H locs 0 0 (MQ below (gQ D b (some (.int R.1)) M (gW cI cL R.2)) [.ref h0, .int v1, .int v2].toArray s 0 0 (gA b)) (F0 m 55 ls (.int Z :: [.ref n10])) := by
          intro Z hZ
          subst hZ
          obtain ⟨z55, hf⟩ := gb_zb hf
          obtain ⟨g55, ht55, hf⟩ := gb_b hf
          refine cp_put (tyk := .boolean) hx hb hts gclL tyX5 tyX5_ok nmX5 hown hK hG hS 2 ht55 (by decide) (hts _ (List.mem_of_getElem? (i := 2) rfl)) (fun _ h9 => h9) rfl (by decide +kernel) (gfit_z z55).1 (gfit_z z55).2 dX11_light_55 (fun H locs hG hS => ?_)
          refine lv_iload hx hb dX11_light_58 (lv_at hl 0 rfl) ?_
          have hf := Option.some.inj hf
          subst hf
          exact gp_retI hx hb hr hlocks hG hS (Nat.le_of_ble_eq_true rfl) (Nat.le_of_ble_eq_true rfl) dX11_light_60
        refine lv_icmp_ne (tgt := 54) hx hb dX11_light_47 (by decide) (fun c47 => ?_) (fun c47 => ?_)
        · rw [if_neg c47] at hJ47
          refine lv_iconst (v := 0) hx hb dX11_light_54 (by decide) ?_
          exact hJ47 _ rfl
        · rw [if_pos c47] at hJ47
          refine lv_iconst (v := 1) hx hb dX11_light_50 (by decide) ?_
          refine lv_goto (tgt := 55) hx hb dX11_light_51 (by decide) ?_
          exact hJ47 _ rfl
      · have hf := gb_f c25 hf
        refine lv_aload_n hx hb dX11_light_28 rfl (lv_at hl 1 rfl) ?_
        refine lv_bipush (v := (-2 : Int32)) hx hb dX11_light_29 (by decide) ?_
        obtain ⟨o31, hc31, hf⟩ := gb_b hf
        obtain ⟨oc31, hcO31, hc31⟩ := gb_b hc31
        obtain ⟨hcg31, hci31⟩ := gfO_s hcO31
        have hci31 := List.mem_singleton.mp hci31
        obtain ⟨kc31, fc31⟩ := oc31
        dsimp only at hci31 hcg31
        subst hci31
        refine gp_callI (va_runV (As := [.int (-2 : Int32)]) (rest := []) ⟨hx, hb, hml, hown, hts⟩ (c_X11_refuse (l := l) (D := D) (b := b) (cI := cI) (cL := cL) hc31) (cwV 1 hts gX11_light_X11_refuse rfl rfl rfl (by decide +kernel) ⟨Nat.le_of_ble_eq_true rfl, Nat.le_of_ble_eq_true rfl⟩) (gp_preV hKn hG (cp_obj hcg31) rfl) rfl rfl hl.1 rfl (lv_room (Nat.le_of_ble_eq_true rfl)) dX11_light_31 ⟨Nat.le_of_ble_eq_true rfl, Nat.le_of_ble_eq_true rfl⟩) hS (fun H locs hG hS => ?_)
        have hf := Option.some.inj hf
        subst hf
        exact gp_retI hx hb hr hlocks hG hS (Nat.le_of_ble_eq_true rfl) (Nat.le_of_ble_eq_true rfl) dX11_light_34
  · intro e10
    rw [e10] at hl
    rw [e10] at hf
    dsimp only at hf
    refine lv_aload_n hx hb dX11_light_13 rfl (lv_at hl 1 rfl) ?_
    refine lv_iconst (v := (-1 : Int32)) hx hb dX11_light_14 (by decide) ?_
    obtain ⟨o15, hc15, hf⟩ := gb_b hf
    obtain ⟨oc15, hcO15, hc15⟩ := gb_b hc15
    obtain ⟨hcg15, hci15⟩ := gfO_s hcO15
    have hci15 := List.mem_singleton.mp hci15
    obtain ⟨kc15, fc15⟩ := oc15
    dsimp only at hci15 hcg15
    subst hci15
    refine gp_callI (va_runV (As := [.int (-1 : Int32)]) (rest := []) ⟨hx, hb, hml, hown, hts⟩ (c_X11_refuse (l := l) (D := D) (b := b) (cI := cI) (cL := cL) hc15) (cwV 1 hts gX11_light_X11_refuse rfl rfl rfl (by decide +kernel) ⟨Nat.le_of_ble_eq_true rfl, Nat.le_of_ble_eq_true rfl⟩) (gp_preV hKn hG (cp_obj hcg15) rfl) rfl rfl hl.1 rfl (lv_room (Nat.le_of_ble_eq_true rfl)) dX11_light_15 ⟨Nat.le_of_ble_eq_true rfl, Nat.le_of_ble_eq_true rfl⟩) hS (fun H locs hG hS => ?_)
    have hf := Option.some.inj hf
    subst hf
    exact gp_retI hx hb hr hlocks hG hS (Nat.le_of_ble_eq_true rfl) (Nat.le_of_ble_eq_true rfl) dX11_light_18
-- X11_lights
abbrev rm_X11_lights : Room := { frames := 3, cells := 0, slots := 0, locals := 74 }
set_option maxHeartbeats 4000000 in
set_option maxRecDepth 100000 in
theorem c_X11_lights {v1 : Int32} {v2 : Int32} {R : Int32 × (Nat → GV)} (hf : f_X11_lights gv h0 v1 v2 = some R) : Met l yX11_lights wsX11_lights rm_X11_lights (va_Pc [.ref h0, .int v1, .int v2] (gPre D b M (gW cI cL gv) (gTy cI cL))) (gQ D b (some (.int R.1)) M (gW cI cL R.2)) 0 0 (gA b) := by
  refine gp_met (cc := cX11_lights) (maxL := 4) (ret := (some .int)) (by decide) rfl (Nat.le_of_ble_eq_true rfl) ?_
  intro p e s m below meth c X ls hG hl
  obtain ⟨H, hH0⟩ : ∃ H : Heap, H = s.heap := ⟨_, rfl⟩
  rw [← hH0] at hG ⊢
  have hS : va_S (gA b) s.heap H [] := by rw [hH0]; exact va_S.rf
  obtain ⟨locs, hlo⟩ : ∃ z : List Loc, z = [] := ⟨_, rfl⟩
  rw [← hlo] at hS ⊢
  unfold f_X11_lights at hf
  obtain ⟨hx, hb, hr, hml, hown, hts, hlocks, hKn, hBs⟩ := id X
  have hK := hKn.1
  have gclX11 : gcl [9] TX11 8 wsX11_lights := gcl_1 rfl (fun _ h => List.mem_cons_of_mem _ (List.mem_append_left _ (List.mem_append_left _ (List.mem_append_left _ (List.mem_append_left _ (List.mem_append_left _ (List.mem_append_left _ (List.mem_append_left _ (List.mem_append_left _ (List.mem_append_right _ h))))))))))
  have hl : lv_has ls 4 [(0, .ref h0), (1, .int v1), (2, .int v2)] := hl
  refine lv_aload_n hx hb dX11_lights_0 rfl (lv_at hl 0 rfl) ?_
  obtain ⟨t1, ht1, hf⟩ := gb_b hf
  refine cp_get (v := va_rf t1) hx hb hts gclX11 hown hK hG 4 (gfR_s ht1) (by decide) (hts _ (List.mem_of_getElem? (i := 1) rfl)) (fun _ h9 => h9) dX11_lights_1 ?_
  refine lv_iload_n hx hb dX11_lights_4 rfl (lv_at hl 1 rfl) ?_
  obtain ⟨q5, hq5, hf⟩ := gb_b hf
  refine W.eq (g2 := F0 m 5 ls [.int v1, .ref q5]) (congrArg (fun z => F0 m 5 ls [.int v1, va_rf z]) hq5) ?_
  obtain ⟨o5, hc5, hf⟩ := gb_b hf
  obtain ⟨oc5, hcO5, hc5⟩ := gb_b hc5
  obtain ⟨hcg5, hci5⟩ := gfO_s hcO5
  have hci5 := List.mem_singleton.mp hci5
  obtain ⟨kc5, fc5⟩ := oc5
  dsimp only at hci5 hcg5
  subst hci5
  refine gp_callR (va_runV (As := [.int v1]) (rest := []) ⟨hx, hb, hml, hown, hts⟩ (c_X10_lampAt (l := l) (D := D) (b := b) (cI := cI) (cL := cL) hc5) (cwV 1 hts gX11_lights_X10_lampAt rfl rfl rfl (by decide +kernel) ⟨Nat.le_of_ble_eq_true rfl, Nat.le_of_ble_eq_true rfl⟩) (gp_preV hKn hG (cp_obj hcg5) rfl) rfl rfl hl.1 rfl (lv_room (Nat.le_of_ble_eq_true rfl)) dX11_lights_5 ⟨Nat.le_of_ble_eq_true rfl, Nat.le_of_ble_eq_true rfl⟩) hS (fun H locs hG hS => ?_)
  refine gp_astore_n (lv' := [(3, va_rf o5), (0, .ref h0), (1, .int v1), (2, .int v2)]) hx hb dX11_lights_8 rfl hl (by decide) rfl (fun ls hl => ?_)
  refine gp_aload_n (x := o5) hx hb dX11_lights_9 rfl (lv_at hl 0 rfl) ?_
  refine gp_ifnull (x := o5) (tgt := 20) hx hb dX11_lights_10 (by decide) ?_ ?_
  · intro e10
    rw [e10] at hl
    rw [e10] at hf
    dsimp only at hf
    refine lv_aload_n hx hb dX11_lights_20 rfl (lv_at hl 1 rfl) ?_
    refine lv_iconst (v := (-1 : Int32)) hx hb dX11_lights_21 (by decide) ?_
    obtain ⟨o22, hc22, hf⟩ := gb_b hf
    obtain ⟨oc22, hcO22, hc22⟩ := gb_b hc22
    obtain ⟨hcg22, hci22⟩ := gfO_s hcO22
    have hci22 := List.mem_singleton.mp hci22
    obtain ⟨kc22, fc22⟩ := oc22
    dsimp only at hci22 hcg22
    subst hci22
    refine gp_callI (va_runV (As := [.int (-1 : Int32)]) (rest := []) ⟨hx, hb, hml, hown, hts⟩ (c_X11_refuse (l := l) (D := D) (b := b) (cI := cI) (cL := cL) hc22) (cwV 1 hts gX11_lights_X11_refuse rfl rfl rfl (by decide +kernel) ⟨Nat.le_of_ble_eq_true rfl, Nat.le_of_ble_eq_true rfl⟩) (gp_preV hKn hG (cp_obj hcg22) rfl) rfl rfl hl.1 rfl (lv_room (Nat.le_of_ble_eq_true rfl)) dX11_lights_22 ⟨Nat.le_of_ble_eq_true rfl, Nat.le_of_ble_eq_true rfl⟩) hS (fun H locs hG hS => ?_)
    have hf := Option.some.inj hf
    subst hf
    exact gp_retI hx hb hr hlocks hG hS (Nat.le_of_ble_eq_true rfl) (Nat.le_of_ble_eq_true rfl) dX11_lights_25
  · intro n10 e10
    rw [e10] at hl
    rw [e10] at hf
    dsimp only at hf
    refine lv_iload_n hx hb dX11_lights_13 rfl (lv_at hl 3 rfl) ?_
    obtain ⟨o14, hc14, hf⟩ := gb_b hf
    refine gp_callI (va_runS (As := [.int v2]) (rest := []) ⟨hx, hb, hml, hown, hts⟩ (c_X2_isOne (l := l) (D := D) (b := b) (cI := cI) (cL := cL) hc14) (va_cwS 1 hts gX11_lights_X2_isOne rfl rfl rfl (by decide +kernel) ⟨Nat.le_of_ble_eq_true rfl, Nat.le_of_ble_eq_true rfl⟩) (gp_preS hKn hG) rfl rfl hl.1 rfl (lv_room (Nat.le_of_ble_eq_true rfl)) dX11_lights_14 ⟨Nat.le_of_ble_eq_true rfl, Nat.le_of_ble_eq_true rfl⟩) hS (fun H locs hG hS => ?_)
    refine lv_if_ne (tgt := 26) hx hb dX11_lights_17 (by decide) (fun c17 => ?_) (fun c17 => ?_)
    · have hf := gb_f c17 hf
      refine lv_aload_n hx hb dX11_lights_26 rfl (lv_at hl 0 rfl) ?_
      refine lv_aload_n hx hb dX11_lights_27 rfl (lv_at hl 1 rfl) ?_
      obtain ⟨t28, ht28, hf⟩ := gb_b hf
      refine cp_get (v := va_rf t28) hx hb hts gclX11 hown hK hG 4 (gfR_s ht28) (by decide) (hts _ (List.mem_of_getElem? (i := 1) rfl)) (fun _ h9 => h9) dX11_lights_28 ?_
      obtain ⟨o31, hc31, hf⟩ := gb_b hf
      have hrun31 : va_Run p l e rm_X11_lights s m [.ref h0, .int v1, .int v2].toArray below meth c H locs 0 0 0 0 (F0 m 31 ls ([va_rf t28].reverse ++ .ref n10 :: [])) [] (gQ D b (some (.long o31)) M (gW cI cL gv) (Value.ref n10 :: [va_rf t28]).toArray) (gA b) := by
        obtain ⟨oc, hcO, hc31⟩ := gb_b hc31
        obtain ⟨hcg, hci⟩ := gfO_s hcO
        obtain ⟨kc, fc⟩ := oc
        dsimp only at hci hcg hc31
        rcases gLC_7 hci with rfl | rfl | rfl | rfl | rfl | rfl | rfl
        · exact va_runU (As := [va_rf t28]) (rest := []) ⟨hx, hb, hml, hown, hts⟩ (c_X5_glow (l := l) (D := D) (b := b) (cI := cI) (cL := cL) hc31) (va_cwU 1 hts gX11_lights_X5_glow_u108X0 rfl rfl rfl rfl (by decide +kernel) ⟨Nat.le_of_ble_eq_true rfl, Nat.le_of_ble_eq_true rfl⟩) (gp_preV hKn hG (cp_obj hcg) rfl) rfl rfl hl.1 rfl (lv_room (Nat.le_of_ble_eq_true rfl)) dX11_lights_31 ⟨Nat.le_of_ble_eq_true rfl, Nat.le_of_ble_eq_true rfl⟩
        · exact va_runU (As := [va_rf t28]) (rest := []) ⟨hx, hb, hml, hown, hts⟩ (c_X5_glow (l := l) (D := D) (b := b) (cI := cI) (cL := cL) hc31) (va_cwU 1 hts gX11_lights_X5_glow_u108X1 rfl rfl rfl rfl (by decide +kernel) ⟨Nat.le_of_ble_eq_true rfl, Nat.le_of_ble_eq_true rfl⟩) (gp_preV hKn hG (cp_obj hcg) rfl) rfl rfl hl.1 rfl (lv_room (Nat.le_of_ble_eq_true rfl)) dX11_lights_31 ⟨Nat.le_of_ble_eq_true rfl, Nat.le_of_ble_eq_true rfl⟩
        · exact va_runU (As := [va_rf t28]) (rest := []) ⟨hx, hb, hml, hown, hts⟩ (c_X5_glow (l := l) (D := D) (b := b) (cI := cI) (cL := cL) hc31) (va_cwU 1 hts gX11_lights_X5_glow_u108X3 rfl rfl rfl rfl (by decide +kernel) ⟨Nat.le_of_ble_eq_true rfl, Nat.le_of_ble_eq_true rfl⟩) (gp_preV hKn hG (cp_obj hcg) rfl) rfl rfl hl.1 rfl (lv_room (Nat.le_of_ble_eq_true rfl)) dX11_lights_31 ⟨Nat.le_of_ble_eq_true rfl, Nat.le_of_ble_eq_true rfl⟩
        · exact va_runU (As := [va_rf t28]) (rest := []) ⟨hx, hb, hml, hown, hts⟩ (c_X5_glow (l := l) (D := D) (b := b) (cI := cI) (cL := cL) hc31) (va_cwU 1 hts gX11_lights_X5_glow_u108X4 rfl rfl rfl rfl (by decide +kernel) ⟨Nat.le_of_ble_eq_true rfl, Nat.le_of_ble_eq_true rfl⟩) (gp_preV hKn hG (cp_obj hcg) rfl) rfl rfl hl.1 rfl (lv_room (Nat.le_of_ble_eq_true rfl)) dX11_lights_31 ⟨Nat.le_of_ble_eq_true rfl, Nat.le_of_ble_eq_true rfl⟩
        · exact va_runV (As := [va_rf t28]) (rest := []) ⟨hx, hb, hml, hown, hts⟩ (c_X5_glow (l := l) (D := D) (b := b) (cI := cI) (cL := cL) hc31) (cwV 1 hts gX11_lights_X5_glow rfl rfl rfl (by decide +kernel) ⟨Nat.le_of_ble_eq_true rfl, Nat.le_of_ble_eq_true rfl⟩) (gp_preV hKn hG (cp_obj hcg) rfl) rfl rfl hl.1 rfl (lv_room (Nat.le_of_ble_eq_true rfl)) dX11_lights_31 ⟨Nat.le_of_ble_eq_true rfl, Nat.le_of_ble_eq_true rfl⟩
        · exact va_runU (As := [va_rf t28]) (rest := []) ⟨hx, hb, hml, hown, hts⟩ (c_X5_glow (l := l) (D := D) (b := b) (cI := cI) (cL := cL) hc31) (va_cwU 1 hts gX11_lights_X5_glow_u108X7 rfl rfl rfl rfl (by decide +kernel) ⟨Nat.le_of_ble_eq_true rfl, Nat.le_of_ble_eq_true rfl⟩) (gp_preV hKn hG (cp_obj hcg) rfl) rfl rfl hl.1 rfl (lv_room (Nat.le_of_ble_eq_true rfl)) dX11_lights_31 ⟨Nat.le_of_ble_eq_true rfl, Nat.le_of_ble_eq_true rfl⟩
        · exact va_runU (As := [va_rf t28]) (rest := []) ⟨hx, hb, hml, hown, hts⟩ (c_X5_glow (l := l) (D := D) (b := b) (cI := cI) (cL := cL) hc31) (va_cwU 1 hts gX11_lights_X5_glow_u108X8 rfl rfl rfl rfl (by decide +kernel) ⟨Nat.le_of_ble_eq_true rfl, Nat.le_of_ble_eq_true rfl⟩) (gp_preV hKn hG (cp_obj hcg) rfl) rfl rfl hl.1 rfl (lv_room (Nat.le_of_ble_eq_true rfl)) dX11_lights_31 ⟨Nat.le_of_ble_eq_true rfl, Nat.le_of_ble_eq_true rfl⟩
      refine gp_callL hrun31 hS (fun H locs hG hS => ?_)
      refine lv_iload_n hx hb dX11_lights_34 rfl (lv_at hl 3 rfl) ?_
      obtain ⟨o35, hc35, hf⟩ := gb_b hf
      refine gp_callI (va_runS (As := [.long o31, .int v2]) (rest := []) ⟨hx, hb, hml, hown, hts⟩ (c_X2_has (l := l) (D := D) (b := b) (cI := cI) (cL := cL) hc35) (va_cwS 2 hts gX11_lights_X2_has rfl rfl rfl (by decide +kernel) ⟨Nat.le_of_ble_eq_true rfl, Nat.le_of_ble_eq_true rfl⟩) (gp_preS hKn hG) rfl rfl hl.1 rfl (lv_room (Nat.le_of_ble_eq_true rfl)) dX11_lights_35 ⟨Nat.le_of_ble_eq_true rfl, Nat.le_of_ble_eq_true rfl⟩) hS (fun H locs hG hS => ?_)
      obtain ⟨o38, hc38, hf⟩ := gb_b hf
      refine gp_callI (va_runS (As := [.int o35]) (rest := []) ⟨hx, hb, hml, hown, hts⟩ (c_X11_yes (l := l) (D := D) (b := b) (cI := cI) (cL := cL) hc38) (va_cwS 1 hts gX11_lights_X11_yes rfl rfl rfl (by decide +kernel) ⟨Nat.le_of_ble_eq_true rfl, Nat.le_of_ble_eq_true rfl⟩) (gp_preS hKn hG) rfl rfl hl.1 rfl (lv_room (Nat.le_of_ble_eq_true rfl)) dX11_lights_38 ⟨Nat.le_of_ble_eq_true rfl, Nat.le_of_ble_eq_true rfl⟩) hS (fun H locs hG hS => ?_)
      have hf := Option.some.inj hf
      subst hf
      exact gp_retI hx hb hr hlocks hG hS (Nat.le_of_ble_eq_true rfl) (Nat.le_of_ble_eq_true rfl) dX11_lights_41
    · have hf := gb_t c17 hf
      refine lv_aload_n hx hb dX11_lights_20 rfl (lv_at hl 1 rfl) ?_
      refine lv_iconst (v := (-1 : Int32)) hx hb dX11_lights_21 (by decide) ?_
      obtain ⟨o22, hc22, hf⟩ := gb_b hf
      obtain ⟨oc22, hcO22, hc22⟩ := gb_b hc22
      obtain ⟨hcg22, hci22⟩ := gfO_s hcO22
      have hci22 := List.mem_singleton.mp hci22
      obtain ⟨kc22, fc22⟩ := oc22
      dsimp only at hci22 hcg22
      subst hci22
      refine gp_callI (va_runV (As := [.int (-1 : Int32)]) (rest := []) ⟨hx, hb, hml, hown, hts⟩ (c_X11_refuse (l := l) (D := D) (b := b) (cI := cI) (cL := cL) hc22) (cwV 1 hts gX11_lights_X11_refuse rfl rfl rfl (by decide +kernel) ⟨Nat.le_of_ble_eq_true rfl, Nat.le_of_ble_eq_true rfl⟩) (gp_preV hKn hG (cp_obj hcg22) rfl) rfl rfl hl.1 rfl (lv_room (Nat.le_of_ble_eq_true rfl)) dX11_lights_22 ⟨Nat.le_of_ble_eq_true rfl, Nat.le_of_ble_eq_true rfl⟩) hS (fun H locs hG hS => ?_)
      have hf := Option.some.inj hf
      subst hf
      exact gp_retI hx hb hr hlocks hG hS (Nat.le_of_ble_eq_true rfl) (Nat.le_of_ble_eq_true rfl) dX11_lights_25
-- X11_minutesIn
abbrev rm_X11_minutesIn : Room := { frames := 2, cells := 0, slots := 0, locals := 43 }
set_option maxHeartbeats 4000000 in
set_option maxRecDepth 100000 in
theorem w_X11_minutesIn_23 {α : Type} {R : α} {K102 : (Int32 × Int32) → Option α} {v0 : Nat} {v1 : Int64} {v3 : Int32} {v4 : Int32} {v8 : Int32} (X : gC p s m args meth c cX11_minutesIn 12 (some .int) wsX11_minutesIn RX11 D b (gTy cI cL)) : ∀ (n : Nat) (v6 : Int32) (v7 : Int32) (v9 : Int32) (v10 : Int32), L_X11_minutesIn_23 K102 gv v0 v1 v3 v4 v8 n v6 v7 v9 v10 = some R → (∀ (x : Int32 × Int32), K102 x = some R → ∀ (H : Heap) (locs : List Loc) (ls : Array Slot), GP D b M (gW cI cL gv) H → va_S (gA b) s.heap H locs → lv_has ls 12 [(0, .ref v0), (1, .long v1), (3, .int v3), (4, .int v4), (6, .int x.1), (7, .int x.2), (8, .int v8)] → W p l e rm_X11_minutesIn s m args below meth c H locs 0 0 Q (F0 m 102 ls [])) → ∀ (H : Heap) (locs : List Loc) (ls : Array Slot), GP D b M (gW cI cL gv) H → va_S (gA b) s.heap H locs → lv_has ls 12 [(0, .ref v0), (1, .long v1), (3, .int v3), (4, .int v4), (6, .int v6), (7, .int v7), (8, .int v8), (9, .int v9), (10, .int v10)] → W p l e rm_X11_minutesIn s m args below meth c H locs 0 0 Q (F0 m 23 ls []) := by
  obtain ⟨hx, hb, hr, hml, hown, hts, hlocks, hKn, hBs⟩ := id X
  have hK := hKn.1
  have gclX11 : gcl [9] TX11 8 wsX11_minutesIn := gcl_1 rfl (fun _ h => List.mem_cons_of_mem _ (List.mem_append_left _ (List.mem_append_right _ h)))
  intro n
  induction n with
  | zero =>
    intro v6 v7 v9 v10 hf
    cases hf
  | succ n ih =>
    intro v6 v7 v9 v10 hf hk102 H locs ls hG hS hl
    rw [L_X11_minutesIn_23.eq_2] at hf
    refine lv_iload hx hb dX11_minutesIn_23 (lv_at hl 8 rfl) ?_
    refine lv_bipush (v := 12) hx hb dX11_minutesIn_25 (by decide) ?_
    refine lv_icmp_ge (tgt := 102) hx hb dX11_minutesIn_27 (by decide) (fun c27 => ?_) (fun c27 => ?_)
    · have hf := gb_t c27 hf
      exact (hk102 _ hf _ _ _ hG hS (lv_sub hl [0, 1, 2, 3, 4, 5, 6] rfl))
    · have hf := gb_f c27 hf
      refine lv_iload hx hb dX11_minutesIn_30 (lv_at hl 5 rfl) ?_
      refine lv_ldc (v := 1664525) hx hb hown (hts _ (List.mem_of_getElem? (i := 1) rfl)) dX11_minutesIn_32 ?_
      refine lv_imul hx hb dX11_minutesIn_34 ?_
      refine lv_ldc (v := 1013904223) hx hb hown (hts _ (List.mem_of_getElem? (i := 2) rfl)) dX11_minutesIn_35 ?_
      refine lv_iadd hx hb dX11_minutesIn_37 ?_
      refine lv_istore (lv' := [(7, .int ((v7 * 1664525) + 1013904223)), (0, .ref v0), (1, .long v1), (3, .int v3), (4, .int v4), (6, .int v6), (8, .int v8), (9, .int v9), (10, .int v10)]) hx hb dX11_minutesIn_38 hl (by decide) rfl (fun ls hl => ?_)
      refine lv_iload hx hb dX11_minutesIn_40 (lv_at hl 7 rfl) ?_
      refine lv_iload hx hb dX11_minutesIn_42 (lv_at hl 0 rfl) ?_
      refine lv_ldc (v := 2147483647) hx hb hown (hts _ (List.mem_of_getElem? (i := 3) rfl)) dX11_minutesIn_44 ?_
      refine lv_iand hx hb dX11_minutesIn_46 ?_
      refine lv_sipush (v := 256) hx hb dX11_minutesIn_47 (by decide) ?_
      refine lv_idiv hx hb dX11_minutesIn_50 (by decide) ?_
      refine lv_iconst (v := 4) hx hb dX11_minutesIn_51 (by decide) ?_
      refine lv_irem hx hb dX11_minutesIn_52 (by decide) ?_
      obtain ⟨o53, hc53, hf⟩ := gb_b hf
      refine gp_callI (va_runS (As := [.int v9, .int (((((v7 * 1664525) + 1013904223) &&& 2147483647) / 256) - ((((v7 * 1664525) + 1013904223) &&& 2147483647) / 256) / 4 * 4)]) (rest := []) ⟨hx, hb, hml, hown, hts⟩ (c_X2_towards (l := l) (D := D) (b := b) (cI := cI) (cL := cL) hc53) (va_cwS 2 hts gX11_minutesIn_X2_towards rfl rfl rfl (by decide +kernel) ⟨Nat.le_of_ble_eq_true rfl, Nat.le_of_ble_eq_true rfl⟩) (gp_preS hKn hG) rfl rfl hl.1 rfl (lv_room (Nat.le_of_ble_eq_true rfl)) dX11_minutesIn_53 ⟨Nat.le_of_ble_eq_true rfl, Nat.le_of_ble_eq_true rfl⟩) hS (fun H locs hG hS => ?_)
      refine lv_istore (lv' := [(11, .int o53), (7, .int ((v7 * 1664525) + 1013904223)), (0, .ref v0), (1, .long v1), (3, .int v3), (4, .int v4), (6, .int v6), (8, .int v8), (9, .int v9), (10, .int v10)]) hx hb dX11_minutesIn_56 hl (by decide) rfl (fun ls hl => ?_)
      refine lv_aload_n hx hb dX11_minutesIn_58 rfl (lv_at hl 2 rfl) ?_
      obtain ⟨t59, ht59, hf⟩ := gb_b hf
      refine cp_get (v := va_rf t59) hx hb hts gclX11 hown hK hG 4 (gfR_s ht59) (by decide) (hts _ (List.mem_of_getElem? (i := 4) rfl)) (fun _ h9 => h9) dX11_minutesIn_59 ?_
      obtain ⟨q62, hq62, hf⟩ := gb_b hf
      refine W.eq (g2 := F0 m 62 ls [.ref q62]) (congrArg (fun z => F0 m 62 ls [va_rf z]) hq62) ?_
      obtain ⟨o62, hc62, hf⟩ := gb_b hf
      obtain ⟨oc62, hcO62, hc62⟩ := gb_b hc62
      obtain ⟨hcg62, hci62⟩ := gfO_s hcO62
      have hci62 := List.mem_singleton.mp hci62
      obtain ⟨kc62, fc62⟩ := oc62
      dsimp only at hci62 hcg62
      subst hci62
      refine gp_callL (va_runV (As := []) (rest := []) ⟨hx, hb, hml, hown, hts⟩ (c_X10_free (l := l) (D := D) (b := b) (cI := cI) (cL := cL) hc62) (cwV 0 hts gX11_minutesIn_X10_free rfl rfl rfl (by decide +kernel) ⟨Nat.le_of_ble_eq_true rfl, Nat.le_of_ble_eq_true rfl⟩) (gp_preV hKn hG (cp_obj hcg62) rfl) rfl rfl hl.1 rfl (lv_room (Nat.le_of_ble_eq_true rfl)) dX11_minutesIn_62 ⟨Nat.le_of_ble_eq_true rfl, Nat.le_of_ble_eq_true rfl⟩) hS (fun H locs hG hS => ?_)
      refine lv_iload hx hb dX11_minutesIn_65 (lv_at hl 0 rfl) ?_
      obtain ⟨o67, hc67, hf⟩ := gb_b hf
      refine gp_callI (va_runS (As := [.long o62, .int o53]) (rest := []) ⟨hx, hb, hml, hown, hts⟩ (c_X2_has (l := l) (D := D) (b := b) (cI := cI) (cL := cL) hc67) (va_cwS 2 hts gX11_minutesIn_X2_has rfl rfl rfl (by decide +kernel) ⟨Nat.le_of_ble_eq_true rfl, Nat.le_of_ble_eq_true rfl⟩) (gp_preS hKn hG) rfl rfl hl.1 rfl (lv_room (Nat.le_of_ble_eq_true rfl)) dX11_minutesIn_67 ⟨Nat.le_of_ble_eq_true rfl, Nat.le_of_ble_eq_true rfl⟩) hS (fun H locs hG hS => ?_)
      have hJ70 : ∀ Z : Int32, Z = (if o67 = 0 then v9 else o53) → W p l e rm_X11_minutesIn s m args below meth c H locs 0 0 Q (F0 m 80 ls (.int Z :: [])) := by
        intro Z hZ
        subst hZ
        refine lv_istore (lv' := [(9, .int (if o67 = 0 then v9 else o53)), (11, .int o53), (7, .int ((v7 * 1664525) + 1013904223)), (0, .ref v0), (1, .long v1), (3, .int v3), (4, .int v4), (6, .int v6), (8, .int v8), (10, .int v10)]) hx hb dX11_minutesIn_80 hl (by decide) rfl (fun ls hl => ?_)
        refine lv_iload hx hb dX11_minutesIn_82 (lv_at hl 7 rfl) ?_
        refine lv_lload_n hx hb dX11_minutesIn_84 rfl (lv_at hl 4 rfl) ?_
        refine lv_iload hx hb dX11_minutesIn_85 (lv_at hl 0 rfl) ?_
        obtain ⟨o87, hc87, hf⟩ := gb_b hf
        refine gp_callI (va_runS (As := [.long v1, .int (if o67 = 0 then v9 else o53)]) (rest := [.int v6]) ⟨hx, hb, hml, hown, hts⟩ (c_X2_has (l := l) (D := D) (b := b) (cI := cI) (cL := cL) hc87) (va_cwS 2 hts gX11_minutesIn_X2_has rfl rfl rfl (by decide +kernel) ⟨Nat.le_of_ble_eq_true rfl, Nat.le_of_ble_eq_true rfl⟩) (gp_preS hKn hG) rfl rfl hl.1 rfl (lv_room (Nat.le_of_ble_eq_true rfl)) dX11_minutesIn_87 ⟨Nat.le_of_ble_eq_true rfl, Nat.le_of_ble_eq_true rfl⟩) hS (fun H locs hG hS => ?_)
        obtain ⟨o90, hc90, hf⟩ := gb_b hf
        refine gp_callI (va_runS (As := [.int o87]) (rest := [.int v6]) ⟨hx, hb, hml, hown, hts⟩ (c_X11_yes (l := l) (D := D) (b := b) (cI := cI) (cL := cL) hc90) (va_cwS 1 hts gX11_minutesIn_X11_yes rfl rfl rfl (by decide +kernel) ⟨Nat.le_of_ble_eq_true rfl, Nat.le_of_ble_eq_true rfl⟩) (gp_preS hKn hG) rfl rfl hl.1 rfl (lv_room (Nat.le_of_ble_eq_true rfl)) dX11_minutesIn_90 ⟨Nat.le_of_ble_eq_true rfl, Nat.le_of_ble_eq_true rfl⟩) hS (fun H locs hG hS => ?_)
        refine lv_iadd hx hb dX11_minutesIn_93 ?_
        refine lv_istore (lv' := [(6, .int (v6 + o90)), (9, .int (if o67 = 0 then v9 else o53)), (11, .int o53), (7, .int ((v7 * 1664525) + 1013904223)), (0, .ref v0), (1, .long v1), (3, .int v3), (4, .int v4), (8, .int v8), (10, .int v10)]) hx hb dX11_minutesIn_94 hl (by decide) rfl (fun ls hl => ?_)
        refine lv_iinc (v := v10 + 1) (lv' := [(10, .int (v10 + 1)), (6, .int (v6 + o90)), (9, .int (if o67 = 0 then v9 else o53)), (11, .int o53), (7, .int ((v7 * 1664525) + 1013904223)), (0, .ref v0), (1, .long v1), (3, .int v3), (4, .int v4), (8, .int v8)]) hx hb dX11_minutesIn_96 hl (k := 9) rfl rfl (by decide) rfl (fun ls hl => ?_)
        refine lv_goto (tgt := 23) hx hb dX11_minutesIn_99 (by decide) ?_
        exact ih _ _ _ _ hf hk102 _ _ _ hG hS (lv_sub hl [5, 6, 7, 8, 1, 4, 9, 2, 0] rfl)
      refine lv_if_eq (tgt := 78) hx hb dX11_minutesIn_70 (by decide) (fun c70 => ?_) (fun c70 => ?_)
      · rw [if_pos c70] at hJ70
        refine lv_iload hx hb dX11_minutesIn_78 (lv_at hl 8 rfl) ?_
        exact hJ70 _ rfl
      · rw [if_neg c70] at hJ70
        refine lv_iload hx hb dX11_minutesIn_73 (lv_at hl 0 rfl) ?_
        refine lv_goto (tgt := 80) hx hb dX11_minutesIn_75 (by decide) ?_
        exact hJ70 _ rfl
set_option maxHeartbeats 4000000 in
set_option maxRecDepth 100000 in
theorem w_X11_minutesIn_10 {α : Type} {R : α} {K108 : Int32 → Option α} {v0 : Nat} {v1 : Int64} {v3 : Int32} {v4 : Int32} (X : gC p s m args meth c cX11_minutesIn 12 (some .int) wsX11_minutesIn RX11 D b (gTy cI cL)) : ∀ (n : Nat) (v6 : Int32) (v7 : Int32) (v8 : Int32), L_X11_minutesIn_10 K108 gv v0 v1 v3 v4 n v6 v7 v8 = some R → (∀ (x : Int32), K108 x = some R → ∀ (H : Heap) (locs : List Loc) (ls : Array Slot), GP D b M (gW cI cL gv) H → va_S (gA b) s.heap H locs → lv_has ls 12 [(6, .int x)] → W p l e rm_X11_minutesIn s m args below meth c H locs 0 0 Q (F0 m 108 ls [])) → ∀ (H : Heap) (locs : List Loc) (ls : Array Slot), GP D b M (gW cI cL gv) H → va_S (gA b) s.heap H locs → lv_has ls 12 [(0, .ref v0), (1, .long v1), (3, .int v3), (4, .int v4), (6, .int v6), (7, .int v7), (8, .int v8)] → W p l e rm_X11_minutesIn s m args below meth c H locs 0 0 Q (F0 m 10 ls []) := by
  obtain ⟨hx, hb, hr, hml, hown, hts, hlocks, hKn, hBs⟩ := id X
  have hK := hKn.1
  have gclX11 : gcl [9] TX11 8 wsX11_minutesIn := gcl_1 rfl (fun _ h => List.mem_cons_of_mem _ (List.mem_append_left _ (List.mem_append_right _ h)))
  intro n
  induction n with
  | zero =>
    intro v6 v7 v8 hf
    cases hf
  | succ n ih =>
    intro v6 v7 v8 hf hk108 H locs ls hG hS hl
    rw [L_X11_minutesIn_10.eq_2] at hf
    refine lv_iload hx hb dX11_minutesIn_10 (lv_at hl 6 rfl) ?_
    refine lv_iload hx hb dX11_minutesIn_12 (lv_at hl 3 rfl) ?_
    refine lv_icmp_ge (tgt := 108) hx hb dX11_minutesIn_14 (by decide) (fun c14 => ?_) (fun c14 => ?_)
    · have hf := gb_t c14 hf
      exact (hk108 _ hf _ _ _ hG hS (lv_sub hl [4] rfl))
    · have hf := gb_f c14 hf
      refine lv_iload_n hx hb dX11_minutesIn_17 rfl (lv_at hl 2 rfl) ?_
      refine lv_istore (lv' := [(9, .int v3), (0, .ref v0), (1, .long v1), (3, .int v3), (4, .int v4), (6, .int v6), (7, .int v7), (8, .int v8)]) hx hb dX11_minutesIn_18 hl (by decide) rfl (fun ls hl => ?_)
      refine lv_iconst (v := 0) hx hb dX11_minutesIn_20 (by decide) ?_
      refine lv_istore (lv' := [(10, .int 0), (9, .int v3), (0, .ref v0), (1, .long v1), (3, .int v3), (4, .int v4), (6, .int v6), (7, .int v7), (8, .int v8)]) hx hb dX11_minutesIn_21 hl (by decide) rfl (fun ls hl => ?_)
      refine w_X11_minutesIn_23 X _ _ _ _ _ hf (fun x23_102 hf H locs ls hG hS hl => ?_) _ _ _ hG hS (lv_sub hl [2, 3, 4, 5, 6, 7, 8, 1, 0] rfl)
      · refine lv_iinc (v := v8 + 1) (lv' := [(8, .int (v8 + 1)), (0, .ref v0), (1, .long v1), (3, .int v3), (4, .int v4), (6, .int x23_102.1), (7, .int x23_102.2)]) hx hb dX11_minutesIn_102 hl (k := 6) rfl rfl (by decide) rfl (fun ls hl => ?_)
        refine lv_goto (tgt := 10) hx hb dX11_minutesIn_105 (by decide) ?_
        exact ih _ _ _ hf hk108 _ _ _ hG hS (lv_sub hl [1, 2, 3, 4, 5, 6, 0] rfl)
set_option maxHeartbeats 4000000 in
set_option maxRecDepth 100000 in
theorem c_X11_minutesIn {v1 : Int64} {v3 : Int32} {v4 : Int32} {v5 : Int32} {R : Int32} (hf : f_X11_minutesIn gv h0 v1 v3 v4 v5 = some R) : Met l yX11_minutesIn wsX11_minutesIn rm_X11_minutesIn (va_Pc [.ref h0, .long v1, .int v3, .int v4, .int v5] (gPre D b M (gW cI cL gv) (gTy cI cL))) (gQ D b (some (.int R)) M (gW cI cL gv)) 0 0 (gA b) := by
  refine gp_met (cc := cX11_minutesIn) (maxL := 12) (ret := (some .int)) (by decide) rfl (Nat.le_of_ble_eq_true rfl) ?_
  intro p e s m below meth c X ls hG hl
  obtain ⟨H, hH0⟩ : ∃ H : Heap, H = s.heap := ⟨_, rfl⟩
  rw [← hH0] at hG ⊢
  have hS : va_S (gA b) s.heap H [] := by rw [hH0]; exact va_S.rf
  obtain ⟨locs, hlo⟩ : ∃ z : List Loc, z = [] := ⟨_, rfl⟩
  rw [← hlo] at hS ⊢
  unfold f_X11_minutesIn at hf
  obtain ⟨hx, hb, hr, hml, hown, hts, hlocks, hKn, hBs⟩ := id X
  have hK := hKn.1
  have gclX11 : gcl [9] TX11 8 wsX11_minutesIn := gcl_1 rfl (fun _ h => List.mem_cons_of_mem _ (List.mem_append_left _ (List.mem_append_right _ h)))
  have hl : lv_has ls 12 [(0, .ref h0), (1, .long v1), (3, .int v3), (4, .int v4), (5, .int v5)] := hl
  refine lv_iconst (v := 0) hx hb dX11_minutesIn_0 (by decide) ?_
  refine lv_istore (lv' := [(6, .int 0), (0, .ref h0), (1, .long v1), (3, .int v3), (4, .int v4), (5, .int v5)]) hx hb dX11_minutesIn_1 hl (by decide) rfl (fun ls hl => ?_)
  refine lv_iload hx hb dX11_minutesIn_3 (lv_at hl 5 rfl) ?_
  refine lv_istore (lv' := [(7, .int v5), (6, .int 0), (0, .ref h0), (1, .long v1), (3, .int v3), (4, .int v4), (5, .int v5)]) hx hb dX11_minutesIn_5 hl (by decide) rfl (fun ls hl => ?_)
  refine lv_iconst (v := 0) hx hb dX11_minutesIn_7 (by decide) ?_
  refine lv_istore (lv' := [(8, .int 0), (7, .int v5), (6, .int 0), (0, .ref h0), (1, .long v1), (3, .int v3), (4, .int v4), (5, .int v5)]) hx hb dX11_minutesIn_8 hl (by decide) rfl (fun ls hl => ?_)
  refine w_X11_minutesIn_10 X _ _ _ _ hf (fun x10_108 hf H locs ls hG hS hl => ?_) _ _ _ hG hS (lv_sub hl [3, 4, 5, 6, 2, 1, 0] rfl)
  · refine lv_iload hx hb dX11_minutesIn_108 (lv_at hl 0 rfl) ?_
    have hf := Option.some.inj hf
    subst hf
    exact gp_retI hx hb hr hlocks hG hS (Nat.le_of_ble_eq_true rfl) (Nat.le_of_ble_eq_true rfl) dX11_minutesIn_110
-- X11_lots
abbrev rm_X11_lots : Room := { frames := 3, cells := 0, slots := 0, locals := 74 }
set_option maxHeartbeats 4000000 in
set_option maxRecDepth 100000 in
theorem w_X11_lots_44 {α : Type} {R : α} {K123 : Int32 → Option α} {v0 : Nat} {v1 : Int32} {v2 : Int32} {v3 : Int32} (X : gC p s m args meth c cX11_lots 8 (some .int) wsX11_lots RX11 D b (gTy cI cL)) : ∀ (n : Nat) (v5 : Int32) (v6 : Int32), L_X11_lots_44 K123 gv v0 v1 v2 v3 n v5 v6 = some R → (∀ (x : Int32), K123 x = some R → ∀ (H : Heap) (locs : List Loc) (ls : Array Slot), GP D b M (gW cI cL gv) H → va_S (gA b) s.heap H locs → lv_has ls 8 [(5, .int x)] → W p l e rm_X11_lots s m args below meth c H locs 0 0 Q (F0 m 123 ls [])) → ∀ (H : Heap) (locs : List Loc) (ls : Array Slot), GP D b M (gW cI cL gv) H → va_S (gA b) s.heap H locs → lv_has ls 8 [(0, .ref v0), (1, .int v1), (2, .int v2), (3, .int v3), (5, .int v5), (6, .int v6)] → W p l e rm_X11_lots s m args below meth c H locs 0 0 Q (F0 m 44 ls []) := by
  obtain ⟨hx, hb, hr, hml, hown, hts, hlocks, hKn, hBs⟩ := id X
  have hK := hKn.1
  have gclL : gcl gLC TX5 5 wsX11_lots := gcl_L (fun _ h => List.mem_cons_of_mem _ (List.mem_append_left _ (List.mem_append_left _ (List.mem_append_left _ (List.mem_append_left _ (List.mem_append_left _ (List.mem_append_left _ (List.mem_append_right _ h)))))))) (fun _ h => List.mem_cons_of_mem _ (List.mem_append_left _ (List.mem_append_left _ (List.mem_append_left _ (List.mem_append_left _ (List.mem_append_left _ (List.mem_append_right _ h))))))) (fun _ h => List.mem_cons_of_mem _ (List.mem_append_left _ (List.mem_append_left _ (List.mem_append_left _ (List.mem_append_left _ (List.mem_append_right _ h)))))) (fun _ h => List.mem_cons_of_mem _ (List.mem_append_left _ (List.mem_append_left _ (List.mem_append_left _ (List.mem_append_right _ h))))) (fun _ h => List.mem_cons_of_mem _ (List.mem_append_left _ (List.mem_append_left _ (List.mem_append_right _ h)))) (fun _ h => List.mem_cons_of_mem _ (List.mem_append_left _ (List.mem_append_right _ h))) (fun _ h => List.mem_cons_of_mem _ (List.mem_append_right _ h))
  have gclX10 : gcl [8] TX10 6 wsX11_lots := gcl_1 rfl (fun _ h => List.mem_cons_of_mem _ (List.mem_append_left _ (List.mem_append_left _ (List.mem_append_left _ (List.mem_append_left _ (List.mem_append_left _ (List.mem_append_left _ (List.mem_append_left _ (List.mem_append_right _ h)))))))))
  have gclX11 : gcl [9] TX11 8 wsX11_lots := gcl_1 rfl (fun _ h => List.mem_cons_of_mem _ (List.mem_append_left _ (List.mem_append_left _ (List.mem_append_left _ (List.mem_append_left _ (List.mem_append_left _ (List.mem_append_left _ (List.mem_append_left _ (List.mem_append_left _ (List.mem_append_right _ h))))))))))
  intro n
  induction n with
  | zero =>
    intro v5 v6 hf
    cases hf
  | succ n ih =>
    intro v5 v6 hf hk123 H locs ls hG hS hl
    rw [L_X11_lots_44.eq_2] at hf
    refine lv_iload hx hb dX11_lots_44 (lv_at hl 5 rfl) ?_
    refine lv_aload_n hx hb dX11_lots_46 rfl (lv_at hl 0 rfl) ?_
    obtain ⟨t47, ht47, hf⟩ := gb_b hf
    refine cp_get (v := va_rf t47) hx hb hts gclX11 hown hK hG 4 (gfR_s ht47) (by decide) (hts _ (List.mem_of_getElem? (i := 1) rfl)) (fun _ h9 => h9) dX11_lots_47 ?_
    obtain ⟨q50, hq50, hf⟩ := gb_b hf
    refine W.eq (g2 := F0 m 50 ls [.ref q50, .int v6]) (congrArg (fun z => F0 m 50 ls [va_rf z, .int v6]) hq50) ?_
    obtain ⟨t50, ht50, hf⟩ := gb_b hf
    refine cp_get (v := .int t50) hx hb hts gclX10 hown hK hG 3 (gfI_s ht50) (by decide) (hts _ (List.mem_of_getElem? (i := 2) rfl)) (fun _ h9 => h9) dX11_lots_50 ?_
    refine lv_icmp_ge (tgt := 123) hx hb dX11_lots_53 (by decide) (fun c53 => ?_) (fun c53 => ?_)
    · have hf := gb_t c53 hf
      exact (hk123 _ hf _ _ _ hG hS (lv_sub hl [4] rfl))
    · have hf := gb_f c53 hf
      refine lv_aload_n hx hb dX11_lots_56 rfl (lv_at hl 0 rfl) ?_
      obtain ⟨t57, ht57, hf⟩ := gb_b hf
      refine cp_get (v := va_rf t57) hx hb hts gclX11 hown hK hG 4 (gfR_s ht57) (by decide) (hts _ (List.mem_of_getElem? (i := 1) rfl)) (fun _ h9 => h9) dX11_lots_57 ?_
      refine lv_iload hx hb dX11_lots_60 (lv_at hl 5 rfl) ?_
      obtain ⟨q62, hq62, hf⟩ := gb_b hf
      refine W.eq (g2 := F0 m 62 ls [.int v6, .ref q62]) (congrArg (fun z => F0 m 62 ls [.int v6, va_rf z]) hq62) ?_
      obtain ⟨o62, hc62, hf⟩ := gb_b hf
      obtain ⟨oc62, hcO62, hc62⟩ := gb_b hc62
      obtain ⟨hcg62, hci62⟩ := gfO_s hcO62
      have hci62 := List.mem_singleton.mp hci62
      obtain ⟨kc62, fc62⟩ := oc62
      dsimp only at hci62 hcg62
      subst hci62
      refine gp_callR (va_runV (As := [.int v6]) (rest := []) ⟨hx, hb, hml, hown, hts⟩ (c_X10_lampAt (l := l) (D := D) (b := b) (cI := cI) (cL := cL) hc62) (cwV 1 hts gX11_lots_X10_lampAt rfl rfl rfl (by decide +kernel) ⟨Nat.le_of_ble_eq_true rfl, Nat.le_of_ble_eq_true rfl⟩) (gp_preV hKn hG (cp_obj hcg62) rfl) rfl rfl hl.1 rfl (lv_room (Nat.le_of_ble_eq_true rfl)) dX11_lots_62 ⟨Nat.le_of_ble_eq_true rfl, Nat.le_of_ble_eq_true rfl⟩) hS (fun H locs hG hS => ?_)
      refine gp_astore (lv' := [(7, va_rf o62), (0, .ref v0), (1, .int v1), (2, .int v2), (3, .int v3), (5, .int v5), (6, .int v6)]) hx hb dX11_lots_65 hl (by decide) rfl (fun ls hl => ?_)
      refine gp_aload (x := o62) hx hb dX11_lots_67 (lv_at hl 0 rfl) ?_
      obtain ⟨j69, hj69, hf⟩ := gb_b hf
      have hJ69 : ∀ (H : Heap) (locs : List Loc) (ls : Array Slot), GP D b M (gW cI cL gv) H → va_S (gA b) s.heap H locs → lv_has ls 8 [(0, .ref v0), (1, .int v1), (2, .int v2), (3, .int v3), (5, .int j69), (6, .int v6)] → W p l e rm_X11_lots s m args below meth c H locs 0 0 Q (F0 m 117 ls []) := by
        intro H locs ls hG hS hl
        refine lv_iinc (v := v6 + 1) (lv' := [(6, .int (v6 + 1)), (0, .ref v0), (1, .int v1), (2, .int v2), (3, .int v3), (5, .int j69)]) hx hb dX11_lots_117 hl (k := 5) rfl rfl (by decide) rfl (fun ls hl => ?_)
        refine lv_goto (tgt := 44) hx hb dX11_lots_120 (by decide) ?_
        exact ih _ _ hf hk123 _ _ _ hG hS (lv_sub hl [1, 2, 3, 4, 5, 0] rfl)
      refine gp_ifnull (x := o62) (tgt := 117) hx hb dX11_lots_69 (by decide) ?_ ?_
      · intro e69
        rw [e69] at hl
        rw [e69] at hj69
        dsimp only at hj69
        have hj69 := Option.some.inj hj69
        subst hj69
        exact (hJ69 H locs ls hG hS (lv_sub hl [1, 2, 3, 4, 5, 6] rfl))
      · intro n69 e69
        rw [e69] at hl
        rw [e69] at hj69
        dsimp only at hj69
        refine lv_aload hx hb dX11_lots_72 (lv_at hl 0 rfl) ?_
        obtain ⟨t74, ht74, hj69⟩ := gb_b hj69
        refine cp_get (v := .int t74) hx hb hts gclL hown hK hG 2 (gfI_s ht74) (by decide) (hts _ (List.mem_of_getElem? (i := 3) rfl)) (fun _ h9 => h9) dX11_lots_74 ?_
        refine lv_if_eq (tgt := 117) hx hb dX11_lots_77 (by decide) (fun c77 => ?_) (fun c77 => ?_)
        · have hj69 := gb_t c77 hj69
          have hj69 := Option.some.inj hj69
          subst hj69
          exact (hJ69 H locs ls hG hS (lv_sub hl [1, 2, 3, 4, 5, 6] rfl))
        · have hj69 := gb_f c77 hj69
          refine lv_aload hx hb dX11_lots_80 (lv_at hl 0 rfl) ?_
          obtain ⟨o82, hc82, hj69⟩ := gb_b hj69
          have hrun82 : va_Run p l e rm_X11_lots s m args below meth c H locs 0 0 0 0 (F0 m 82 ls ([].reverse ++ .ref n69 :: [])) [] (gQ D b (some (.int o82)) M (gW cI cL gv) (Value.ref n69 :: []).toArray) (gA b) := by
            obtain ⟨oc, hcO, hc82⟩ := gb_b hc82
            obtain ⟨hcg, hci⟩ := gfO_s hcO
            obtain ⟨kc, fc⟩ := oc
            dsimp only at hci hcg hc82
            rcases gLC_7 hci with rfl | rfl | rfl | rfl | rfl | rfl | rfl
            · have hc82 : f_X0_kind n69 = some o82 := hc82
              exact va_runU (As := []) (rest := []) ⟨hx, hb, hml, hown, hts⟩ (c_X0_kind (l := l) (D := D) (b := b) (cI := cI) (cL := cL) hc82) (va_cwO 0 hts gX11_lots_X0_kind_u95X0 rfl rfl rfl (List.mem_of_getElem? (i := 32) rfl) (by decide +kernel) ⟨Nat.le_of_ble_eq_true rfl, Nat.le_of_ble_eq_true rfl⟩) (gp_preV hKn hG (cp_obj hcg) rfl) rfl rfl hl.1 rfl (lv_room (Nat.le_of_ble_eq_true rfl)) dX11_lots_82 ⟨Nat.le_of_ble_eq_true rfl, Nat.le_of_ble_eq_true rfl⟩
            · have hc82 : f_X1_kind n69 = some o82 := hc82
              exact va_runU (As := []) (rest := []) ⟨hx, hb, hml, hown, hts⟩ (c_X1_kind (l := l) (D := D) (b := b) (cI := cI) (cL := cL) hc82) (va_cwO 0 hts gX11_lots_X1_kind_u95X1 rfl rfl rfl (List.mem_of_getElem? (i := 32) rfl) (by decide +kernel) ⟨Nat.le_of_ble_eq_true rfl, Nat.le_of_ble_eq_true rfl⟩) (gp_preV hKn hG (cp_obj hcg) rfl) rfl rfl hl.1 rfl (lv_room (Nat.le_of_ble_eq_true rfl)) dX11_lots_82 ⟨Nat.le_of_ble_eq_true rfl, Nat.le_of_ble_eq_true rfl⟩
            · have hc82 : f_X3_kind n69 = some o82 := hc82
              exact va_runU (As := []) (rest := []) ⟨hx, hb, hml, hown, hts⟩ (c_X3_kind (l := l) (D := D) (b := b) (cI := cI) (cL := cL) hc82) (va_cwO 0 hts gX11_lots_X3_kind_u95X3 rfl rfl rfl (List.mem_of_getElem? (i := 32) rfl) (by decide +kernel) ⟨Nat.le_of_ble_eq_true rfl, Nat.le_of_ble_eq_true rfl⟩) (gp_preV hKn hG (cp_obj hcg) rfl) rfl rfl hl.1 rfl (lv_room (Nat.le_of_ble_eq_true rfl)) dX11_lots_82 ⟨Nat.le_of_ble_eq_true rfl, Nat.le_of_ble_eq_true rfl⟩
            · have hc82 : f_X4_kind n69 = some o82 := hc82
              exact va_runU (As := []) (rest := []) ⟨hx, hb, hml, hown, hts⟩ (c_X4_kind (l := l) (D := D) (b := b) (cI := cI) (cL := cL) hc82) (va_cwO 0 hts gX11_lots_X4_kind_u95X4 rfl rfl rfl (List.mem_of_getElem? (i := 32) rfl) (by decide +kernel) ⟨Nat.le_of_ble_eq_true rfl, Nat.le_of_ble_eq_true rfl⟩) (gp_preV hKn hG (cp_obj hcg) rfl) rfl rfl hl.1 rfl (lv_room (Nat.le_of_ble_eq_true rfl)) dX11_lots_82 ⟨Nat.le_of_ble_eq_true rfl, Nat.le_of_ble_eq_true rfl⟩
            · have hc82 : f_X5_kind n69 = some o82 := hc82
              exact va_runV (As := []) (rest := []) ⟨hx, hb, hml, hown, hts⟩ (c_X5_kind (l := l) (D := D) (b := b) (cI := cI) (cL := cL) hc82) (cwV 0 hts gX11_lots_X5_kind rfl rfl rfl (by decide +kernel) ⟨Nat.le_of_ble_eq_true rfl, Nat.le_of_ble_eq_true rfl⟩) (gp_preV hKn hG (cp_obj hcg) rfl) rfl rfl hl.1 rfl (lv_room (Nat.le_of_ble_eq_true rfl)) dX11_lots_82 ⟨Nat.le_of_ble_eq_true rfl, Nat.le_of_ble_eq_true rfl⟩
            · have hc82 : f_X7_kind n69 = some o82 := hc82
              exact va_runU (As := []) (rest := []) ⟨hx, hb, hml, hown, hts⟩ (c_X7_kind (l := l) (D := D) (b := b) (cI := cI) (cL := cL) hc82) (va_cwO 0 hts gX11_lots_X7_kind_u95X7 rfl rfl rfl (List.mem_of_getElem? (i := 32) rfl) (by decide +kernel) ⟨Nat.le_of_ble_eq_true rfl, Nat.le_of_ble_eq_true rfl⟩) (gp_preV hKn hG (cp_obj hcg) rfl) rfl rfl hl.1 rfl (lv_room (Nat.le_of_ble_eq_true rfl)) dX11_lots_82 ⟨Nat.le_of_ble_eq_true rfl, Nat.le_of_ble_eq_true rfl⟩
            · have hc82 : f_X8_kind n69 = some o82 := hc82
              exact va_runU (As := []) (rest := []) ⟨hx, hb, hml, hown, hts⟩ (c_X8_kind (l := l) (D := D) (b := b) (cI := cI) (cL := cL) hc82) (va_cwO 0 hts gX11_lots_X8_kind_u95X8 rfl rfl rfl (List.mem_of_getElem? (i := 32) rfl) (by decide +kernel) ⟨Nat.le_of_ble_eq_true rfl, Nat.le_of_ble_eq_true rfl⟩) (gp_preV hKn hG (cp_obj hcg) rfl) rfl rfl hl.1 rfl (lv_room (Nat.le_of_ble_eq_true rfl)) dX11_lots_82 ⟨Nat.le_of_ble_eq_true rfl, Nat.le_of_ble_eq_true rfl⟩
          refine gp_callI hrun82 hS (fun H locs hG hS => ?_)
          refine lv_iconst (v := 2) hx hb dX11_lots_85 (by decide) ?_
          refine lv_icmp_eq (tgt := 117) hx hb dX11_lots_86 (by decide) (fun c86 => ?_) (fun c86 => ?_)
          · have hj69 := gb_t c86 hj69
            have hj69 := Option.some.inj hj69
            subst hj69
            exact (hJ69 H locs ls hG hS (lv_sub hl [1, 2, 3, 4, 5, 6] rfl))
          · have hj69 := gb_f c86 hj69
            refine lv_iload hx hb dX11_lots_89 (lv_at hl 5 rfl) ?_
            refine lv_aload_n hx hb dX11_lots_91 rfl (lv_at hl 1 rfl) ?_
            refine lv_aload hx hb dX11_lots_92 (lv_at hl 0 rfl) ?_
            refine lv_aload_n hx hb dX11_lots_94 rfl (lv_at hl 1 rfl) ?_
            obtain ⟨t95, ht95, hj69⟩ := gb_b hj69
            refine cp_get (v := va_rf t95) hx hb hts gclX11 hown hK hG 4 (gfR_s ht95) (by decide) (hts _ (List.mem_of_getElem? (i := 1) rfl)) (fun _ h9 => h9) dX11_lots_95 ?_
            obtain ⟨o98, hc98, hj69⟩ := gb_b hj69
            have hrun98 : va_Run p l e rm_X11_lots s m args below meth c H locs 0 0 0 0 (F0 m 98 ls ([va_rf t95].reverse ++ .ref n69 :: [.ref v0, .int v5])) [.ref v0, .int v5] (gQ D b (some (.long o98)) M (gW cI cL gv) (Value.ref n69 :: [va_rf t95]).toArray) (gA b) := by
              obtain ⟨oc, hcO, hc98⟩ := gb_b hc98
              obtain ⟨hcg, hci⟩ := gfO_s hcO
              obtain ⟨kc, fc⟩ := oc
              dsimp only at hci hcg hc98
              rcases gLC_7 hci with rfl | rfl | rfl | rfl | rfl | rfl | rfl
              · exact va_runU (As := [va_rf t95]) (rest := [.ref v0, .int v5]) ⟨hx, hb, hml, hown, hts⟩ (c_X5_glow (l := l) (D := D) (b := b) (cI := cI) (cL := cL) hc98) (va_cwU 1 hts gX11_lots_X5_glow_u108X0 rfl rfl rfl rfl (by decide +kernel) ⟨Nat.le_of_ble_eq_true rfl, Nat.le_of_ble_eq_true rfl⟩) (gp_preV hKn hG (cp_obj hcg) rfl) rfl rfl hl.1 rfl (lv_room (Nat.le_of_ble_eq_true rfl)) dX11_lots_98 ⟨Nat.le_of_ble_eq_true rfl, Nat.le_of_ble_eq_true rfl⟩
              · exact va_runU (As := [va_rf t95]) (rest := [.ref v0, .int v5]) ⟨hx, hb, hml, hown, hts⟩ (c_X5_glow (l := l) (D := D) (b := b) (cI := cI) (cL := cL) hc98) (va_cwU 1 hts gX11_lots_X5_glow_u108X1 rfl rfl rfl rfl (by decide +kernel) ⟨Nat.le_of_ble_eq_true rfl, Nat.le_of_ble_eq_true rfl⟩) (gp_preV hKn hG (cp_obj hcg) rfl) rfl rfl hl.1 rfl (lv_room (Nat.le_of_ble_eq_true rfl)) dX11_lots_98 ⟨Nat.le_of_ble_eq_true rfl, Nat.le_of_ble_eq_true rfl⟩
              · exact va_runU (As := [va_rf t95]) (rest := [.ref v0, .int v5]) ⟨hx, hb, hml, hown, hts⟩ (c_X5_glow (l := l) (D := D) (b := b) (cI := cI) (cL := cL) hc98) (va_cwU 1 hts gX11_lots_X5_glow_u108X3 rfl rfl rfl rfl (by decide +kernel) ⟨Nat.le_of_ble_eq_true rfl, Nat.le_of_ble_eq_true rfl⟩) (gp_preV hKn hG (cp_obj hcg) rfl) rfl rfl hl.1 rfl (lv_room (Nat.le_of_ble_eq_true rfl)) dX11_lots_98 ⟨Nat.le_of_ble_eq_true rfl, Nat.le_of_ble_eq_true rfl⟩
              · exact va_runU (As := [va_rf t95]) (rest := [.ref v0, .int v5]) ⟨hx, hb, hml, hown, hts⟩ (c_X5_glow (l := l) (D := D) (b := b) (cI := cI) (cL := cL) hc98) (va_cwU 1 hts gX11_lots_X5_glow_u108X4 rfl rfl rfl rfl (by decide +kernel) ⟨Nat.le_of_ble_eq_true rfl, Nat.le_of_ble_eq_true rfl⟩) (gp_preV hKn hG (cp_obj hcg) rfl) rfl rfl hl.1 rfl (lv_room (Nat.le_of_ble_eq_true rfl)) dX11_lots_98 ⟨Nat.le_of_ble_eq_true rfl, Nat.le_of_ble_eq_true rfl⟩
              · exact va_runV (As := [va_rf t95]) (rest := [.ref v0, .int v5]) ⟨hx, hb, hml, hown, hts⟩ (c_X5_glow (l := l) (D := D) (b := b) (cI := cI) (cL := cL) hc98) (cwV 1 hts gX11_lots_X5_glow rfl rfl rfl (by decide +kernel) ⟨Nat.le_of_ble_eq_true rfl, Nat.le_of_ble_eq_true rfl⟩) (gp_preV hKn hG (cp_obj hcg) rfl) rfl rfl hl.1 rfl (lv_room (Nat.le_of_ble_eq_true rfl)) dX11_lots_98 ⟨Nat.le_of_ble_eq_true rfl, Nat.le_of_ble_eq_true rfl⟩
              · exact va_runU (As := [va_rf t95]) (rest := [.ref v0, .int v5]) ⟨hx, hb, hml, hown, hts⟩ (c_X5_glow (l := l) (D := D) (b := b) (cI := cI) (cL := cL) hc98) (va_cwU 1 hts gX11_lots_X5_glow_u108X7 rfl rfl rfl rfl (by decide +kernel) ⟨Nat.le_of_ble_eq_true rfl, Nat.le_of_ble_eq_true rfl⟩) (gp_preV hKn hG (cp_obj hcg) rfl) rfl rfl hl.1 rfl (lv_room (Nat.le_of_ble_eq_true rfl)) dX11_lots_98 ⟨Nat.le_of_ble_eq_true rfl, Nat.le_of_ble_eq_true rfl⟩
              · exact va_runU (As := [va_rf t95]) (rest := [.ref v0, .int v5]) ⟨hx, hb, hml, hown, hts⟩ (c_X5_glow (l := l) (D := D) (b := b) (cI := cI) (cL := cL) hc98) (va_cwU 1 hts gX11_lots_X5_glow_u108X8 rfl rfl rfl rfl (by decide +kernel) ⟨Nat.le_of_ble_eq_true rfl, Nat.le_of_ble_eq_true rfl⟩) (gp_preV hKn hG (cp_obj hcg) rfl) rfl rfl hl.1 rfl (lv_room (Nat.le_of_ble_eq_true rfl)) dX11_lots_98 ⟨Nat.le_of_ble_eq_true rfl, Nat.le_of_ble_eq_true rfl⟩
            refine gp_callL hrun98 hS (fun H locs hG hS => ?_)
            refine lv_aload_n hx hb dX11_lots_101 rfl (lv_at hl 1 rfl) ?_
            obtain ⟨t102, ht102, hj69⟩ := gb_b hj69
            refine cp_get (v := va_rf t102) hx hb hts gclX11 hown hK hG 4 (gfR_s ht102) (by decide) (hts _ (List.mem_of_getElem? (i := 1) rfl)) (fun _ h9 => h9) dX11_lots_102 ?_
            refine lv_iload_n hx hb dX11_lots_105 rfl (lv_at hl 2 rfl) ?_
            obtain ⟨q106, hq106, hj69⟩ := gb_b hj69
            refine W.eq (g2 := F0 m 106 ls [.int v1, .ref q106, .long o98, .ref v0, .int v5]) (congrArg (fun z => F0 m 106 ls [.int v1, va_rf z, .long o98, .ref v0, .int v5]) hq106) ?_
            obtain ⟨o106, hc106, hj69⟩ := gb_b hj69
            obtain ⟨oc106, hcO106, hc106⟩ := gb_b hc106
            obtain ⟨hcg106, hci106⟩ := gfO_s hcO106
            have hci106 := List.mem_singleton.mp hci106
            obtain ⟨kc106, fc106⟩ := oc106
            dsimp only at hci106 hcg106
            subst hci106
            refine gp_callI (va_runV (As := [.int v1]) (rest := [.long o98, .ref v0, .int v5]) ⟨hx, hb, hml, hown, hts⟩ (c_X10_cellOf (l := l) (D := D) (b := b) (cI := cI) (cL := cL) hc106) (cwV 1 hts gX11_lots_X10_cellOf rfl rfl rfl (by decide +kernel) ⟨Nat.le_of_ble_eq_true rfl, Nat.le_of_ble_eq_true rfl⟩) (gp_preV hKn hG (cp_obj hcg106) rfl) rfl rfl hl.1 rfl (lv_room (Nat.le_of_ble_eq_true rfl)) dX11_lots_106 ⟨Nat.le_of_ble_eq_true rfl, Nat.le_of_ble_eq_true rfl⟩) hS (fun H locs hG hS => ?_)
            refine lv_iload_n hx hb dX11_lots_109 rfl (lv_at hl 3 rfl) ?_
            refine lv_iload_n hx hb dX11_lots_110 rfl (lv_at hl 4 rfl) ?_
            obtain ⟨o111, hc111, hj69⟩ := gb_b hj69
            obtain ⟨oc111, hcO111, hc111⟩ := gb_b hc111
            obtain ⟨hcg111, hci111⟩ := gfO_s hcO111
            have hci111 := List.mem_singleton.mp hci111
            obtain ⟨kc111, fc111⟩ := oc111
            dsimp only at hci111 hcg111
            subst hci111
            refine gp_callI (va_runV (As := [.long o98, .int o106, .int v2, .int v3]) (rest := [.int v5]) ⟨hx, hb, hml, hown, hts⟩ (c_X11_minutesIn (l := l) (D := D) (b := b) (cI := cI) (cL := cL) hc111) (cwV 4 hts gX11_lots_X11_minutesIn rfl rfl rfl (by decide +kernel) ⟨Nat.le_of_ble_eq_true rfl, Nat.le_of_ble_eq_true rfl⟩) (gp_preV hKn hG (cp_obj hcg111) rfl) rfl rfl hl.1 rfl (lv_room (Nat.le_of_ble_eq_true rfl)) dX11_lots_111 ⟨Nat.le_of_ble_eq_true rfl, Nat.le_of_ble_eq_true rfl⟩) hS (fun H locs hG hS => ?_)
            refine lv_iadd hx hb dX11_lots_114 ?_
            refine lv_istore (lv' := [(5, .int (v5 + o111)), (7, .ref n69), (0, .ref v0), (1, .int v1), (2, .int v2), (3, .int v3), (6, .int v6)]) hx hb dX11_lots_115 hl (by decide) rfl (fun ls hl => ?_)
            have hj69 := Option.some.inj hj69
            subst hj69
            exact (hJ69 H locs ls hG hS (lv_sub hl [2, 3, 4, 5, 0, 6] rfl))
set_option maxHeartbeats 4000000 in
set_option maxRecDepth 100000 in
theorem c_X11_lots {v1 : Int32} {v2 : Int32} {v3 : Int32} {R : Int32 × (Nat → GV)} (hf : f_X11_lots gv h0 v1 v2 v3 = some R) : Met l yX11_lots wsX11_lots rm_X11_lots (va_Pc [.ref h0, .int v1, .int v2, .int v3] (gPre D b M (gW cI cL gv) (gTy cI cL))) (gQ D b (some (.int R.1)) M (gW cI cL R.2)) 0 0 (gA b) := by
  refine gp_met (cc := cX11_lots) (maxL := 8) (ret := (some .int)) (by decide) rfl (Nat.le_of_ble_eq_true rfl) ?_
  intro p e s m below meth c X ls hG hl
  obtain ⟨H, hH0⟩ : ∃ H : Heap, H = s.heap := ⟨_, rfl⟩
  rw [← hH0] at hG ⊢
  have hS : va_S (gA b) s.heap H [] := by rw [hH0]; exact va_S.rf
  obtain ⟨locs, hlo⟩ : ∃ z : List Loc, z = [] := ⟨_, rfl⟩
  rw [← hlo] at hS ⊢
  unfold f_X11_lots at hf
  obtain ⟨hx, hb, hr, hml, hown, hts, hlocks, hKn, hBs⟩ := id X
  have hK := hKn.1
  have gclL : gcl gLC TX5 5 wsX11_lots := gcl_L (fun _ h => List.mem_cons_of_mem _ (List.mem_append_left _ (List.mem_append_left _ (List.mem_append_left _ (List.mem_append_left _ (List.mem_append_left _ (List.mem_append_left _ (List.mem_append_right _ h)))))))) (fun _ h => List.mem_cons_of_mem _ (List.mem_append_left _ (List.mem_append_left _ (List.mem_append_left _ (List.mem_append_left _ (List.mem_append_left _ (List.mem_append_right _ h))))))) (fun _ h => List.mem_cons_of_mem _ (List.mem_append_left _ (List.mem_append_left _ (List.mem_append_left _ (List.mem_append_left _ (List.mem_append_right _ h)))))) (fun _ h => List.mem_cons_of_mem _ (List.mem_append_left _ (List.mem_append_left _ (List.mem_append_left _ (List.mem_append_right _ h))))) (fun _ h => List.mem_cons_of_mem _ (List.mem_append_left _ (List.mem_append_left _ (List.mem_append_right _ h)))) (fun _ h => List.mem_cons_of_mem _ (List.mem_append_left _ (List.mem_append_right _ h))) (fun _ h => List.mem_cons_of_mem _ (List.mem_append_right _ h))
  have gclX10 : gcl [8] TX10 6 wsX11_lots := gcl_1 rfl (fun _ h => List.mem_cons_of_mem _ (List.mem_append_left _ (List.mem_append_left _ (List.mem_append_left _ (List.mem_append_left _ (List.mem_append_left _ (List.mem_append_left _ (List.mem_append_left _ (List.mem_append_right _ h)))))))))
  have gclX11 : gcl [9] TX11 8 wsX11_lots := gcl_1 rfl (fun _ h => List.mem_cons_of_mem _ (List.mem_append_left _ (List.mem_append_left _ (List.mem_append_left _ (List.mem_append_left _ (List.mem_append_left _ (List.mem_append_left _ (List.mem_append_left _ (List.mem_append_left _ (List.mem_append_right _ h))))))))))
  have hl : lv_has ls 8 [(0, .ref h0), (1, .int v1), (2, .int v2), (3, .int v3)] := hl
  refine lv_aload_n hx hb dX11_lots_0 rfl (lv_at hl 0 rfl) ?_
  obtain ⟨t1, ht1, hf⟩ := gb_b hf
  refine cp_get (v := va_rf t1) hx hb hts gclX11 hown hK hG 4 (gfR_s ht1) (by decide) (hts _ (List.mem_of_getElem? (i := 1) rfl)) (fun _ h9 => h9) dX11_lots_1 ?_
  refine lv_iload_n hx hb dX11_lots_4 rfl (lv_at hl 1 rfl) ?_
  obtain ⟨q5, hq5, hf⟩ := gb_b hf
  refine W.eq (g2 := F0 m 5 ls [.int v1, .ref q5]) (congrArg (fun z => F0 m 5 ls [.int v1, va_rf z]) hq5) ?_
  obtain ⟨o5, hc5, hf⟩ := gb_b hf
  obtain ⟨oc5, hcO5, hc5⟩ := gb_b hc5
  obtain ⟨hcg5, hci5⟩ := gfO_s hcO5
  have hci5 := List.mem_singleton.mp hci5
  obtain ⟨kc5, fc5⟩ := oc5
  dsimp only at hci5 hcg5
  subst hci5
  refine gp_callI (va_runV (As := [.int v1]) (rest := []) ⟨hx, hb, hml, hown, hts⟩ (c_X10_isPerson (l := l) (D := D) (b := b) (cI := cI) (cL := cL) hc5) (cwV 1 hts gX11_lots_X10_isPerson rfl rfl rfl (by decide +kernel) ⟨Nat.le_of_ble_eq_true rfl, Nat.le_of_ble_eq_true rfl⟩) (gp_preV hKn hG (cp_obj hcg5) rfl) rfl rfl hl.1 rfl (lv_room (Nat.le_of_ble_eq_true rfl)) dX11_lots_5 ⟨Nat.le_of_ble_eq_true rfl, Nat.le_of_ble_eq_true rfl⟩) hS (fun H locs hG hS => ?_)
  refine lv_if_ne (tgt := 17) hx hb dX11_lots_8 (by decide) (fun c8 => ?_) (fun c8 => ?_)
  · have hf := gb_f c8 hf
    refine lv_iload_n hx hb dX11_lots_17 rfl (lv_at hl 2 rfl) ?_
    refine lv_iconst (v := 1) hx hb dX11_lots_18 (by decide) ?_
    refine lv_bipush (v := 20) hx hb dX11_lots_19 (by decide) ?_
    obtain ⟨o21, hc21, hf⟩ := gb_b hf
    refine gp_callI (va_runS (As := [.int v2, .int 1, .int 20]) (rest := []) ⟨hx, hb, hml, hown, hts⟩ (c_X11_outside (l := l) (D := D) (b := b) (cI := cI) (cL := cL) hc21) (va_cwS 3 hts gX11_lots_X11_outside rfl rfl rfl (by decide +kernel) ⟨Nat.le_of_ble_eq_true rfl, Nat.le_of_ble_eq_true rfl⟩) (gp_preS hKn hG) rfl rfl hl.1 rfl (lv_room (Nat.le_of_ble_eq_true rfl)) dX11_lots_21 ⟨Nat.le_of_ble_eq_true rfl, Nat.le_of_ble_eq_true rfl⟩) hS (fun H locs hG hS => ?_)
    refine lv_istore (lv' := [(4, .int o21), (0, .ref h0), (1, .int v1), (2, .int v2), (3, .int v3)]) hx hb dX11_lots_24 hl (by decide) rfl (fun ls hl => ?_)
    refine lv_iload hx hb dX11_lots_26 (lv_at hl 0 rfl) ?_
    refine lv_if_ge (tgt := 38) hx hb dX11_lots_28 (by decide) (fun c28 => ?_) (fun c28 => ?_)
    · have hf := gb_t c28 hf
      refine lv_iconst (v := 0) hx hb dX11_lots_38 (by decide) ?_
      refine lv_istore (lv' := [(5, .int 0), (4, .int o21), (0, .ref h0), (1, .int v1), (2, .int v2), (3, .int v3)]) hx hb dX11_lots_39 hl (by decide) rfl (fun ls hl => ?_)
      refine lv_iconst (v := 0) hx hb dX11_lots_41 (by decide) ?_
      refine lv_istore (lv' := [(6, .int 0), (5, .int 0), (4, .int o21), (0, .ref h0), (1, .int v1), (2, .int v2), (3, .int v3)]) hx hb dX11_lots_42 hl (by decide) rfl (fun ls hl => ?_)
      refine w_X11_lots_44 X _ _ _ hf (fun x44_123 hf H locs ls hG hS hl => ?_) _ _ _ hG hS (lv_sub hl [3, 4, 5, 6, 1, 0] rfl)
      · refine lv_iload hx hb dX11_lots_123 (lv_at hl 0 rfl) ?_
        have hf := Option.some.inj hf
        subst hf
        exact gp_retI hx hb hr hlocks hG hS (Nat.le_of_ble_eq_true rfl) (Nat.le_of_ble_eq_true rfl) dX11_lots_125
    · have hf := gb_f c28 hf
      refine lv_aload_n hx hb dX11_lots_31 rfl (lv_at hl 1 rfl) ?_
      refine lv_iload hx hb dX11_lots_32 (lv_at hl 0 rfl) ?_
      obtain ⟨o34, hc34, hf⟩ := gb_b hf
      obtain ⟨oc34, hcO34, hc34⟩ := gb_b hc34
      obtain ⟨hcg34, hci34⟩ := gfO_s hcO34
      have hci34 := List.mem_singleton.mp hci34
      obtain ⟨kc34, fc34⟩ := oc34
      dsimp only at hci34 hcg34
      subst hci34
      refine gp_callI (va_runV (As := [.int o21]) (rest := []) ⟨hx, hb, hml, hown, hts⟩ (c_X11_refuse (l := l) (D := D) (b := b) (cI := cI) (cL := cL) hc34) (cwV 1 hts gX11_lots_X11_refuse rfl rfl rfl (by decide +kernel) ⟨Nat.le_of_ble_eq_true rfl, Nat.le_of_ble_eq_true rfl⟩) (gp_preV hKn hG (cp_obj hcg34) rfl) rfl rfl hl.1 rfl (lv_room (Nat.le_of_ble_eq_true rfl)) dX11_lots_34 ⟨Nat.le_of_ble_eq_true rfl, Nat.le_of_ble_eq_true rfl⟩) hS (fun H locs hG hS => ?_)
      have hf := Option.some.inj hf
      subst hf
      exact gp_retI hx hb hr hlocks hG hS (Nat.le_of_ble_eq_true rfl) (Nat.le_of_ble_eq_true rfl) dX11_lots_37
  · have hf := gb_t c8 hf
    refine lv_aload_n hx hb dX11_lots_11 rfl (lv_at hl 0 rfl) ?_
    refine lv_iconst (v := (-1 : Int32)) hx hb dX11_lots_12 (by decide) ?_
    obtain ⟨o13, hc13, hf⟩ := gb_b hf
    obtain ⟨oc13, hcO13, hc13⟩ := gb_b hc13
    obtain ⟨hcg13, hci13⟩ := gfO_s hcO13
    have hci13 := List.mem_singleton.mp hci13
    obtain ⟨kc13, fc13⟩ := oc13
    dsimp only at hci13 hcg13
    subst hci13
    refine gp_callI (va_runV (As := [.int (-1 : Int32)]) (rest := []) ⟨hx, hb, hml, hown, hts⟩ (c_X11_refuse (l := l) (D := D) (b := b) (cI := cI) (cL := cL) hc13) (cwV 1 hts gX11_lots_X11_refuse rfl rfl rfl (by decide +kernel) ⟨Nat.le_of_ble_eq_true rfl, Nat.le_of_ble_eq_true rfl⟩) (gp_preV hKn hG (cp_obj hcg13) rfl) rfl rfl hl.1 rfl (lv_room (Nat.le_of_ble_eq_true rfl)) dX11_lots_13 ⟨Nat.le_of_ble_eq_true rfl, Nat.le_of_ble_eq_true rfl⟩) hS (fun H locs hG hS => ?_)
    have hf := Option.some.inj hf
    subst hf
    exact gp_retI hx hb hr hlocks hG hS (Nat.le_of_ble_eq_true rfl) (Nat.le_of_ble_eq_true rfl) dX11_lots_16
-- X11_next
abbrev rm_X11_next : Room := { frames := 5, cells := 0, slots := 0, locals := 114 }
set_option maxHeartbeats 4000000 in
set_option maxRecDepth 100000 in
theorem c_X11_next {v1 : Int32} {v2 : Int32} {R : Int32 × (Nat → GV)} (hf : f_X11_next gv h0 v1 v2 = some R) : Met l yX11_next wsX11_next rm_X11_next (va_Pc [.ref h0, .int v1, .int v2] (gPre D b M (gW cI cL gv) (gTy cI cL))) (gQ D b (some (.int R.1)) M (gW cI cL R.2)) 0 0 (gA b) := by
  refine gp_met (cc := cX11_next) (maxL := 4) (ret := (some .int)) (by decide) rfl (Nat.le_of_ble_eq_true rfl) ?_
  intro p e s m below meth c X ls hG hl
  obtain ⟨H, hH0⟩ : ∃ H : Heap, H = s.heap := ⟨_, rfl⟩
  rw [← hH0] at hG ⊢
  have hS : va_S (gA b) s.heap H [] := by rw [hH0]; exact va_S.rf
  obtain ⟨locs, hlo⟩ : ∃ z : List Loc, z = [] := ⟨_, rfl⟩
  rw [← hlo] at hS ⊢
  unfold f_X11_next at hf
  obtain ⟨hx, hb, hr, hml, hown, hts, hlocks, hKn, hBs⟩ := id X
  have hK := hKn.1
  have gclX11 : gcl [9] TX11 8 wsX11_next := gcl_1 rfl (fun _ h => List.mem_cons_of_mem _ (List.mem_append_left _ (List.mem_append_left _ (List.mem_append_left _ (List.mem_append_left _ (List.mem_append_left _ (List.mem_append_left _ (List.mem_append_left _ (List.mem_append_left _ (List.mem_append_right _ h))))))))))
  have hl : lv_has ls 4 [(0, .ref h0), (1, .int v1), (2, .int v2)] := hl
  refine lv_aload_n hx hb dX11_next_0 rfl (lv_at hl 0 rfl) ?_
  refine lv_iload_n hx hb dX11_next_1 rfl (lv_at hl 1 rfl) ?_
  refine lv_iload_n hx hb dX11_next_2 rfl (lv_at hl 2 rfl) ?_
  obtain ⟨o3, hc3, hf⟩ := gb_b hf
  obtain ⟨oc3, hcO3, hc3⟩ := gb_b hc3
  obtain ⟨hcg3, hci3⟩ := gfO_s hcO3
  have hci3 := List.mem_singleton.mp hci3
  obtain ⟨kc3, fc3⟩ := oc3
  dsimp only at hci3 hcg3
  subst hci3
  refine gp_callI (va_runV (As := [.int v1, .int v2]) (rest := []) ⟨hx, hb, hml, hown, hts⟩ (c_X11_noPersonAt (l := l) (D := D) (b := b) (cI := cI) (cL := cL) hc3) (cwV 2 hts gX11_next_X11_noPersonAt rfl rfl rfl (by decide +kernel) ⟨Nat.le_of_ble_eq_true rfl, Nat.le_of_ble_eq_true rfl⟩) (gp_preV hKn hG (cp_obj hcg3) rfl) rfl rfl hl.1 rfl (lv_room (Nat.le_of_ble_eq_true rfl)) dX11_next_3 ⟨Nat.le_of_ble_eq_true rfl, Nat.le_of_ble_eq_true rfl⟩) hS (fun H locs hG hS => ?_)
  refine lv_istore_n (lv' := [(3, .int o3), (0, .ref h0), (1, .int v1), (2, .int v2)]) hx hb dX11_next_6 rfl hl (by decide) rfl (fun ls hl => ?_)
  refine lv_iload_n hx hb dX11_next_7 rfl (lv_at hl 0 rfl) ?_
  refine lv_if_ge (tgt := 17) hx hb dX11_next_8 (by decide) (fun c8 => ?_) (fun c8 => ?_)
  · have hf := gb_t c8 hf
    refine lv_aload_n hx hb dX11_next_17 rfl (lv_at hl 1 rfl) ?_
    refine lv_aload_n hx hb dX11_next_18 rfl (lv_at hl 1 rfl) ?_
    obtain ⟨t19, ht19, hf⟩ := gb_b hf
    refine cp_get (v := va_rf t19) hx hb hts gclX11 hown hK hG 4 (gfR_s ht19) (by decide) (hts _ (List.mem_of_getElem? (i := 1) rfl)) (fun _ h9 => h9) dX11_next_19 ?_
    refine lv_iload_n hx hb dX11_next_22 rfl (lv_at hl 2 rfl) ?_
    refine lv_iload_n hx hb dX11_next_23 rfl (lv_at hl 3 rfl) ?_
    obtain ⟨q24, hq24, hf⟩ := gb_b hf
    refine W.eq (g2 := F0 m 24 ls [.int v2, .int v1, .ref q24, .ref h0]) (congrArg (fun z => F0 m 24 ls [.int v2, .int v1, va_rf z, .ref h0]) hq24) ?_
    obtain ⟨o24, hc24, hf⟩ := gb_b hf
    obtain ⟨oc24, hcO24, hc24⟩ := gb_b hc24
    obtain ⟨hcg24, hci24⟩ := gfO_s hcO24
    have hci24 := List.mem_singleton.mp hci24
    obtain ⟨kc24, fc24⟩ := oc24
    dsimp only at hci24 hcg24
    subst hci24
    refine gp_callL (va_runV (As := [.int v1, .int v2]) (rest := [.ref h0]) ⟨hx, hb, hml, hown, hts⟩ (c_X10_whereabouts (l := l) (D := D) (b := b) (cI := cI) (cL := cL) hc24) (cwV 2 hts gX11_next_X10_whereabouts rfl rfl rfl (by decide +kernel) ⟨Nat.le_of_ble_eq_true rfl, Nat.le_of_ble_eq_true rfl⟩) (gp_preV hKn hG (cp_obj hcg24) rfl) rfl rfl hl.1 rfl (lv_room (Nat.le_of_ble_eq_true rfl)) dX11_next_24 ⟨Nat.le_of_ble_eq_true rfl, Nat.le_of_ble_eq_true rfl⟩) hS (fun H locs hG hS => ?_)
    obtain ⟨o27, hc27, hf⟩ := gb_b hf
    obtain ⟨oc27, hcO27, hc27⟩ := gb_b hc27
    obtain ⟨hcg27, hci27⟩ := gfO_s hcO27
    have hci27 := List.mem_singleton.mp hci27
    obtain ⟨kc27, fc27⟩ := oc27
    dsimp only at hci27 hcg27
    subst hci27
    refine gp_callI (va_runV (As := [.long o24]) (rest := []) ⟨hx, hb, hml, hown, hts⟩ (c_X11_evenestLamp (l := l) (D := D) (b := b) (cI := cI) (cL := cL) hc27) (cwV 1 hts gX11_next_X11_evenestLamp rfl rfl rfl (by decide +kernel) ⟨Nat.le_of_ble_eq_true rfl, Nat.le_of_ble_eq_true rfl⟩) (gp_preV hKn hG (cp_obj hcg27) rfl) rfl rfl hl.1 rfl (lv_room (Nat.le_of_ble_eq_true rfl)) dX11_next_27 ⟨Nat.le_of_ble_eq_true rfl, Nat.le_of_ble_eq_true rfl⟩) hS (fun H locs hG hS => ?_)
    have hf := Option.some.inj hf
    subst hf
    exact gp_retI hx hb hr hlocks hG hS (Nat.le_of_ble_eq_true rfl) (Nat.le_of_ble_eq_true rfl) dX11_next_30
  · have hf := gb_f c8 hf
    refine lv_aload_n hx hb dX11_next_11 rfl (lv_at hl 1 rfl) ?_
    refine lv_iload_n hx hb dX11_next_12 rfl (lv_at hl 0 rfl) ?_
    obtain ⟨o13, hc13, hf⟩ := gb_b hf
    obtain ⟨oc13, hcO13, hc13⟩ := gb_b hc13
    obtain ⟨hcg13, hci13⟩ := gfO_s hcO13
    have hci13 := List.mem_singleton.mp hci13
    obtain ⟨kc13, fc13⟩ := oc13
    dsimp only at hci13 hcg13
    subst hci13
    refine gp_callI (va_runV (As := [.int o3]) (rest := []) ⟨hx, hb, hml, hown, hts⟩ (c_X11_refuse (l := l) (D := D) (b := b) (cI := cI) (cL := cL) hc13) (cwV 1 hts gX11_next_X11_refuse rfl rfl rfl (by decide +kernel) ⟨Nat.le_of_ble_eq_true rfl, Nat.le_of_ble_eq_true rfl⟩) (gp_preV hKn hG (cp_obj hcg13) rfl) rfl rfl hl.1 rfl (lv_room (Nat.le_of_ble_eq_true rfl)) dX11_next_13 ⟨Nat.le_of_ble_eq_true rfl, Nat.le_of_ble_eq_true rfl⟩) hS (fun H locs hG hS => ?_)
    have hf := Option.some.inj hf
    subst hf
    exact gp_retI hx hb hr hlocks hG hS (Nat.le_of_ble_eq_true rfl) (Nat.le_of_ble_eq_true rfl) dX11_next_16
-- X11_on
abbrev rm_X11_on : Room := { frames := 7, cells := 14, slots := 98, locals := 153 }
set_option maxHeartbeats 4000000 in
set_option maxRecDepth 100000 in
theorem c_X11_on {R : Int32 × (Nat → GV) × Nat} (hf : f_X11_on gv M h0 = some R) : Met l yX11_on wsX11_on rm_X11_on (va_Pc [.ref h0] (gPre D b M (gW cI cL gv) (gTy cI cL))) (gQ D b (some (.int R.1)) R.2.2 (gW cI cL R.2.1)) 14 98 (gA b) := by
  refine gp_met (cc := cX11_on) (maxL := 1) (ret := (some .int)) (by decide) rfl (Nat.le_of_ble_eq_true rfl) ?_
  intro p e s m below meth c X ls hG hl
  obtain ⟨H, hH0⟩ : ∃ H : Heap, H = s.heap := ⟨_, rfl⟩
  rw [← hH0] at hG ⊢
  have hS : va_S (gA b) s.heap H [] := by rw [hH0]; exact va_S.rf
  obtain ⟨locs, hlo⟩ : ∃ z : List Loc, z = [] := ⟨_, rfl⟩
  rw [← hlo] at hS ⊢
  unfold f_X11_on at hf
  obtain ⟨hx, hb, hr, hml, hown, hts, hlocks, hKn, hBs⟩ := id X
  have hK := hKn.1
  have gclX10 : gcl [8] TX10 6 wsX11_on := gcl_1 rfl (fun _ h => List.mem_cons_of_mem _ (List.mem_append_left _ (List.mem_append_left _ (List.mem_append_left _ (List.mem_append_left _ (List.mem_append_left _ (List.mem_append_left _ (List.mem_append_left _ (List.mem_append_right _ h)))))))))
  have gclX11 : gcl [9] TX11 8 wsX11_on := gcl_1 rfl (fun _ h => List.mem_cons_of_mem _ (List.mem_append_left _ (List.mem_append_left _ (List.mem_append_left _ (List.mem_append_left _ (List.mem_append_left _ (List.mem_append_left _ (List.mem_append_left _ (List.mem_append_left _ (List.mem_append_right _ h))))))))))
  have hl : lv_has ls 1 [(0, .ref h0)] := hl
  refine lv_aload_n hx hb dX11_on_0 rfl (lv_at hl 0 rfl) ?_
  obtain ⟨t1, ht1, hf⟩ := gb_b hf
  refine cp_get (v := .int t1) hx hb hts gclX11 hown hK hG 7 (gfI_s ht1) (by decide) (hts _ (List.mem_of_getElem? (i := 1) rfl)) (fun _ h9 => h9) dX11_on_1 ?_
  refine lv_if_ne (tgt := 14) hx hb dX11_on_4 (by decide) (fun c4 => ?_) (fun c4 => ?_)
  · have hf := gb_f c4 hf
    refine lv_aload_n hx hb dX11_on_14 rfl (lv_at hl 0 rfl) ?_
    obtain ⟨t15, ht15, hf⟩ := gb_b hf
    refine cp_get (v := va_rf t15) hx hb hts gclX11 hown hK hG 4 (gfR_s ht15) (by decide) (hts _ (List.mem_of_getElem? (i := 2) rfl)) (fun _ h9 => h9) dX11_on_15 ?_
    refine lv_aload_n hx hb dX11_on_18 rfl (lv_at hl 0 rfl) ?_
    obtain ⟨t19, ht19, hf⟩ := gb_b hf
    refine cp_get (v := va_rf t19) hx hb hts gclX11 hown hK hG 3 (gfR_s ht19) (by decide) (hts _ (List.mem_of_getElem? (i := 3) rfl)) (fun _ h9 => h9) dX11_on_19 ?_
    obtain ⟨q22, hq22, hf⟩ := gb_b hf
    refine W.eq (g2 := F0 m 22 ls [va_rf t19, .ref q22]) (congrArg (fun z => F0 m 22 ls [va_rf t19, va_rf z]) hq22) ?_
    obtain ⟨o22, hc22, hf⟩ := gb_b hf
    obtain ⟨oc22, hcO22, hc22⟩ := gb_b hc22
    obtain ⟨hcg22, hci22⟩ := gfO_s hcO22
    have hci22 := List.mem_singleton.mp hci22
    obtain ⟨kc22, fc22⟩ := oc22
    dsimp only at hci22 hcg22
    subst hci22
    refine gp_callV (va_runV (As := [va_rf t19]) (rest := []) ⟨hx, hb, hml, hown, hts⟩ (c_X10_become (l := l) (D := D) (b := b) (cI := cI) (cL := cL) hc22) (cwV 1 hts gX11_on_X10_become rfl rfl rfl (by decide +kernel) ⟨Nat.le_of_ble_eq_true rfl, Nat.le_of_ble_eq_true rfl⟩) (gp_preV hKn hG (cp_obj hcg22) rfl) rfl rfl hl.1 rfl (lv_room (Nat.le_of_ble_eq_true rfl)) dX11_on_22 ⟨Nat.le_of_ble_eq_true rfl, Nat.le_of_ble_eq_true rfl⟩) hS (fun H locs hG hS => ?_)
    refine lv_aload_n hx hb dX11_on_25 rfl (lv_at hl 0 rfl) ?_
    obtain ⟨t26, ht26, hf⟩ := gb_b hf
    refine cp_get (v := va_rf t26) hx hb hts gclX11 hown hK hG 4 (gfR_s ht26) (by decide) (hts _ (List.mem_of_getElem? (i := 2) rfl)) (fun _ h9 => h9) dX11_on_26 ?_
    obtain ⟨q29, hq29, hf⟩ := gb_b hf
    refine W.eq (g2 := F0 m 29 ls [.ref q29]) (congrArg (fun z => F0 m 29 ls [va_rf z]) hq29) ?_
    obtain ⟨t29, ht29, hf⟩ := gb_b hf
    refine cp_get (v := .int t29) hx hb hts gclX10 hown hK hG 5 (gfI_s ht29) (by decide) (hts _ (List.mem_of_getElem? (i := 4) rfl)) (fun _ h9 => h9) dX11_on_29 ?_
    have hf := Option.some.inj hf
    subst hf
    exact gp_retI hx hb hr hlocks hG hS (Nat.le_of_ble_eq_true rfl) (Nat.le_of_ble_eq_true rfl) dX11_on_32
  · have hf := gb_t c4 hf
    refine lv_aload_n hx hb dX11_on_7 rfl (lv_at hl 0 rfl) ?_
    refine lv_bipush (v := (-3 : Int32)) hx hb dX11_on_8 (by decide) ?_
    obtain ⟨o10, hc10, hf⟩ := gb_b hf
    obtain ⟨oc10, hcO10, hc10⟩ := gb_b hc10
    obtain ⟨hcg10, hci10⟩ := gfO_s hcO10
    have hci10 := List.mem_singleton.mp hci10
    obtain ⟨kc10, fc10⟩ := oc10
    dsimp only at hci10 hcg10
    subst hci10
    refine gp_callI (va_runV (As := [.int (-3 : Int32)]) (rest := []) ⟨hx, hb, hml, hown, hts⟩ (c_X11_refuse (l := l) (D := D) (b := b) (cI := cI) (cL := cL) hc10) (cwV 1 hts gX11_on_X11_refuse rfl rfl rfl (by decide +kernel) ⟨Nat.le_of_ble_eq_true rfl, Nat.le_of_ble_eq_true rfl⟩) (gp_preV hKn hG (cp_obj hcg10) rfl) rfl rfl hl.1 rfl (lv_room (Nat.le_of_ble_eq_true rfl)) dX11_on_10 ⟨Nat.le_of_ble_eq_true rfl, Nat.le_of_ble_eq_true rfl⟩) hS (fun H locs hG hS => ?_)
    have hf := Option.some.inj hf
    subst hf
    exact gp_retI hx hb hr hlocks hG hS (Nat.le_of_ble_eq_true rfl) (Nat.le_of_ble_eq_true rfl) dX11_on_13
-- X11_oneMore
abbrev rm_X11_oneMore : Room := { frames := 5, cells := 0, slots := 0, locals := 120 }
set_option maxHeartbeats 4000000 in
set_option maxRecDepth 100000 in
theorem w_X11_oneMore_56 {α : Type} {R : α} {K105 : (Int32 × Int32) → Option α} {v0 : Nat} {v1 : Int32} {v2 : Int32} {v4 : Int64} (X : gC p s m args meth c cX11_oneMore 10 (some .int) wsX11_oneMore RX11 D b (gTy cI cL)) : ∀ (n : Nat) (v6 : Int32) (v7 : Int32) (v8 : Int32), L_X11_oneMore_56 K105 gv v0 v1 v2 v4 n v6 v7 v8 = some R → (∀ (x : Int32 × Int32), K105 x = some R → ∀ (H : Heap) (locs : List Loc) (ls : Array Slot), GP D b M (gW cI cL gv) H → va_S (gA b) s.heap H locs → lv_has ls 10 [(2, .int v2), (6, .int x.1), (7, .int x.2)] → W p l e rm_X11_oneMore s m args below meth c H locs 0 0 Q (F0 m 105 ls [])) → ∀ (H : Heap) (locs : List Loc) (ls : Array Slot), GP D b M (gW cI cL gv) H → va_S (gA b) s.heap H locs → lv_has ls 10 [(0, .ref v0), (1, .int v1), (2, .int v2), (4, .long v4), (6, .int v6), (7, .int v7), (8, .int v8)] → W p l e rm_X11_oneMore s m args below meth c H locs 0 0 Q (F0 m 56 ls []) := by
  obtain ⟨hx, hb, hr, hml, hown, hts, hlocks, hKn, hBs⟩ := id X
  have hK := hKn.1
  have gclX11 : gcl [9] TX11 8 wsX11_oneMore := gcl_1 rfl (fun _ h => List.mem_cons_of_mem _ (List.mem_append_left _ (List.mem_append_left _ (List.mem_append_left _ (List.mem_append_left _ (List.mem_append_left _ (List.mem_append_left _ (List.mem_append_left _ (List.mem_append_left _ (List.mem_append_right _ h))))))))))
  intro n
  induction n with
  | zero =>
    intro v6 v7 v8 hf
    cases hf
  | succ n ih =>
    intro v6 v7 v8 hf hk105 H locs ls hG hS hl
    rw [L_X11_oneMore_56.eq_2] at hf
    refine lv_iload hx hb dX11_oneMore_56 (lv_at hl 6 rfl) ?_
    refine lv_bipush (v := 36) hx hb dX11_oneMore_58 (by decide) ?_
    refine lv_icmp_ge (tgt := 105) hx hb dX11_oneMore_60 (by decide) (fun c60 => ?_) (fun c60 => ?_)
    · have hf := gb_t c60 hf
      exact (hk105 _ hf _ _ _ hG hS (lv_sub hl [2, 4, 5] rfl))
    · have hf := gb_f c60 hf
      refine lv_iload hx hb dX11_oneMore_63 (lv_at hl 6 rfl) ?_
      refine lv_iload_n hx hb dX11_oneMore_65 rfl (lv_at hl 1 rfl) ?_
      refine lv_aload_n hx hb dX11_oneMore_66 rfl (lv_at hl 0 rfl) ?_
      obtain ⟨t67, ht67, hf⟩ := gb_b hf
      refine cp_get (v := va_rf t67) hx hb hts gclX11 hown hK hG 4 (gfR_s ht67) (by decide) (hts _ (List.mem_of_getElem? (i := 1) rfl)) (fun _ h9 => h9) dX11_oneMore_67 ?_
      obtain ⟨q70, hq70, hf⟩ := gb_b hf
      refine W.eq (g2 := F0 m 70 ls [.ref q70, .int v1, .int v8]) (congrArg (fun z => F0 m 70 ls [va_rf z, .int v1, .int v8]) hq70) ?_
      obtain ⟨o70, hc70, hf⟩ := gb_b hf
      obtain ⟨oc70, hcO70, hc70⟩ := gb_b hc70
      obtain ⟨hcg70, hci70⟩ := gfO_s hcO70
      have hci70 := List.mem_singleton.mp hci70
      obtain ⟨kc70, fc70⟩ := oc70
      dsimp only at hci70 hcg70
      subst hci70
      refine gp_callL (va_runV (As := []) (rest := [.int v1, .int v8]) ⟨hx, hb, hml, hown, hts⟩ (c_X10_free (l := l) (D := D) (b := b) (cI := cI) (cL := cL) hc70) (cwV 0 hts gX11_oneMore_X10_free rfl rfl rfl (by decide +kernel) ⟨Nat.le_of_ble_eq_true rfl, Nat.le_of_ble_eq_true rfl⟩) (gp_preV hKn hG (cp_obj hcg70) rfl) rfl rfl hl.1 rfl (lv_room (Nat.le_of_ble_eq_true rfl)) dX11_oneMore_70 ⟨Nat.le_of_ble_eq_true rfl, Nat.le_of_ble_eq_true rfl⟩) hS (fun H locs hG hS => ?_)
      obtain ⟨o73, hc73, hf⟩ := gb_b hf
      refine gp_callL (va_runS (As := [.int v8, .int v1, .long o70]) (rest := []) ⟨hx, hb, hml, hown, hts⟩ (c_X2_within (l := l) (D := D) (b := b) (cI := cI) (cL := cL) hc73) (va_cwS 3 hts gX11_oneMore_X2_within rfl rfl rfl (by decide +kernel) ⟨Nat.le_of_ble_eq_true rfl, Nat.le_of_ble_eq_true rfl⟩) (gp_preS hKn hG) rfl rfl hl.1 rfl (lv_room (Nat.le_of_ble_eq_true rfl)) dX11_oneMore_73 ⟨Nat.le_of_ble_eq_true rfl, Nat.le_of_ble_eq_true rfl⟩) hS (fun H locs hG hS => ?_)
      refine lv_lload hx hb dX11_oneMore_76 (lv_at hl 3 rfl) ?_
      refine lv_land hx hb dX11_oneMore_78 ?_
      obtain ⟨o79, hc79, hf⟩ := gb_b hf
      refine gp_callI (va_runS (As := [.long (o73 &&& v4)]) (rest := []) ⟨hx, hb, hml, hown, hts⟩ (c_X2_howMany (l := l) (D := D) (b := b) (cI := cI) (cL := cL) hc79) (va_cwS 1 hts gX11_oneMore_X2_howMany rfl rfl rfl (by decide +kernel) ⟨Nat.le_of_ble_eq_true rfl, Nat.le_of_ble_eq_true rfl⟩) (gp_preS hKn hG) rfl rfl hl.1 rfl (lv_room (Nat.le_of_ble_eq_true rfl)) dX11_oneMore_79 ⟨Nat.le_of_ble_eq_true rfl, Nat.le_of_ble_eq_true rfl⟩) hS (fun H locs hG hS => ?_)
      refine lv_istore (lv' := [(9, .int o79), (0, .ref v0), (1, .int v1), (2, .int v2), (4, .long v4), (6, .int v6), (7, .int v7), (8, .int v8)]) hx hb dX11_oneMore_82 hl (by decide) rfl (fun ls hl => ?_)
      refine lv_iload hx hb dX11_oneMore_84 (lv_at hl 0 rfl) ?_
      refine lv_iload hx hb dX11_oneMore_86 (lv_at hl 6 rfl) ?_
      obtain ⟨j88, hj88, hf⟩ := gb_b hf
      have hJ88 : ∀ (H : Heap) (locs : List Loc) (ls : Array Slot), GP D b M (gW cI cL gv) H → va_S (gA b) s.heap H locs → lv_has ls 10 [(0, .ref v0), (1, .int v1), (2, .int v2), (4, .long v4), (6, .int j88.1), (7, .int j88.2), (8, .int v8)] → W p l e rm_X11_oneMore s m args below meth c H locs 0 0 Q (F0 m 99 ls []) := by
        intro H locs ls hG hS hl
        refine lv_iinc (v := v8 + 1) (lv' := [(8, .int (v8 + 1)), (0, .ref v0), (1, .int v1), (2, .int v2), (4, .long v4), (6, .int j88.1), (7, .int j88.2)]) hx hb dX11_oneMore_99 hl (k := 6) rfl rfl (by decide) rfl (fun ls hl => ?_)
        refine lv_goto (tgt := 56) hx hb dX11_oneMore_102 (by decide) ?_
        exact ih _ _ _ hf hk105 _ _ _ hG hS (lv_sub hl [1, 2, 3, 4, 5, 6, 0] rfl)
      refine lv_icmp_le (tgt := 99) hx hb dX11_oneMore_88 (by decide) (fun c88 => ?_) (fun c88 => ?_)
      · have hj88 := gb_t c88 hj88
        have hj88 := Option.some.inj hj88
        subst hj88
        exact (hJ88 H locs ls hG hS (lv_sub hl [1, 2, 3, 4, 5, 6, 7] rfl))
      · have hj88 := gb_f c88 hj88
        refine lv_iload hx hb dX11_oneMore_91 (lv_at hl 0 rfl) ?_
        refine lv_istore (lv' := [(7, .int o79), (9, .int o79), (0, .ref v0), (1, .int v1), (2, .int v2), (4, .long v4), (6, .int v6), (8, .int v8)]) hx hb dX11_oneMore_93 hl (by decide) rfl (fun ls hl => ?_)
        refine lv_iload hx hb dX11_oneMore_95 (lv_at hl 7 rfl) ?_
        refine lv_istore (lv' := [(6, .int v8), (7, .int o79), (9, .int o79), (0, .ref v0), (1, .int v1), (2, .int v2), (4, .long v4), (8, .int v8)]) hx hb dX11_oneMore_97 hl (by decide) rfl (fun ls hl => ?_)
        have hj88 := Option.some.inj hj88
        subst hj88
        exact (hJ88 H locs ls hG hS (lv_sub hl [3, 4, 5, 6, 0, 1, 7] rfl))
set_option maxHeartbeats 4000000 in
set_option maxRecDepth 100000 in
theorem c_X11_oneMore {v1 : Int32} {v2 : Int32} {R : Int32 × (Nat → GV)} (hf : f_X11_oneMore gv h0 v1 v2 = some R) : Met l yX11_oneMore wsX11_oneMore rm_X11_oneMore (va_Pc [.ref h0, .int v1, .int v2] (gPre D b M (gW cI cL gv) (gTy cI cL))) (gQ D b (some (.int R.1)) M (gW cI cL R.2)) 0 0 (gA b) := by
  refine gp_met (cc := cX11_oneMore) (maxL := 10) (ret := (some .int)) (by decide) rfl (Nat.le_of_ble_eq_true rfl) ?_
  intro p e s m below meth c X ls hG hl
  obtain ⟨H, hH0⟩ : ∃ H : Heap, H = s.heap := ⟨_, rfl⟩
  rw [← hH0] at hG ⊢
  have hS : va_S (gA b) s.heap H [] := by rw [hH0]; exact va_S.rf
  obtain ⟨locs, hlo⟩ : ∃ z : List Loc, z = [] := ⟨_, rfl⟩
  rw [← hlo] at hS ⊢
  unfold f_X11_oneMore at hf
  obtain ⟨hx, hb, hr, hml, hown, hts, hlocks, hKn, hBs⟩ := id X
  have hK := hKn.1
  have gclX11 : gcl [9] TX11 8 wsX11_oneMore := gcl_1 rfl (fun _ h => List.mem_cons_of_mem _ (List.mem_append_left _ (List.mem_append_left _ (List.mem_append_left _ (List.mem_append_left _ (List.mem_append_left _ (List.mem_append_left _ (List.mem_append_left _ (List.mem_append_left _ (List.mem_append_right _ h))))))))))
  have hl : lv_has ls 10 [(0, .ref h0), (1, .int v1), (2, .int v2)] := hl
  refine lv_iload_n hx hb dX11_oneMore_0 rfl (lv_at hl 1 rfl) ?_
  refine lv_iconst (v := 0) hx hb dX11_oneMore_1 (by decide) ?_
  refine lv_iconst (v := 5) hx hb dX11_oneMore_2 (by decide) ?_
  obtain ⟨o3, hc3, hf⟩ := gb_b hf
  refine gp_callI (va_runS (As := [.int v1, .int 0, .int 5]) (rest := []) ⟨hx, hb, hml, hown, hts⟩ (c_X11_outside (l := l) (D := D) (b := b) (cI := cI) (cL := cL) hc3) (va_cwS 3 hts gX11_oneMore_X11_outside rfl rfl rfl (by decide +kernel) ⟨Nat.le_of_ble_eq_true rfl, Nat.le_of_ble_eq_true rfl⟩) (gp_preS hKn hG) rfl rfl hl.1 rfl (lv_room (Nat.le_of_ble_eq_true rfl)) dX11_oneMore_3 ⟨Nat.le_of_ble_eq_true rfl, Nat.le_of_ble_eq_true rfl⟩) hS (fun H locs hG hS => ?_)
  refine lv_istore_n (lv' := [(3, .int o3), (0, .ref h0), (1, .int v1), (2, .int v2)]) hx hb dX11_oneMore_6 rfl hl (by decide) rfl (fun ls hl => ?_)
  refine lv_iload_n hx hb dX11_oneMore_7 rfl (lv_at hl 0 rfl) ?_
  refine lv_if_ge (tgt := 17) hx hb dX11_oneMore_8 (by decide) (fun c8 => ?_) (fun c8 => ?_)
  · have hf := gb_t c8 hf
    refine lv_iload_n hx hb dX11_oneMore_17 rfl (lv_at hl 3 rfl) ?_
    refine lv_if_eq (tgt := 33) hx hb dX11_oneMore_18 (by decide) (fun c18 => ?_) (fun c18 => ?_)
    · have hf := gb_t c18 hf
      refine lv_aload_n hx hb dX11_oneMore_33 rfl (lv_at hl 1 rfl) ?_
      obtain ⟨t34, ht34, hf⟩ := gb_b hf
      refine cp_get (v := va_rf t34) hx hb hts gclX11 hown hK hG 4 (gfR_s ht34) (by decide) (hts _ (List.mem_of_getElem? (i := 1) rfl)) (fun _ h9 => h9) dX11_oneMore_34 ?_
      refine lv_iconst (v := 0) hx hb dX11_oneMore_37 (by decide) ?_
      obtain ⟨q38, hq38, hf⟩ := gb_b hf
      refine W.eq (g2 := F0 m 38 ls [.int 0, .ref q38]) (congrArg (fun z => F0 m 38 ls [.int 0, va_rf z]) hq38) ?_
      obtain ⟨o38, hc38, hf⟩ := gb_b hf
      obtain ⟨oc38, hcO38, hc38⟩ := gb_b hc38
      obtain ⟨hcg38, hci38⟩ := gfO_s hcO38
      have hci38 := List.mem_singleton.mp hci38
      obtain ⟨kc38, fc38⟩ := oc38
      dsimp only at hci38 hcg38
      subst hci38
      refine gp_callL (va_runV (As := [.int 0]) (rest := []) ⟨hx, hb, hml, hown, hts⟩ (c_X10_litBut (l := l) (D := D) (b := b) (cI := cI) (cL := cL) hc38) (cwV 1 hts gX11_oneMore_X10_litBut rfl rfl rfl (by decide +kernel) ⟨Nat.le_of_ble_eq_true rfl, Nat.le_of_ble_eq_true rfl⟩) (gp_preV hKn hG (cp_obj hcg38) rfl) rfl rfl hl.1 rfl (lv_room (Nat.le_of_ble_eq_true rfl)) dX11_oneMore_38 ⟨Nat.le_of_ble_eq_true rfl, Nat.le_of_ble_eq_true rfl⟩) hS (fun H locs hG hS => ?_)
      refine lv_ldc2 (v := (-1 : Int64)) hx hb hown (hts _ (List.mem_of_getElem? (i := 2) rfl)) dX11_oneMore_41 ?_
      refine lv_lxor hx hb dX11_oneMore_44 ?_
      refine lv_lstore (lv' := [(4, .long (o38 ^^^ (-1 : Int64))), (3, .int o3), (0, .ref h0), (1, .int v1), (2, .int v2)]) hx hb dX11_oneMore_45 hl (by decide) rfl (fun ls hl => ?_)
      refine lv_iconst (v := 0) hx hb dX11_oneMore_47 (by decide) ?_
      refine lv_istore (lv' := [(6, .int 0), (4, .long (o38 ^^^ (-1 : Int64))), (3, .int o3), (0, .ref h0), (1, .int v1), (2, .int v2)]) hx hb dX11_oneMore_48 hl (by decide) rfl (fun ls hl => ?_)
      refine lv_iconst (v := (-1 : Int32)) hx hb dX11_oneMore_50 (by decide) ?_
      refine lv_istore (lv' := [(7, .int (-1 : Int32)), (6, .int 0), (4, .long (o38 ^^^ (-1 : Int64))), (3, .int o3), (0, .ref h0), (1, .int v1), (2, .int v2)]) hx hb dX11_oneMore_51 hl (by decide) rfl (fun ls hl => ?_)
      refine lv_iconst (v := 0) hx hb dX11_oneMore_53 (by decide) ?_
      refine lv_istore (lv' := [(8, .int 0), (7, .int (-1 : Int32)), (6, .int 0), (4, .long (o38 ^^^ (-1 : Int64))), (3, .int o3), (0, .ref h0), (1, .int v1), (2, .int v2)]) hx hb dX11_oneMore_54 hl (by decide) rfl (fun ls hl => ?_)
      refine w_X11_oneMore_56 X _ _ _ _ hf (fun x56_105 hf H locs ls hG hS hl => ?_) _ _ _ hG hS (lv_sub hl [5, 6, 7, 3, 2, 1, 0] rfl)
      · refine lv_iload_n hx hb dX11_oneMore_105 rfl (lv_at hl 0 rfl) ?_
        have hJ106 : ∀ Z : Int32, Z = (if v2 = 0 then x56_105.2 else x56_105.1) → W p l e rm_X11_oneMore s m [.ref h0, .int v1, .int v2].toArray below meth c H locs 0 0 (MQ below (gQ D b (some (.int R.1)) M (gW cI cL R.2)) [.ref h0, .int v1, .int v2].toArray s 0 0 (gA b)) (F0 m 116 ls (.int Z :: [])) := by
          intro Z hZ
          subst hZ
          have hf := Option.some.inj hf
          subst hf
          exact gp_retI hx hb hr hlocks hG hS (Nat.le_of_ble_eq_true rfl) (Nat.le_of_ble_eq_true rfl) dX11_oneMore_116
        refine lv_if_ne (tgt := 114) hx hb dX11_oneMore_106 (by decide) (fun c106 => ?_) (fun c106 => ?_)
        · rw [if_neg c106] at hJ106
          refine lv_iload hx hb dX11_oneMore_114 (lv_at hl 1 rfl) ?_
          exact hJ106 _ rfl
        · rw [if_pos c106] at hJ106
          refine lv_iload hx hb dX11_oneMore_109 (lv_at hl 2 rfl) ?_
          refine lv_goto (tgt := 116) hx hb dX11_oneMore_111 (by decide) ?_
          exact hJ106 _ rfl
    · have hf := gb_f c18 hf
      refine lv_iload_n hx hb dX11_oneMore_21 rfl (lv_at hl 3 rfl) ?_
      refine lv_iconst (v := 1) hx hb dX11_oneMore_22 (by decide) ?_
      refine lv_icmp_eq (tgt := 33) hx hb dX11_oneMore_23 (by decide) (fun c23 => ?_) (fun c23 => ?_)
      · have hf := gb_t c23 hf
        refine lv_aload_n hx hb dX11_oneMore_33 rfl (lv_at hl 1 rfl) ?_
        obtain ⟨t34, ht34, hf⟩ := gb_b hf
        refine cp_get (v := va_rf t34) hx hb hts gclX11 hown hK hG 4 (gfR_s ht34) (by decide) (hts _ (List.mem_of_getElem? (i := 1) rfl)) (fun _ h9 => h9) dX11_oneMore_34 ?_
        refine lv_iconst (v := 0) hx hb dX11_oneMore_37 (by decide) ?_
        obtain ⟨q38, hq38, hf⟩ := gb_b hf
        refine W.eq (g2 := F0 m 38 ls [.int 0, .ref q38]) (congrArg (fun z => F0 m 38 ls [.int 0, va_rf z]) hq38) ?_
        obtain ⟨o38, hc38, hf⟩ := gb_b hf
        obtain ⟨oc38, hcO38, hc38⟩ := gb_b hc38
        obtain ⟨hcg38, hci38⟩ := gfO_s hcO38
        have hci38 := List.mem_singleton.mp hci38
        obtain ⟨kc38, fc38⟩ := oc38
        dsimp only at hci38 hcg38
        subst hci38
        refine gp_callL (va_runV (As := [.int 0]) (rest := []) ⟨hx, hb, hml, hown, hts⟩ (c_X10_litBut (l := l) (D := D) (b := b) (cI := cI) (cL := cL) hc38) (cwV 1 hts gX11_oneMore_X10_litBut rfl rfl rfl (by decide +kernel) ⟨Nat.le_of_ble_eq_true rfl, Nat.le_of_ble_eq_true rfl⟩) (gp_preV hKn hG (cp_obj hcg38) rfl) rfl rfl hl.1 rfl (lv_room (Nat.le_of_ble_eq_true rfl)) dX11_oneMore_38 ⟨Nat.le_of_ble_eq_true rfl, Nat.le_of_ble_eq_true rfl⟩) hS (fun H locs hG hS => ?_)
        refine lv_ldc2 (v := (-1 : Int64)) hx hb hown (hts _ (List.mem_of_getElem? (i := 2) rfl)) dX11_oneMore_41 ?_
        refine lv_lxor hx hb dX11_oneMore_44 ?_
        refine lv_lstore (lv' := [(4, .long (o38 ^^^ (-1 : Int64))), (3, .int o3), (0, .ref h0), (1, .int v1), (2, .int v2)]) hx hb dX11_oneMore_45 hl (by decide) rfl (fun ls hl => ?_)
        refine lv_iconst (v := 0) hx hb dX11_oneMore_47 (by decide) ?_
        refine lv_istore (lv' := [(6, .int 0), (4, .long (o38 ^^^ (-1 : Int64))), (3, .int o3), (0, .ref h0), (1, .int v1), (2, .int v2)]) hx hb dX11_oneMore_48 hl (by decide) rfl (fun ls hl => ?_)
        refine lv_iconst (v := (-1 : Int32)) hx hb dX11_oneMore_50 (by decide) ?_
        refine lv_istore (lv' := [(7, .int (-1 : Int32)), (6, .int 0), (4, .long (o38 ^^^ (-1 : Int64))), (3, .int o3), (0, .ref h0), (1, .int v1), (2, .int v2)]) hx hb dX11_oneMore_51 hl (by decide) rfl (fun ls hl => ?_)
        refine lv_iconst (v := 0) hx hb dX11_oneMore_53 (by decide) ?_
        refine lv_istore (lv' := [(8, .int 0), (7, .int (-1 : Int32)), (6, .int 0), (4, .long (o38 ^^^ (-1 : Int64))), (3, .int o3), (0, .ref h0), (1, .int v1), (2, .int v2)]) hx hb dX11_oneMore_54 hl (by decide) rfl (fun ls hl => ?_)
        refine w_X11_oneMore_56 X _ _ _ _ hf (fun x56_105 hf H locs ls hG hS hl => ?_) _ _ _ hG hS (lv_sub hl [5, 6, 7, 3, 2, 1, 0] rfl)
        · refine lv_iload_n hx hb dX11_oneMore_105 rfl (lv_at hl 0 rfl) ?_
          have hJ106 : ∀ Z : Int32, Z = (if v2 = 0 then x56_105.2 else x56_105.1) → W p l e rm_X11_oneMore s m [.ref h0, .int v1, .int v2].toArray below meth c H locs 0 0 (MQ below (gQ D b (some (.int R.1)) M (gW cI cL R.2)) [.ref h0, .int v1, .int v2].toArray s 0 0 (gA b)) (F0 m 116 ls (.int Z :: [])) := by
            intro Z hZ
            subst hZ
            have hf := Option.some.inj hf
            subst hf
            exact gp_retI hx hb hr hlocks hG hS (Nat.le_of_ble_eq_true rfl) (Nat.le_of_ble_eq_true rfl) dX11_oneMore_116
          refine lv_if_ne (tgt := 114) hx hb dX11_oneMore_106 (by decide) (fun c106 => ?_) (fun c106 => ?_)
          · rw [if_neg c106] at hJ106
            refine lv_iload hx hb dX11_oneMore_114 (lv_at hl 1 rfl) ?_
            exact hJ106 _ rfl
          · rw [if_pos c106] at hJ106
            refine lv_iload hx hb dX11_oneMore_109 (lv_at hl 2 rfl) ?_
            refine lv_goto (tgt := 116) hx hb dX11_oneMore_111 (by decide) ?_
            exact hJ106 _ rfl
      · have hf := gb_f c23 hf
        refine lv_aload_n hx hb dX11_oneMore_26 rfl (lv_at hl 1 rfl) ?_
        refine lv_bipush (v := (-2 : Int32)) hx hb dX11_oneMore_27 (by decide) ?_
        obtain ⟨o29, hc29, hf⟩ := gb_b hf
        obtain ⟨oc29, hcO29, hc29⟩ := gb_b hc29
        obtain ⟨hcg29, hci29⟩ := gfO_s hcO29
        have hci29 := List.mem_singleton.mp hci29
        obtain ⟨kc29, fc29⟩ := oc29
        dsimp only at hci29 hcg29
        subst hci29
        refine gp_callI (va_runV (As := [.int (-2 : Int32)]) (rest := []) ⟨hx, hb, hml, hown, hts⟩ (c_X11_refuse (l := l) (D := D) (b := b) (cI := cI) (cL := cL) hc29) (cwV 1 hts gX11_oneMore_X11_refuse rfl rfl rfl (by decide +kernel) ⟨Nat.le_of_ble_eq_true rfl, Nat.le_of_ble_eq_true rfl⟩) (gp_preV hKn hG (cp_obj hcg29) rfl) rfl rfl hl.1 rfl (lv_room (Nat.le_of_ble_eq_true rfl)) dX11_oneMore_29 ⟨Nat.le_of_ble_eq_true rfl, Nat.le_of_ble_eq_true rfl⟩) hS (fun H locs hG hS => ?_)
        have hf := Option.some.inj hf
        subst hf
        exact gp_retI hx hb hr hlocks hG hS (Nat.le_of_ble_eq_true rfl) (Nat.le_of_ble_eq_true rfl) dX11_oneMore_32
  · have hf := gb_f c8 hf
    refine lv_aload_n hx hb dX11_oneMore_11 rfl (lv_at hl 1 rfl) ?_
    refine lv_iload_n hx hb dX11_oneMore_12 rfl (lv_at hl 0 rfl) ?_
    obtain ⟨o13, hc13, hf⟩ := gb_b hf
    obtain ⟨oc13, hcO13, hc13⟩ := gb_b hc13
    obtain ⟨hcg13, hci13⟩ := gfO_s hcO13
    have hci13 := List.mem_singleton.mp hci13
    obtain ⟨kc13, fc13⟩ := oc13
    dsimp only at hci13 hcg13
    subst hci13
    refine gp_callI (va_runV (As := [.int o3]) (rest := []) ⟨hx, hb, hml, hown, hts⟩ (c_X11_refuse (l := l) (D := D) (b := b) (cI := cI) (cL := cL) hc13) (cwV 1 hts gX11_oneMore_X11_refuse rfl rfl rfl (by decide +kernel) ⟨Nat.le_of_ble_eq_true rfl, Nat.le_of_ble_eq_true rfl⟩) (gp_preV hKn hG (cp_obj hcg13) rfl) rfl rfl hl.1 rfl (lv_room (Nat.le_of_ble_eq_true rfl)) dX11_oneMore_13 ⟨Nat.le_of_ble_eq_true rfl, Nat.le_of_ble_eq_true rfl⟩) hS (fun H locs hG hS => ?_)
    have hf := Option.some.inj hf
    subst hf
    exact gp_retI hx hb hr hlocks hG hS (Nat.le_of_ble_eq_true rfl) (Nat.le_of_ble_eq_true rfl) dX11_oneMore_16
-- X11_person
abbrev rm_X11_person : Room := { frames := 3, cells := 0, slots := 0, locals := 63 }
set_option maxHeartbeats 4000000 in
set_option maxRecDepth 100000 in
theorem c_X11_person {v1 : Int32} {R : Int32 × (Nat → GV)} (hf : f_X11_person gv h0 v1 = some R) : Met l yX11_person wsX11_person rm_X11_person (va_Pc [.ref h0, .int v1] (gPre D b M (gW cI cL gv) (gTy cI cL))) (gQ D b (some (.int R.1)) M (gW cI cL R.2)) 0 0 (gA b) := by
  refine gp_met (cc := cX11_person) (maxL := 2) (ret := (some .int)) (by decide) rfl (Nat.le_of_ble_eq_true rfl) ?_
  intro p e s m below meth c X ls hG hl
  obtain ⟨H, hH0⟩ : ∃ H : Heap, H = s.heap := ⟨_, rfl⟩
  rw [← hH0] at hG ⊢
  have hS : va_S (gA b) s.heap H [] := by rw [hH0]; exact va_S.rf
  obtain ⟨locs, hlo⟩ : ∃ z : List Loc, z = [] := ⟨_, rfl⟩
  rw [← hlo] at hS ⊢
  unfold f_X11_person at hf
  obtain ⟨hx, hb, hr, hml, hown, hts, hlocks, hKn, hBs⟩ := id X
  have hK := hKn.1
  have gclX11 : gcl [9] TX11 8 wsX11_person := gcl_1 rfl (fun _ h => List.mem_cons_of_mem _ (List.mem_append_left _ (List.mem_append_right _ h)))
  have hl : lv_has ls 2 [(0, .ref h0), (1, .int v1)] := hl
  refine lv_aload_n hx hb dX11_person_0 rfl (lv_at hl 0 rfl) ?_
  refine lv_aload_n hx hb dX11_person_1 rfl (lv_at hl 0 rfl) ?_
  obtain ⟨t2, ht2, hf⟩ := gb_b hf
  refine cp_get (v := va_rf t2) hx hb hts gclX11 hown hK hG 4 (gfR_s ht2) (by decide) (hts _ (List.mem_of_getElem? (i := 1) rfl)) (fun _ h9 => h9) dX11_person_2 ?_
  refine lv_iload_n hx hb dX11_person_5 rfl (lv_at hl 1 rfl) ?_
  obtain ⟨q6, hq6, hf⟩ := gb_b hf
  refine W.eq (g2 := F0 m 6 ls [.int v1, .ref q6, .ref h0]) (congrArg (fun z => F0 m 6 ls [.int v1, va_rf z, .ref h0]) hq6) ?_
  obtain ⟨o6, hc6, hf⟩ := gb_b hf
  obtain ⟨oc6, hcO6, hc6⟩ := gb_b hc6
  obtain ⟨hcg6, hci6⟩ := gfO_s hcO6
  have hci6 := List.mem_singleton.mp hci6
  obtain ⟨kc6, fc6⟩ := oc6
  dsimp only at hci6 hcg6
  subst hci6
  refine gp_callI (va_runV (As := [.int v1]) (rest := [.ref h0]) ⟨hx, hb, hml, hown, hts⟩ (c_X10_addPerson (l := l) (D := D) (b := b) (cI := cI) (cL := cL) hc6) (cwV 1 hts gX11_person_X10_addPerson rfl rfl rfl (by decide +kernel) ⟨Nat.le_of_ble_eq_true rfl, Nat.le_of_ble_eq_true rfl⟩) (gp_preV hKn hG (cp_obj hcg6) rfl) rfl rfl hl.1 rfl (lv_room (Nat.le_of_ble_eq_true rfl)) dX11_person_6 ⟨Nat.le_of_ble_eq_true rfl, Nat.le_of_ble_eq_true rfl⟩) hS (fun H locs hG hS => ?_)
  obtain ⟨o9, hc9, hf⟩ := gb_b hf
  obtain ⟨oc9, hcO9, hc9⟩ := gb_b hc9
  obtain ⟨hcg9, hci9⟩ := gfO_s hcO9
  have hci9 := List.mem_singleton.mp hci9
  obtain ⟨kc9, fc9⟩ := oc9
  dsimp only at hci9 hcg9
  subst hci9
  refine gp_callI (va_runV (As := [.int o6.1]) (rest := []) ⟨hx, hb, hml, hown, hts⟩ (c_X11_counted (l := l) (D := D) (b := b) (cI := cI) (cL := cL) hc9) (cwV 1 hts gX11_person_X11_counted rfl rfl rfl (by decide +kernel) ⟨Nat.le_of_ble_eq_true rfl, Nat.le_of_ble_eq_true rfl⟩) (gp_preV hKn hG (cp_obj hcg9) rfl) rfl rfl hl.1 rfl (lv_room (Nat.le_of_ble_eq_true rfl)) dX11_person_9 ⟨Nat.le_of_ble_eq_true rfl, Nat.le_of_ble_eq_true rfl⟩) hS (fun H locs hG hS => ?_)
  have hf := Option.some.inj hf
  subst hf
  exact gp_retI hx hb hr hlocks hG hS (Nat.le_of_ble_eq_true rfl) (Nat.le_of_ble_eq_true rfl) dX11_person_12
-- X11_row
abbrev rm_X11_row : Room := { frames := 1, cells := 0, slots := 0, locals := 21 }
set_option maxHeartbeats 4000000 in
set_option maxRecDepth 100000 in
theorem c_X11_row {v1 : Int32} {R : Int32 × (Nat → GV)} (hf : f_X11_row gv h0 v1 = some R) : Met l yX11_row wsX11_row rm_X11_row (va_Pc [.ref h0, .int v1] (gPre D b M (gW cI cL gv) (gTy cI cL))) (gQ D b (some (.int R.1)) M (gW cI cL R.2)) 0 0 (gA b) := by
  refine gp_met (cc := cX11_row) (maxL := 2) (ret := (some .int)) (by decide) rfl (Nat.le_of_ble_eq_true rfl) ?_
  intro p e s m below meth c X ls hG hl
  obtain ⟨H, hH0⟩ : ∃ H : Heap, H = s.heap := ⟨_, rfl⟩
  rw [← hH0] at hG ⊢
  have hS : va_S (gA b) s.heap H [] := by rw [hH0]; exact va_S.rf
  obtain ⟨locs, hlo⟩ : ∃ z : List Loc, z = [] := ⟨_, rfl⟩
  rw [← hlo] at hS ⊢
  unfold f_X11_row at hf
  obtain ⟨hx, hb, hr, hml, hown, hts, hlocks, hKn, hBs⟩ := id X
  have hK := hKn.1
  have gclX11 : gcl [9] TX11 8 wsX11_row := gcl_1 rfl (fun _ h => List.mem_cons_of_mem _ (List.mem_append_right _ h))
  have hl : lv_has ls 2 [(0, .ref h0), (1, .int v1)] := hl
  refine lv_iload_n hx hb dX11_row_0 rfl (lv_at hl 1 rfl) ?_
  refine lv_if_ge (tgt := 11) hx hb dX11_row_1 (by decide) (fun c1 => ?_) (fun c1 => ?_)
  · have hf := gb_t c1 hf
    refine lv_iload_n hx hb dX11_row_11 rfl (lv_at hl 1 rfl) ?_
    refine lv_bipush (v := 99) hx hb dX11_row_12 (by decide) ?_
    refine lv_icmp_gt (tgt := 36) hx hb dX11_row_14 (by decide) (fun c14 => ?_) (fun c14 => ?_)
    · have hf := gb_t c14 hf
      refine lv_aload_n hx hb dX11_row_36 rfl (lv_at hl 0 rfl) ?_
      refine lv_bipush (v := (-6 : Int32)) hx hb dX11_row_37 (by decide) ?_
      obtain ⟨o39, hc39, hf⟩ := gb_b hf
      obtain ⟨oc39, hcO39, hc39⟩ := gb_b hc39
      obtain ⟨hcg39, hci39⟩ := gfO_s hcO39
      have hci39 := List.mem_singleton.mp hci39
      obtain ⟨kc39, fc39⟩ := oc39
      dsimp only at hci39 hcg39
      subst hci39
      refine gp_callI (va_runV (As := [.int (-6 : Int32)]) (rest := []) ⟨hx, hb, hml, hown, hts⟩ (c_X11_refuse (l := l) (D := D) (b := b) (cI := cI) (cL := cL) hc39) (cwV 1 hts gX11_row_X11_refuse rfl rfl rfl (by decide +kernel) ⟨Nat.le_of_ble_eq_true rfl, Nat.le_of_ble_eq_true rfl⟩) (gp_preV hKn hG (cp_obj hcg39) rfl) rfl rfl hl.1 rfl (lv_room (Nat.le_of_ble_eq_true rfl)) dX11_row_39 ⟨Nat.le_of_ble_eq_true rfl, Nat.le_of_ble_eq_true rfl⟩) hS (fun H locs hG hS => ?_)
      have hf := Option.some.inj hf
      subst hf
      exact gp_retI hx hb hr hlocks hG hS (Nat.le_of_ble_eq_true rfl) (Nat.le_of_ble_eq_true rfl) dX11_row_42
    · have hf := gb_f c14 hf
      refine lv_aload_n hx hb dX11_row_17 rfl (lv_at hl 0 rfl) ?_
      obtain ⟨t18, ht18, hf⟩ := gb_b hf
      refine cp_get (v := .int t18) hx hb hts gclX11 hown hK hG 6 (gfI_s ht18) (by decide) (hts _ (List.mem_of_getElem? (i := 1) rfl)) (fun _ h9 => h9) dX11_row_18 ?_
      refine lv_if_lt (tgt := 36) hx hb dX11_row_21 (by decide) (fun c21 => ?_) (fun c21 => ?_)
      · have hf := gb_t c21 hf
        refine lv_aload_n hx hb dX11_row_36 rfl (lv_at hl 0 rfl) ?_
        refine lv_bipush (v := (-6 : Int32)) hx hb dX11_row_37 (by decide) ?_
        obtain ⟨o39, hc39, hf⟩ := gb_b hf
        obtain ⟨oc39, hcO39, hc39⟩ := gb_b hc39
        obtain ⟨hcg39, hci39⟩ := gfO_s hcO39
        have hci39 := List.mem_singleton.mp hci39
        obtain ⟨kc39, fc39⟩ := oc39
        dsimp only at hci39 hcg39
        subst hci39
        refine gp_callI (va_runV (As := [.int (-6 : Int32)]) (rest := []) ⟨hx, hb, hml, hown, hts⟩ (c_X11_refuse (l := l) (D := D) (b := b) (cI := cI) (cL := cL) hc39) (cwV 1 hts gX11_row_X11_refuse rfl rfl rfl (by decide +kernel) ⟨Nat.le_of_ble_eq_true rfl, Nat.le_of_ble_eq_true rfl⟩) (gp_preV hKn hG (cp_obj hcg39) rfl) rfl rfl hl.1 rfl (lv_room (Nat.le_of_ble_eq_true rfl)) dX11_row_39 ⟨Nat.le_of_ble_eq_true rfl, Nat.le_of_ble_eq_true rfl⟩) hS (fun H locs hG hS => ?_)
        have hf := Option.some.inj hf
        subst hf
        exact gp_retI hx hb hr hlocks hG hS (Nat.le_of_ble_eq_true rfl) (Nat.le_of_ble_eq_true rfl) dX11_row_42
      · have hf := gb_f c21 hf
        refine lv_aload_n hx hb dX11_row_24 rfl (lv_at hl 0 rfl) ?_
        obtain ⟨t25, ht25, hf⟩ := gb_b hf
        refine cp_get (v := .int t25) hx hb hts gclX11 hown hK hG 6 (gfI_s ht25) (by decide) (hts _ (List.mem_of_getElem? (i := 1) rfl)) (fun _ h9 => h9) dX11_row_25 ?_
        refine lv_aload_n hx hb dX11_row_28 rfl (lv_at hl 0 rfl) ?_
        obtain ⟨t29, ht29, hf⟩ := gb_b hf
        refine cp_get (v := va_rf t29) hx hb hts gclX11 hown hK hG 1 (gfR_s ht29) (by decide) (hts _ (List.mem_of_getElem? (i := 2) rfl)) (fun _ h9 => h9) dX11_row_29 ?_
        obtain ⟨q32, hq32, hf⟩ := gb_b hf
        refine W.eq (g2 := F0 m 32 ls [.ref q32, .int t25]) (congrArg (fun z => F0 m 32 ls [va_rf z, .int t25]) hq32) ?_
        obtain ⟨t32, ht32, hf⟩ := gb_b hf
        refine cp_alenI hx hb hK hG ht32 dX11_row_32 ?_
        refine lv_icmp_lt (tgt := 43) hx hb dX11_row_33 (by decide) (fun c33 => ?_) (fun c33 => ?_)
        · have hf := gb_t c33 hf
          refine lv_aload_n hx hb dX11_row_43 rfl (lv_at hl 0 rfl) ?_
          obtain ⟨t44, ht44, hf⟩ := gb_b hf
          refine cp_get (v := va_rf t44) hx hb hts gclX11 hown hK hG 1 (gfR_s ht44) (by decide) (hts _ (List.mem_of_getElem? (i := 2) rfl)) (fun _ h9 => h9) dX11_row_44 ?_
          refine lv_aload_n hx hb dX11_row_47 rfl (lv_at hl 0 rfl) ?_
          obtain ⟨t48, ht48, hf⟩ := gb_b hf
          refine cp_get (v := .int t48) hx hb hts gclX11 hown hK hG 6 (gfI_s ht48) (by decide) (hts _ (List.mem_of_getElem? (i := 1) rfl)) (fun _ h9 => h9) dX11_row_48 ?_
          refine lv_iload_n hx hb dX11_row_51 rfl (lv_at hl 1 rfl) ?_
          obtain ⟨q52, hq52, hf⟩ := gb_b hf
          refine W.eq (g2 := F0 m 52 ls [.int v1, .int t48, .ref q52]) (congrArg (fun z => F0 m 52 ls [.int v1, .int t48, va_rf z]) hq52) ?_
          obtain ⟨g52, ht52, hf⟩ := gb_b hf
          refine cp_iast hx hb hK hG hS ht52 dX11_row_52 (fun H locs hG hS => ?_)
          refine lv_aload_n hx hb dX11_row_53 rfl (lv_at hl 0 rfl) ?_
          refine lv_dup hx hb dX11_row_54 rfl ?_
          obtain ⟨t55, ht55, hf⟩ := gb_b hf
          refine cp_get (v := .int t55) hx hb hts gclX11 hown hK hG 6 (gfI_s ht55) (by decide) (hts _ (List.mem_of_getElem? (i := 1) rfl)) (fun _ h9 => h9) dX11_row_55 ?_
          refine lv_iconst (v := 1) hx hb dX11_row_58 (by decide) ?_
          refine lv_iadd hx hb dX11_row_59 ?_
          obtain ⟨g60, ht60, hf⟩ := gb_b hf
          refine cp_put (tyk := .int) hx hb hts gclX11 tyX11 tyX11_ok nmX11 hown hK hG hS 6 ht60 (by decide) (hts _ (List.mem_of_getElem? (i := 1) rfl)) (fun _ h9 => h9) rfl (by decide +kernel) rfl rfl dX11_row_60 (fun H locs hG hS => ?_)
          refine lv_aload_n hx hb dX11_row_63 rfl (lv_at hl 0 rfl) ?_
          obtain ⟨t64, ht64, hf⟩ := gb_b hf
          refine cp_get (v := .int t64) hx hb hts gclX11 hown hK hG 6 (gfI_s ht64) (by decide) (hts _ (List.mem_of_getElem? (i := 1) rfl)) (fun _ h9 => h9) dX11_row_64 ?_
          have hf := Option.some.inj hf
          subst hf
          exact gp_retI hx hb hr hlocks hG hS (Nat.le_of_ble_eq_true rfl) (Nat.le_of_ble_eq_true rfl) dX11_row_67
        · have hf := gb_f c33 hf
          refine lv_aload_n hx hb dX11_row_36 rfl (lv_at hl 0 rfl) ?_
          refine lv_bipush (v := (-6 : Int32)) hx hb dX11_row_37 (by decide) ?_
          obtain ⟨o39, hc39, hf⟩ := gb_b hf
          obtain ⟨oc39, hcO39, hc39⟩ := gb_b hc39
          obtain ⟨hcg39, hci39⟩ := gfO_s hcO39
          have hci39 := List.mem_singleton.mp hci39
          obtain ⟨kc39, fc39⟩ := oc39
          dsimp only at hci39 hcg39
          subst hci39
          refine gp_callI (va_runV (As := [.int (-6 : Int32)]) (rest := []) ⟨hx, hb, hml, hown, hts⟩ (c_X11_refuse (l := l) (D := D) (b := b) (cI := cI) (cL := cL) hc39) (cwV 1 hts gX11_row_X11_refuse rfl rfl rfl (by decide +kernel) ⟨Nat.le_of_ble_eq_true rfl, Nat.le_of_ble_eq_true rfl⟩) (gp_preV hKn hG (cp_obj hcg39) rfl) rfl rfl hl.1 rfl (lv_room (Nat.le_of_ble_eq_true rfl)) dX11_row_39 ⟨Nat.le_of_ble_eq_true rfl, Nat.le_of_ble_eq_true rfl⟩) hS (fun H locs hG hS => ?_)
          have hf := Option.some.inj hf
          subst hf
          exact gp_retI hx hb hr hlocks hG hS (Nat.le_of_ble_eq_true rfl) (Nat.le_of_ble_eq_true rfl) dX11_row_42
  · have hf := gb_f c1 hf
    refine lv_aload_n hx hb dX11_row_4 rfl (lv_at hl 0 rfl) ?_
    refine lv_bipush (v := (-4 : Int32)) hx hb dX11_row_5 (by decide) ?_
    obtain ⟨o7, hc7, hf⟩ := gb_b hf
    obtain ⟨oc7, hcO7, hc7⟩ := gb_b hc7
    obtain ⟨hcg7, hci7⟩ := gfO_s hcO7
    have hci7 := List.mem_singleton.mp hci7
    obtain ⟨kc7, fc7⟩ := oc7
    dsimp only at hci7 hcg7
    subst hci7
    refine gp_callI (va_runV (As := [.int (-4 : Int32)]) (rest := []) ⟨hx, hb, hml, hown, hts⟩ (c_X11_refuse (l := l) (D := D) (b := b) (cI := cI) (cL := cL) hc7) (cwV 1 hts gX11_row_X11_refuse rfl rfl rfl (by decide +kernel) ⟨Nat.le_of_ble_eq_true rfl, Nat.le_of_ble_eq_true rfl⟩) (gp_preV hKn hG (cp_obj hcg7) rfl) rfl rfl hl.1 rfl (lv_room (Nat.le_of_ble_eq_true rfl)) dX11_row_7 ⟨Nat.le_of_ble_eq_true rfl, Nat.le_of_ble_eq_true rfl⟩) hS (fun H locs hG hS => ?_)
    have hf := Option.some.inj hf
    subst hf
    exact gp_retI hx hb hr hlocks hG hS (Nat.le_of_ble_eq_true rfl) (Nat.le_of_ble_eq_true rfl) dX11_row_10
-- X11_seen
abbrev rm_X11_seen : Room := { frames := 2, cells := 0, slots := 0, locals := 44 }
set_option maxHeartbeats 4000000 in
set_option maxRecDepth 100000 in
theorem c_X11_seen {v1 : Int32} {R : Int32 × (Nat → GV)} (hf : f_X11_seen gv h0 v1 = some R) : Met l yX11_seen wsX11_seen rm_X11_seen (va_Pc [.ref h0, .int v1] (gPre D b M (gW cI cL gv) (gTy cI cL))) (gQ D b (some (.int R.1)) M (gW cI cL R.2)) 0 0 (gA b) := by
  refine gp_met (cc := cX11_seen) (maxL := 3) (ret := (some .int)) (by decide) rfl (Nat.le_of_ble_eq_true rfl) ?_
  intro p e s m below meth c X ls hG hl
  obtain ⟨H, hH0⟩ : ∃ H : Heap, H = s.heap := ⟨_, rfl⟩
  rw [← hH0] at hG ⊢
  have hS : va_S (gA b) s.heap H [] := by rw [hH0]; exact va_S.rf
  obtain ⟨locs, hlo⟩ : ∃ z : List Loc, z = [] := ⟨_, rfl⟩
  rw [← hlo] at hS ⊢
  unfold f_X11_seen at hf
  obtain ⟨hx, hb, hr, hml, hown, hts, hlocks, hKn, hBs⟩ := id X
  have hK := hKn.1
  have gclX11 : gcl [9] TX11 8 wsX11_seen := gcl_1 rfl (fun _ h => List.mem_cons_of_mem _ (List.mem_append_left _ (List.mem_append_left _ (List.mem_append_left _ (List.mem_append_left _ (List.mem_append_left _ (List.mem_append_left _ (List.mem_append_left _ (List.mem_append_left _ (List.mem_append_right _ h))))))))))
  have hl : lv_has ls 3 [(0, .ref h0), (1, .int v1)] := hl
  refine lv_aload_n hx hb dX11_seen_0 rfl (lv_at hl 0 rfl) ?_
  obtain ⟨t1, ht1, hf⟩ := gb_b hf
  refine cp_get (v := va_rf t1) hx hb hts gclX11 hown hK hG 4 (gfR_s ht1) (by decide) (hts _ (List.mem_of_getElem? (i := 1) rfl)) (fun _ h9 => h9) dX11_seen_1 ?_
  refine lv_iload_n hx hb dX11_seen_4 rfl (lv_at hl 1 rfl) ?_
  obtain ⟨q5, hq5, hf⟩ := gb_b hf
  refine W.eq (g2 := F0 m 5 ls [.int v1, .ref q5]) (congrArg (fun z => F0 m 5 ls [.int v1, va_rf z]) hq5) ?_
  obtain ⟨o5, hc5, hf⟩ := gb_b hf
  obtain ⟨oc5, hcO5, hc5⟩ := gb_b hc5
  obtain ⟨hcg5, hci5⟩ := gfO_s hcO5
  have hci5 := List.mem_singleton.mp hci5
  obtain ⟨kc5, fc5⟩ := oc5
  dsimp only at hci5 hcg5
  subst hci5
  refine gp_callR (va_runV (As := [.int v1]) (rest := []) ⟨hx, hb, hml, hown, hts⟩ (c_X10_lampAt (l := l) (D := D) (b := b) (cI := cI) (cL := cL) hc5) (cwV 1 hts gX11_seen_X10_lampAt rfl rfl rfl (by decide +kernel) ⟨Nat.le_of_ble_eq_true rfl, Nat.le_of_ble_eq_true rfl⟩) (gp_preV hKn hG (cp_obj hcg5) rfl) rfl rfl hl.1 rfl (lv_room (Nat.le_of_ble_eq_true rfl)) dX11_seen_5 ⟨Nat.le_of_ble_eq_true rfl, Nat.le_of_ble_eq_true rfl⟩) hS (fun H locs hG hS => ?_)
  refine gp_astore_n (lv' := [(2, va_rf o5), (0, .ref h0), (1, .int v1)]) hx hb dX11_seen_8 rfl hl (by decide) rfl (fun ls hl => ?_)
  refine gp_aload_n (x := o5) hx hb dX11_seen_9 rfl (lv_at hl 0 rfl) ?_
  obtain ⟨j10, hj10, hf⟩ := gb_b hf
  have hJ10 : ∀ (H : Heap) (locs : List Loc) (ls : Array Slot), GP D b M (gW cI cL j10.2) H → va_S (gA b) s.heap H locs → lv_has ls 3 [] → W p l e rm_X11_seen s m [.ref h0, .int v1].toArray below meth c H locs 0 0 (MQ below (gQ D b (some (.int R.1)) M (gW cI cL R.2)) [.ref h0, .int v1].toArray s 0 0 (gA b)) (F0 m 25 ls [.int j10.1]) := by
    intro H locs ls hG hS hl
    have hf := Option.some.inj hf
    subst hf
    exact gp_retI hx hb hr hlocks hG hS (Nat.le_of_ble_eq_true rfl) (Nat.le_of_ble_eq_true rfl) dX11_seen_25
  refine gp_ifnonnull (x := o5) (tgt := 21) hx hb dX11_seen_10 (by decide) ?_ ?_
  · intro n10 e10
    rw [e10] at hl
    rw [e10] at hj10
    dsimp only at hj10
    refine lv_aload_n hx hb dX11_seen_21 rfl (lv_at hl 0 rfl) ?_
    obtain ⟨o22, hc22, hj10⟩ := gb_b hj10
    have hrun22 : va_Run p l e rm_X11_seen s m [.ref h0, .int v1].toArray below meth c H locs 0 0 0 0 (F0 m 22 ls ([].reverse ++ .ref n10 :: [])) [] (gQ D b (some (.int o22)) M (gW cI cL gv) (Value.ref n10 :: []).toArray) (gA b) := by
      obtain ⟨oc, hcO, hc22⟩ := gb_b hc22
      obtain ⟨hcg, hci⟩ := gfO_s hcO
      obtain ⟨kc, fc⟩ := oc
      dsimp only at hci hcg hc22
      rcases gLC_7 hci with rfl | rfl | rfl | rfl | rfl | rfl | rfl
      · exact va_runU (As := []) (rest := []) ⟨hx, hb, hml, hown, hts⟩ (c_X5_everSeen (l := l) (D := D) (b := b) (cI := cI) (cL := cL) hc22) (va_cwU 0 hts gX11_seen_X5_everSeen_u140X0 rfl rfl rfl rfl (by decide +kernel) ⟨Nat.le_of_ble_eq_true rfl, Nat.le_of_ble_eq_true rfl⟩) (gp_preV hKn hG (cp_obj hcg) rfl) rfl rfl hl.1 rfl (lv_room (Nat.le_of_ble_eq_true rfl)) dX11_seen_22 ⟨Nat.le_of_ble_eq_true rfl, Nat.le_of_ble_eq_true rfl⟩
      · exact va_runU (As := []) (rest := []) ⟨hx, hb, hml, hown, hts⟩ (c_X5_everSeen (l := l) (D := D) (b := b) (cI := cI) (cL := cL) hc22) (va_cwU 0 hts gX11_seen_X5_everSeen_u140X1 rfl rfl rfl rfl (by decide +kernel) ⟨Nat.le_of_ble_eq_true rfl, Nat.le_of_ble_eq_true rfl⟩) (gp_preV hKn hG (cp_obj hcg) rfl) rfl rfl hl.1 rfl (lv_room (Nat.le_of_ble_eq_true rfl)) dX11_seen_22 ⟨Nat.le_of_ble_eq_true rfl, Nat.le_of_ble_eq_true rfl⟩
      · exact va_runU (As := []) (rest := []) ⟨hx, hb, hml, hown, hts⟩ (c_X5_everSeen (l := l) (D := D) (b := b) (cI := cI) (cL := cL) hc22) (va_cwU 0 hts gX11_seen_X5_everSeen_u140X3 rfl rfl rfl rfl (by decide +kernel) ⟨Nat.le_of_ble_eq_true rfl, Nat.le_of_ble_eq_true rfl⟩) (gp_preV hKn hG (cp_obj hcg) rfl) rfl rfl hl.1 rfl (lv_room (Nat.le_of_ble_eq_true rfl)) dX11_seen_22 ⟨Nat.le_of_ble_eq_true rfl, Nat.le_of_ble_eq_true rfl⟩
      · exact va_runU (As := []) (rest := []) ⟨hx, hb, hml, hown, hts⟩ (c_X5_everSeen (l := l) (D := D) (b := b) (cI := cI) (cL := cL) hc22) (va_cwU 0 hts gX11_seen_X5_everSeen_u140X4 rfl rfl rfl rfl (by decide +kernel) ⟨Nat.le_of_ble_eq_true rfl, Nat.le_of_ble_eq_true rfl⟩) (gp_preV hKn hG (cp_obj hcg) rfl) rfl rfl hl.1 rfl (lv_room (Nat.le_of_ble_eq_true rfl)) dX11_seen_22 ⟨Nat.le_of_ble_eq_true rfl, Nat.le_of_ble_eq_true rfl⟩
      · exact va_runV (As := []) (rest := []) ⟨hx, hb, hml, hown, hts⟩ (c_X5_everSeen (l := l) (D := D) (b := b) (cI := cI) (cL := cL) hc22) (cwV 0 hts gX11_seen_X5_everSeen rfl rfl rfl (by decide +kernel) ⟨Nat.le_of_ble_eq_true rfl, Nat.le_of_ble_eq_true rfl⟩) (gp_preV hKn hG (cp_obj hcg) rfl) rfl rfl hl.1 rfl (lv_room (Nat.le_of_ble_eq_true rfl)) dX11_seen_22 ⟨Nat.le_of_ble_eq_true rfl, Nat.le_of_ble_eq_true rfl⟩
      · exact va_runU (As := []) (rest := []) ⟨hx, hb, hml, hown, hts⟩ (c_X5_everSeen (l := l) (D := D) (b := b) (cI := cI) (cL := cL) hc22) (va_cwU 0 hts gX11_seen_X5_everSeen_u140X7 rfl rfl rfl rfl (by decide +kernel) ⟨Nat.le_of_ble_eq_true rfl, Nat.le_of_ble_eq_true rfl⟩) (gp_preV hKn hG (cp_obj hcg) rfl) rfl rfl hl.1 rfl (lv_room (Nat.le_of_ble_eq_true rfl)) dX11_seen_22 ⟨Nat.le_of_ble_eq_true rfl, Nat.le_of_ble_eq_true rfl⟩
      · exact va_runU (As := []) (rest := []) ⟨hx, hb, hml, hown, hts⟩ (c_X5_everSeen (l := l) (D := D) (b := b) (cI := cI) (cL := cL) hc22) (va_cwU 0 hts gX11_seen_X5_everSeen_u140X8 rfl rfl rfl rfl (by decide +kernel) ⟨Nat.le_of_ble_eq_true rfl, Nat.le_of_ble_eq_true rfl⟩) (gp_preV hKn hG (cp_obj hcg) rfl) rfl rfl hl.1 rfl (lv_room (Nat.le_of_ble_eq_true rfl)) dX11_seen_22 ⟨Nat.le_of_ble_eq_true rfl, Nat.le_of_ble_eq_true rfl⟩
    refine gp_callI hrun22 hS (fun H locs hG hS => ?_)
    have hj10 := Option.some.inj hj10
    subst hj10
    exact (hJ10 H locs ls hG hS (lv_sub hl [] rfl))
  · intro e10
    rw [e10] at hl
    rw [e10] at hj10
    dsimp only at hj10
    refine lv_aload_n hx hb dX11_seen_13 rfl (lv_at hl 1 rfl) ?_
    refine lv_iconst (v := (-1 : Int32)) hx hb dX11_seen_14 (by decide) ?_
    obtain ⟨o15, hc15, hj10⟩ := gb_b hj10
    obtain ⟨oc15, hcO15, hc15⟩ := gb_b hc15
    obtain ⟨hcg15, hci15⟩ := gfO_s hcO15
    have hci15 := List.mem_singleton.mp hci15
    obtain ⟨kc15, fc15⟩ := oc15
    dsimp only at hci15 hcg15
    subst hci15
    refine gp_callI (va_runV (As := [.int (-1 : Int32)]) (rest := []) ⟨hx, hb, hml, hown, hts⟩ (c_X11_refuse (l := l) (D := D) (b := b) (cI := cI) (cL := cL) hc15) (cwV 1 hts gX11_seen_X11_refuse rfl rfl rfl (by decide +kernel) ⟨Nat.le_of_ble_eq_true rfl, Nat.le_of_ble_eq_true rfl⟩) (gp_preV hKn hG (cp_obj hcg15) rfl) rfl rfl hl.1 rfl (lv_room (Nat.le_of_ble_eq_true rfl)) dX11_seen_15 ⟨Nat.le_of_ble_eq_true rfl, Nat.le_of_ble_eq_true rfl⟩) hS (fun H locs hG hS => ?_)
    refine lv_goto (tgt := 25) hx hb dX11_seen_18 (by decide) ?_
    have hj10 := Option.some.inj hj10
    subst hj10
    exact (hJ10 H locs ls hG hS (lv_sub hl [] rfl))
end
