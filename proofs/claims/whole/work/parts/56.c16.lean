section
variable {p : Program} {l : Launch} {e : Env} {s : State} {m : MethodId} {args : Array Value} {below : List Frame} {meth : Method} {c : Code} {D : va_G} {b : GB} {M : Nat} {cI cL : ClassId} {h0 : Nat} {gv : Nat → GV} {gh : Nat → va_E} {Q : State → Prop}
-- X11_shown
abbrev rm_X11_shown : Room := { frames := 2, cells := 0, slots := 0, locals := 42 }
set_option maxHeartbeats 4000000 in
set_option maxRecDepth 100000 in
theorem c_X11_shown {v1 : Int32} {v2 : Int32} {v3 : Int32} {R : Int32 × (Nat → GV)} (hf : f_X11_shown gv h0 v1 v2 v3 = some R) : Met l yX11_shown wsX11_shown rm_X11_shown (va_Pc [.ref h0, .int v1, .int v2, .int v3] (gPre D b M (gW cI cL gv) (gTy cI cL))) (gQ D b (some (.int R.1)) M (gW cI cL R.2)) 0 0 (gA b) := by
  refine gp_met (cc := cX11_shown) (maxL := 6) (ret := (some .int)) (by decide) rfl (Nat.le_of_ble_eq_true rfl) ?_
  intro p e s m below meth c X ls hG hl
  obtain ⟨H, hH0⟩ : ∃ H : Heap, H = s.heap := ⟨_, rfl⟩
  rw [← hH0] at hG ⊢
  have hS : va_S (gA b) s.heap H [] := by rw [hH0]; exact va_S.rf
  obtain ⟨locs, hlo⟩ : ∃ z : List Loc, z = [] := ⟨_, rfl⟩
  rw [← hlo] at hS ⊢
  unfold f_X11_shown at hf
  obtain ⟨hx, hb, hr, hml, hown, hts, hlocks, hKn, hBs⟩ := id X
  have hK := hKn.1
  have gclL : gcl gLC TX5 5 wsX11_shown := gcl_L (fun _ h => List.mem_cons_of_mem _ (List.mem_append_left _ (List.mem_append_left _ (List.mem_append_left _ (List.mem_append_left _ (List.mem_append_left _ (List.mem_append_left _ (List.mem_append_left _ (List.mem_append_right _ h))))))))) (fun _ h => List.mem_cons_of_mem _ (List.mem_append_left _ (List.mem_append_left _ (List.mem_append_left _ (List.mem_append_left _ (List.mem_append_left _ (List.mem_append_left _ (List.mem_append_right _ h)))))))) (fun _ h => List.mem_cons_of_mem _ (List.mem_append_left _ (List.mem_append_left _ (List.mem_append_left _ (List.mem_append_left _ (List.mem_append_left _ (List.mem_append_right _ h))))))) (fun _ h => List.mem_cons_of_mem _ (List.mem_append_left _ (List.mem_append_left _ (List.mem_append_left _ (List.mem_append_left _ (List.mem_append_right _ h)))))) (fun _ h => List.mem_cons_of_mem _ (List.mem_append_left _ (List.mem_append_left _ (List.mem_append_left _ (List.mem_append_right _ h))))) (fun _ h => List.mem_cons_of_mem _ (List.mem_append_left _ (List.mem_append_left _ (List.mem_append_right _ h)))) (fun _ h => List.mem_cons_of_mem _ (List.mem_append_left _ (List.mem_append_right _ h)))
  have gclX11 : gcl [9] TX11 8 wsX11_shown := gcl_1 rfl (fun _ h => List.mem_cons_of_mem _ (List.mem_append_left _ (List.mem_append_left _ (List.mem_append_left _ (List.mem_append_left _ (List.mem_append_left _ (List.mem_append_left _ (List.mem_append_left _ (List.mem_append_left _ (List.mem_append_right _ h))))))))))
  have hl : lv_has ls 6 [(0, .ref h0), (1, .int v1), (2, .int v2), (3, .int v3)] := hl
  refine lv_aload_n hx hb dX11_shown_0 rfl (lv_at hl 0 rfl) ?_
  obtain ⟨t1, ht1, hf⟩ := gb_b hf
  refine cp_get (v := va_rf t1) hx hb hts gclX11 hown hK hG 4 (gfR_s ht1) (by decide) (hts _ (List.mem_of_getElem? (i := 1) rfl)) (fun _ h9 => h9) dX11_shown_1 ?_
  refine lv_iload_n hx hb dX11_shown_4 rfl (lv_at hl 1 rfl) ?_
  obtain ⟨q5, hq5, hf⟩ := gb_b hf
  refine W.eq (g2 := F0 m 5 ls [.int v1, .ref q5]) (congrArg (fun z => F0 m 5 ls [.int v1, va_rf z]) hq5) ?_
  obtain ⟨o5, hc5, hf⟩ := gb_b hf
  obtain ⟨oc5, hcO5, hc5⟩ := gb_b hc5
  obtain ⟨hcg5, hci5⟩ := gfO_s hcO5
  have hci5 := List.mem_singleton.mp hci5
  obtain ⟨kc5, fc5⟩ := oc5
  dsimp only at hci5 hcg5
  subst hci5
  refine gp_callR (va_runV (As := [.int v1]) (rest := []) ⟨hx, hb, hml, hown, hts⟩ (c_X10_lampAt (l := l) (D := D) (b := b) (cI := cI) (cL := cL) hc5) (cwV 1 hts gX11_shown_X10_lampAt rfl rfl rfl (by decide +kernel) ⟨Nat.le_of_ble_eq_true rfl, Nat.le_of_ble_eq_true rfl⟩) (gp_preV hKn hG (cp_obj hcg5) rfl) rfl rfl hl.1 rfl (lv_room (Nat.le_of_ble_eq_true rfl)) dX11_shown_5 ⟨Nat.le_of_ble_eq_true rfl, Nat.le_of_ble_eq_true rfl⟩) hS (fun H locs hG hS => ?_)
  refine gp_astore (lv' := [(4, va_rf o5), (0, .ref h0), (1, .int v1), (2, .int v2), (3, .int v3)]) hx hb dX11_shown_8 hl (by decide) rfl (fun ls hl => ?_)
  refine gp_aload (x := o5) hx hb dX11_shown_10 (lv_at hl 0 rfl) ?_
  refine gp_ifnull (x := o5) (tgt := 28) hx hb dX11_shown_12 (by decide) ?_ ?_
  · intro e12
    rw [e12] at hl
    rw [e12] at hf
    dsimp only at hf
    refine lv_aload_n hx hb dX11_shown_28 rfl (lv_at hl 1 rfl) ?_
    refine lv_iconst (v := (-1 : Int32)) hx hb dX11_shown_29 (by decide) ?_
    obtain ⟨o30, hc30, hf⟩ := gb_b hf
    obtain ⟨oc30, hcO30, hc30⟩ := gb_b hc30
    obtain ⟨hcg30, hci30⟩ := gfO_s hcO30
    have hci30 := List.mem_singleton.mp hci30
    obtain ⟨kc30, fc30⟩ := oc30
    dsimp only at hci30 hcg30
    subst hci30
    refine gp_callI (va_runV (As := [.int (-1 : Int32)]) (rest := []) ⟨hx, hb, hml, hown, hts⟩ (c_X11_refuse (l := l) (D := D) (b := b) (cI := cI) (cL := cL) hc30) (cwV 1 hts gX11_shown_X11_refuse rfl rfl rfl (by decide +kernel) ⟨Nat.le_of_ble_eq_true rfl, Nat.le_of_ble_eq_true rfl⟩) (gp_preV hKn hG (cp_obj hcg30) rfl) rfl rfl hl.1 rfl (lv_room (Nat.le_of_ble_eq_true rfl)) dX11_shown_30 ⟨Nat.le_of_ble_eq_true rfl, Nat.le_of_ble_eq_true rfl⟩) hS (fun H locs hG hS => ?_)
    have hf := Option.some.inj hf
    subst hf
    exact gp_retI hx hb hr hlocks hG hS (Nat.le_of_ble_eq_true rfl) (Nat.le_of_ble_eq_true rfl) dX11_shown_33
  · intro n12 e12
    rw [e12] at hl
    rw [e12] at hf
    dsimp only at hf
    refine lv_iload_n hx hb dX11_shown_15 rfl (lv_at hl 3 rfl) ?_
    refine lv_if_lt (tgt := 28) hx hb dX11_shown_16 (by decide) (fun c16 => ?_) (fun c16 => ?_)
    · have hf := gb_t c16 hf
      refine lv_aload_n hx hb dX11_shown_28 rfl (lv_at hl 1 rfl) ?_
      refine lv_iconst (v := (-1 : Int32)) hx hb dX11_shown_29 (by decide) ?_
      obtain ⟨o30, hc30, hf⟩ := gb_b hf
      obtain ⟨oc30, hcO30, hc30⟩ := gb_b hc30
      obtain ⟨hcg30, hci30⟩ := gfO_s hcO30
      have hci30 := List.mem_singleton.mp hci30
      obtain ⟨kc30, fc30⟩ := oc30
      dsimp only at hci30 hcg30
      subst hci30
      refine gp_callI (va_runV (As := [.int (-1 : Int32)]) (rest := []) ⟨hx, hb, hml, hown, hts⟩ (c_X11_refuse (l := l) (D := D) (b := b) (cI := cI) (cL := cL) hc30) (cwV 1 hts gX11_shown_X11_refuse rfl rfl rfl (by decide +kernel) ⟨Nat.le_of_ble_eq_true rfl, Nat.le_of_ble_eq_true rfl⟩) (gp_preV hKn hG (cp_obj hcg30) rfl) rfl rfl hl.1 rfl (lv_room (Nat.le_of_ble_eq_true rfl)) dX11_shown_30 ⟨Nat.le_of_ble_eq_true rfl, Nat.le_of_ble_eq_true rfl⟩) hS (fun H locs hG hS => ?_)
      have hf := Option.some.inj hf
      subst hf
      exact gp_retI hx hb hr hlocks hG hS (Nat.le_of_ble_eq_true rfl) (Nat.le_of_ble_eq_true rfl) dX11_shown_33
    · have hf := gb_f c16 hf
      refine lv_iload_n hx hb dX11_shown_19 rfl (lv_at hl 3 rfl) ?_
      refine lv_aload hx hb dX11_shown_20 (lv_at hl 0 rfl) ?_
      obtain ⟨t22, ht22, hf⟩ := gb_b hf
      refine cp_get (v := .int t22) hx hb hts gclL hown hK hG 3 (gfI_s ht22) (by decide) (hts _ (List.mem_of_getElem? (i := 2) rfl)) (fun _ h9 => h9) dX11_shown_22 ?_
      refine lv_icmp_lt (tgt := 34) hx hb dX11_shown_25 (by decide) (fun c25 => ?_) (fun c25 => ?_)
      · have hf := gb_t c25 hf
        refine lv_aload hx hb dX11_shown_34 (lv_at hl 0 rfl) ?_
        refine lv_iload_n hx hb dX11_shown_36 rfl (lv_at hl 3 rfl) ?_
        obtain ⟨o37, hc37, hf⟩ := gb_b hf
        have hrun37 : va_Run p l e rm_X11_shown s m [.ref h0, .int v1, .int v2, .int v3].toArray below meth c H locs 0 0 0 0 (F0 m 37 ls ([.int v2].reverse ++ .ref n12 :: [])) [] (gQ D b (some (.int o37)) M (gW cI cL gv) (Value.ref n12 :: [.int v2]).toArray) (gA b) := by
          obtain ⟨oc, hcO, hc37⟩ := gb_b hc37
          obtain ⟨hcg, hci⟩ := gfO_s hcO
          obtain ⟨kc, fc⟩ := oc
          dsimp only at hci hcg hc37
          rcases gLC_7 hci with rfl | rfl | rfl | rfl | rfl | rfl | rfl
          · exact va_runU (As := [.int v2]) (rest := []) ⟨hx, hb, hml, hown, hts⟩ (c_X5_sceneShown (l := l) (D := D) (b := b) (cI := cI) (cL := cL) hc37) (va_cwU 1 hts gX11_shown_X5_sceneShown_u126X0 rfl rfl rfl rfl (by decide +kernel) ⟨Nat.le_of_ble_eq_true rfl, Nat.le_of_ble_eq_true rfl⟩) (gp_preV hKn hG (cp_obj hcg) rfl) rfl rfl hl.1 rfl (lv_room (Nat.le_of_ble_eq_true rfl)) dX11_shown_37 ⟨Nat.le_of_ble_eq_true rfl, Nat.le_of_ble_eq_true rfl⟩
          · exact va_runU (As := [.int v2]) (rest := []) ⟨hx, hb, hml, hown, hts⟩ (c_X5_sceneShown (l := l) (D := D) (b := b) (cI := cI) (cL := cL) hc37) (va_cwU 1 hts gX11_shown_X5_sceneShown_u126X1 rfl rfl rfl rfl (by decide +kernel) ⟨Nat.le_of_ble_eq_true rfl, Nat.le_of_ble_eq_true rfl⟩) (gp_preV hKn hG (cp_obj hcg) rfl) rfl rfl hl.1 rfl (lv_room (Nat.le_of_ble_eq_true rfl)) dX11_shown_37 ⟨Nat.le_of_ble_eq_true rfl, Nat.le_of_ble_eq_true rfl⟩
          · exact va_runU (As := [.int v2]) (rest := []) ⟨hx, hb, hml, hown, hts⟩ (c_X5_sceneShown (l := l) (D := D) (b := b) (cI := cI) (cL := cL) hc37) (va_cwU 1 hts gX11_shown_X5_sceneShown_u126X3 rfl rfl rfl rfl (by decide +kernel) ⟨Nat.le_of_ble_eq_true rfl, Nat.le_of_ble_eq_true rfl⟩) (gp_preV hKn hG (cp_obj hcg) rfl) rfl rfl hl.1 rfl (lv_room (Nat.le_of_ble_eq_true rfl)) dX11_shown_37 ⟨Nat.le_of_ble_eq_true rfl, Nat.le_of_ble_eq_true rfl⟩
          · exact va_runU (As := [.int v2]) (rest := []) ⟨hx, hb, hml, hown, hts⟩ (c_X5_sceneShown (l := l) (D := D) (b := b) (cI := cI) (cL := cL) hc37) (va_cwU 1 hts gX11_shown_X5_sceneShown_u126X4 rfl rfl rfl rfl (by decide +kernel) ⟨Nat.le_of_ble_eq_true rfl, Nat.le_of_ble_eq_true rfl⟩) (gp_preV hKn hG (cp_obj hcg) rfl) rfl rfl hl.1 rfl (lv_room (Nat.le_of_ble_eq_true rfl)) dX11_shown_37 ⟨Nat.le_of_ble_eq_true rfl, Nat.le_of_ble_eq_true rfl⟩
          · exact va_runV (As := [.int v2]) (rest := []) ⟨hx, hb, hml, hown, hts⟩ (c_X5_sceneShown (l := l) (D := D) (b := b) (cI := cI) (cL := cL) hc37) (cwV 1 hts gX11_shown_X5_sceneShown rfl rfl rfl (by decide +kernel) ⟨Nat.le_of_ble_eq_true rfl, Nat.le_of_ble_eq_true rfl⟩) (gp_preV hKn hG (cp_obj hcg) rfl) rfl rfl hl.1 rfl (lv_room (Nat.le_of_ble_eq_true rfl)) dX11_shown_37 ⟨Nat.le_of_ble_eq_true rfl, Nat.le_of_ble_eq_true rfl⟩
          · exact va_runU (As := [.int v2]) (rest := []) ⟨hx, hb, hml, hown, hts⟩ (c_X5_sceneShown (l := l) (D := D) (b := b) (cI := cI) (cL := cL) hc37) (va_cwU 1 hts gX11_shown_X5_sceneShown_u126X7 rfl rfl rfl rfl (by decide +kernel) ⟨Nat.le_of_ble_eq_true rfl, Nat.le_of_ble_eq_true rfl⟩) (gp_preV hKn hG (cp_obj hcg) rfl) rfl rfl hl.1 rfl (lv_room (Nat.le_of_ble_eq_true rfl)) dX11_shown_37 ⟨Nat.le_of_ble_eq_true rfl, Nat.le_of_ble_eq_true rfl⟩
          · exact va_runU (As := [.int v2]) (rest := []) ⟨hx, hb, hml, hown, hts⟩ (c_X5_sceneShown (l := l) (D := D) (b := b) (cI := cI) (cL := cL) hc37) (va_cwU 1 hts gX11_shown_X5_sceneShown_u126X8 rfl rfl rfl rfl (by decide +kernel) ⟨Nat.le_of_ble_eq_true rfl, Nat.le_of_ble_eq_true rfl⟩) (gp_preV hKn hG (cp_obj hcg) rfl) rfl rfl hl.1 rfl (lv_room (Nat.le_of_ble_eq_true rfl)) dX11_shown_37 ⟨Nat.le_of_ble_eq_true rfl, Nat.le_of_ble_eq_true rfl⟩
        refine gp_callI hrun37 hS (fun H locs hG hS => ?_)
        refine lv_istore (lv' := [(5, .int o37), (4, .ref n12), (0, .ref h0), (1, .int v1), (2, .int v2), (3, .int v3)]) hx hb dX11_shown_40 hl (by decide) rfl (fun ls hl => ?_)
        refine lv_iload_n hx hb dX11_shown_42 rfl (lv_at hl 5 rfl) ?_
        by_cases c43_0 : v3 = 0
        · have hf := gb_t c43_0 hf
          refine lv_tableIn (tgt := 68) (off := 25) hx hb dX11_shown_43 (by rw [c43_0]; decide) (by rw [c43_0]; decide) (by rw [c43_0]; rfl) (by decide) ?_
          refine lv_iload hx hb dX11_shown_68 (lv_at hl 0 rfl) ?_
          obtain ⟨o70, hc70, hf⟩ := gb_b hf
          refine gp_callI (va_runS (As := [.int o37]) (rest := []) ⟨hx, hb, hml, hown, hts⟩ (c_X9_whoIn (l := l) (D := D) (b := b) (cI := cI) (cL := cL) hc70) (va_cwS 1 hts gX11_shown_X9_whoIn rfl rfl rfl (by decide +kernel) ⟨Nat.le_of_ble_eq_true rfl, Nat.le_of_ble_eq_true rfl⟩) (gp_preS hKn hG) rfl rfl hl.1 rfl (lv_room (Nat.le_of_ble_eq_true rfl)) dX11_shown_70 ⟨Nat.le_of_ble_eq_true rfl, Nat.le_of_ble_eq_true rfl⟩) hS (fun H locs hG hS => ?_)
          have hf := Option.some.inj hf
          subst hf
          exact gp_retI hx hb hr hlocks hG hS (Nat.le_of_ble_eq_true rfl) (Nat.le_of_ble_eq_true rfl) dX11_shown_73
        · have hf := gb_f c43_0 hf
          by_cases c43_1 : v3 = 1
          · have hf := gb_t c43_1 hf
            refine lv_tableIn (tgt := 74) (off := 31) hx hb dX11_shown_43 (by rw [c43_1]; decide) (by rw [c43_1]; decide) (by rw [c43_1]; rfl) (by decide) ?_
            refine lv_iload hx hb dX11_shown_74 (lv_at hl 0 rfl) ?_
            obtain ⟨o76, hc76, hf⟩ := gb_b hf
            refine gp_callI (va_runS (As := [.int o37]) (rest := []) ⟨hx, hb, hml, hown, hts⟩ (c_X9_cellIn (l := l) (D := D) (b := b) (cI := cI) (cL := cL) hc76) (va_cwS 1 hts gX11_shown_X9_cellIn rfl rfl rfl (by decide +kernel) ⟨Nat.le_of_ble_eq_true rfl, Nat.le_of_ble_eq_true rfl⟩) (gp_preS hKn hG) rfl rfl hl.1 rfl (lv_room (Nat.le_of_ble_eq_true rfl)) dX11_shown_76 ⟨Nat.le_of_ble_eq_true rfl, Nat.le_of_ble_eq_true rfl⟩) hS (fun H locs hG hS => ?_)
            have hf := Option.some.inj hf
            subst hf
            exact gp_retI hx hb hr hlocks hG hS (Nat.le_of_ble_eq_true rfl) (Nat.le_of_ble_eq_true rfl) dX11_shown_79
          · have hf := gb_f c43_1 hf
            by_cases c43_2 : v3 = 2
            · have hf := gb_t c43_2 hf
              refine lv_tableIn (tgt := 80) (off := 37) hx hb dX11_shown_43 (by rw [c43_2]; decide) (by rw [c43_2]; decide) (by rw [c43_2]; rfl) (by decide) ?_
              refine lv_iload hx hb dX11_shown_80 (lv_at hl 0 rfl) ?_
              obtain ⟨o82, hc82, hf⟩ := gb_b hf
              refine gp_callI (va_runS (As := [.int o37]) (rest := []) ⟨hx, hb, hml, hown, hts⟩ (c_X9_minuteIn (l := l) (D := D) (b := b) (cI := cI) (cL := cL) hc82) (va_cwS 1 hts gX11_shown_X9_minuteIn rfl rfl rfl (by decide +kernel) ⟨Nat.le_of_ble_eq_true rfl, Nat.le_of_ble_eq_true rfl⟩) (gp_preS hKn hG) rfl rfl hl.1 rfl (lv_room (Nat.le_of_ble_eq_true rfl)) dX11_shown_82 ⟨Nat.le_of_ble_eq_true rfl, Nat.le_of_ble_eq_true rfl⟩) hS (fun H locs hG hS => ?_)
              have hf := Option.some.inj hf
              subst hf
              exact gp_retI hx hb hr hlocks hG hS (Nat.le_of_ble_eq_true rfl) (Nat.le_of_ble_eq_true rfl) dX11_shown_85
            · have hf := gb_f c43_2 hf
              have ho43 : (v3).toInt < 0 ∨ 2 < (v3).toInt := by
                have q : ∀ k : Int32, ¬ v3 = k → ¬ (v3).toInt = k.toInt := fun k hk h => hk (Int32.toInt_inj.mp h)
                have q0 := q 0 c43_0; rw [show (0 : Int32).toInt = 0 from rfl] at q0
                have q1 := q 1 c43_1; rw [show (1 : Int32).toInt = 1 from rfl] at q1
                have q2 := q 2 c43_2; rw [show (2 : Int32).toInt = 2 from rfl] at q2
                omega
              refine lv_tableOut (tgt := 86) hx hb dX11_shown_43 ho43 (by decide) ?_
              refine lv_aload_n hx hb dX11_shown_86 rfl (lv_at hl 2 rfl) ?_
              refine lv_bipush (v := (-2 : Int32)) hx hb dX11_shown_87 (by decide) ?_
              obtain ⟨o89, hc89, hf⟩ := gb_b hf
              obtain ⟨oc89, hcO89, hc89⟩ := gb_b hc89
              obtain ⟨hcg89, hci89⟩ := gfO_s hcO89
              have hci89 := List.mem_singleton.mp hci89
              obtain ⟨kc89, fc89⟩ := oc89
              dsimp only at hci89 hcg89
              subst hci89
              refine gp_callI (va_runV (As := [.int (-2 : Int32)]) (rest := []) ⟨hx, hb, hml, hown, hts⟩ (c_X11_refuse (l := l) (D := D) (b := b) (cI := cI) (cL := cL) hc89) (cwV 1 hts gX11_shown_X11_refuse rfl rfl rfl (by decide +kernel) ⟨Nat.le_of_ble_eq_true rfl, Nat.le_of_ble_eq_true rfl⟩) (gp_preV hKn hG (cp_obj hcg89) rfl) rfl rfl hl.1 rfl (lv_room (Nat.le_of_ble_eq_true rfl)) dX11_shown_89 ⟨Nat.le_of_ble_eq_true rfl, Nat.le_of_ble_eq_true rfl⟩) hS (fun H locs hG hS => ?_)
              have hf := Option.some.inj hf
              subst hf
              exact gp_retI hx hb hr hlocks hG hS (Nat.le_of_ble_eq_true rfl) (Nat.le_of_ble_eq_true rfl) dX11_shown_92
      · have hf := gb_f c25 hf
        refine lv_aload_n hx hb dX11_shown_28 rfl (lv_at hl 1 rfl) ?_
        refine lv_iconst (v := (-1 : Int32)) hx hb dX11_shown_29 (by decide) ?_
        obtain ⟨o30, hc30, hf⟩ := gb_b hf
        obtain ⟨oc30, hcO30, hc30⟩ := gb_b hc30
        obtain ⟨hcg30, hci30⟩ := gfO_s hcO30
        have hci30 := List.mem_singleton.mp hci30
        obtain ⟨kc30, fc30⟩ := oc30
        dsimp only at hci30 hcg30
        subst hci30
        refine gp_callI (va_runV (As := [.int (-1 : Int32)]) (rest := []) ⟨hx, hb, hml, hown, hts⟩ (c_X11_refuse (l := l) (D := D) (b := b) (cI := cI) (cL := cL) hc30) (cwV 1 hts gX11_shown_X11_refuse rfl rfl rfl (by decide +kernel) ⟨Nat.le_of_ble_eq_true rfl, Nat.le_of_ble_eq_true rfl⟩) (gp_preV hKn hG (cp_obj hcg30) rfl) rfl rfl hl.1 rfl (lv_room (Nat.le_of_ble_eq_true rfl)) dX11_shown_30 ⟨Nat.le_of_ble_eq_true rfl, Nat.le_of_ble_eq_true rfl⟩) hS (fun H locs hG hS => ?_)
        have hf := Option.some.inj hf
        subst hf
        exact gp_retI hx hb hr hlocks hG hS (Nat.le_of_ble_eq_true rfl) (Nat.le_of_ble_eq_true rfl) dX11_shown_33
-- X11_steps
abbrev rm_X11_steps : Room := { frames := 3, cells := 0, slots := 0, locals := 68 }
set_option maxHeartbeats 4000000 in
set_option maxRecDepth 100000 in
theorem c_X11_steps {v1 : Int32} {v2 : Int32} {R : Int32 × (Nat → GV)} (hf : f_X11_steps gv h0 v1 v2 = some R) : Met l yX11_steps wsX11_steps rm_X11_steps (va_Pc [.ref h0, .int v1, .int v2] (gPre D b M (gW cI cL gv) (gTy cI cL))) (gQ D b (some (.int R.1)) M (gW cI cL R.2)) 0 0 (gA b) := by
  refine gp_met (cc := cX11_steps) (maxL := 3) (ret := (some .int)) (by decide) rfl (Nat.le_of_ble_eq_true rfl) ?_
  intro p e s m below meth c X ls hG hl
  obtain ⟨H, hH0⟩ : ∃ H : Heap, H = s.heap := ⟨_, rfl⟩
  rw [← hH0] at hG ⊢
  have hS : va_S (gA b) s.heap H [] := by rw [hH0]; exact va_S.rf
  obtain ⟨locs, hlo⟩ : ∃ z : List Loc, z = [] := ⟨_, rfl⟩
  rw [← hlo] at hS ⊢
  unfold f_X11_steps at hf
  obtain ⟨hx, hb, hr, hml, hown, hts, hlocks, hKn, hBs⟩ := id X
  have hK := hKn.1
  have gclX11 : gcl [9] TX11 8 wsX11_steps := gcl_1 rfl (fun _ h => List.mem_cons_of_mem _ (List.mem_append_left _ (List.mem_append_right _ h)))
  have hl : lv_has ls 3 [(0, .ref h0), (1, .int v1), (2, .int v2)] := hl
  refine lv_iload_n hx hb dX11_steps_0 rfl (lv_at hl 1 rfl) ?_
  obtain ⟨o1, hc1, hf⟩ := gb_b hf
  refine gp_callI (va_runS (As := [.int v1]) (rest := []) ⟨hx, hb, hml, hown, hts⟩ (c_X2_isOne (l := l) (D := D) (b := b) (cI := cI) (cL := cL) hc1) (va_cwS 1 hts gX11_steps_X2_isOne rfl rfl rfl (by decide +kernel) ⟨Nat.le_of_ble_eq_true rfl, Nat.le_of_ble_eq_true rfl⟩) (gp_preS hKn hG) rfl rfl hl.1 rfl (lv_room (Nat.le_of_ble_eq_true rfl)) dX11_steps_1 ⟨Nat.le_of_ble_eq_true rfl, Nat.le_of_ble_eq_true rfl⟩) hS (fun H locs hG hS => ?_)
  refine lv_if_eq (tgt := 14) hx hb dX11_steps_4 (by decide) (fun c4 => ?_) (fun c4 => ?_)
  · have hf := gb_t c4 hf
    refine lv_aload_n hx hb dX11_steps_14 rfl (lv_at hl 0 rfl) ?_
    refine lv_iconst (v := (-1 : Int32)) hx hb dX11_steps_15 (by decide) ?_
    obtain ⟨o16, hc16, hf⟩ := gb_b hf
    obtain ⟨oc16, hcO16, hc16⟩ := gb_b hc16
    obtain ⟨hcg16, hci16⟩ := gfO_s hcO16
    have hci16 := List.mem_singleton.mp hci16
    obtain ⟨kc16, fc16⟩ := oc16
    dsimp only at hci16 hcg16
    subst hci16
    refine gp_callI (va_runV (As := [.int (-1 : Int32)]) (rest := []) ⟨hx, hb, hml, hown, hts⟩ (c_X11_refuse (l := l) (D := D) (b := b) (cI := cI) (cL := cL) hc16) (cwV 1 hts gX11_steps_X11_refuse rfl rfl rfl (by decide +kernel) ⟨Nat.le_of_ble_eq_true rfl, Nat.le_of_ble_eq_true rfl⟩) (gp_preV hKn hG (cp_obj hcg16) rfl) rfl rfl hl.1 rfl (lv_room (Nat.le_of_ble_eq_true rfl)) dX11_steps_16 ⟨Nat.le_of_ble_eq_true rfl, Nat.le_of_ble_eq_true rfl⟩) hS (fun H locs hG hS => ?_)
    have hf := Option.some.inj hf
    subst hf
    exact gp_retI hx hb hr hlocks hG hS (Nat.le_of_ble_eq_true rfl) (Nat.le_of_ble_eq_true rfl) dX11_steps_19
  · have hf := gb_f c4 hf
    refine lv_iload_n hx hb dX11_steps_7 rfl (lv_at hl 2 rfl) ?_
    obtain ⟨o8, hc8, hf⟩ := gb_b hf
    refine gp_callI (va_runS (As := [.int v2]) (rest := []) ⟨hx, hb, hml, hown, hts⟩ (c_X2_isOne (l := l) (D := D) (b := b) (cI := cI) (cL := cL) hc8) (va_cwS 1 hts gX11_steps_X2_isOne rfl rfl rfl (by decide +kernel) ⟨Nat.le_of_ble_eq_true rfl, Nat.le_of_ble_eq_true rfl⟩) (gp_preS hKn hG) rfl rfl hl.1 rfl (lv_room (Nat.le_of_ble_eq_true rfl)) dX11_steps_8 ⟨Nat.le_of_ble_eq_true rfl, Nat.le_of_ble_eq_true rfl⟩) hS (fun H locs hG hS => ?_)
    refine lv_if_ne (tgt := 20) hx hb dX11_steps_11 (by decide) (fun c11 => ?_) (fun c11 => ?_)
    · have hf := gb_f c11 hf
      refine lv_iload_n hx hb dX11_steps_20 rfl (lv_at hl 1 rfl) ?_
      refine lv_iload_n hx hb dX11_steps_21 rfl (lv_at hl 2 rfl) ?_
      refine lv_aload_n hx hb dX11_steps_22 rfl (lv_at hl 0 rfl) ?_
      obtain ⟨t23, ht23, hf⟩ := gb_b hf
      refine cp_get (v := va_rf t23) hx hb hts gclX11 hown hK hG 4 (gfR_s ht23) (by decide) (hts _ (List.mem_of_getElem? (i := 1) rfl)) (fun _ h9 => h9) dX11_steps_23 ?_
      obtain ⟨q26, hq26, hf⟩ := gb_b hf
      refine W.eq (g2 := F0 m 26 ls [.ref q26, .int v2, .int v1]) (congrArg (fun z => F0 m 26 ls [va_rf z, .int v2, .int v1]) hq26) ?_
      obtain ⟨o26, hc26, hf⟩ := gb_b hf
      obtain ⟨oc26, hcO26, hc26⟩ := gb_b hc26
      obtain ⟨hcg26, hci26⟩ := gfO_s hcO26
      have hci26 := List.mem_singleton.mp hci26
      obtain ⟨kc26, fc26⟩ := oc26
      dsimp only at hci26 hcg26
      subst hci26
      refine gp_callL (va_runV (As := []) (rest := [.int v2, .int v1]) ⟨hx, hb, hml, hown, hts⟩ (c_X10_free (l := l) (D := D) (b := b) (cI := cI) (cL := cL) hc26) (cwV 0 hts gX11_steps_X10_free rfl rfl rfl (by decide +kernel) ⟨Nat.le_of_ble_eq_true rfl, Nat.le_of_ble_eq_true rfl⟩) (gp_preV hKn hG (cp_obj hcg26) rfl) rfl rfl hl.1 rfl (lv_room (Nat.le_of_ble_eq_true rfl)) dX11_steps_26 ⟨Nat.le_of_ble_eq_true rfl, Nat.le_of_ble_eq_true rfl⟩) hS (fun H locs hG hS => ?_)
      obtain ⟨o29, hc29, hf⟩ := gb_b hf
      refine gp_callI (va_runS (As := [.int v1, .int v2, .long o26]) (rest := []) ⟨hx, hb, hml, hown, hts⟩ (c_X2_fewestSteps (l := l) (D := D) (b := b) (cI := cI) (cL := cL) hc29) (va_cwS 3 hts gX11_steps_X2_fewestSteps rfl rfl rfl (by decide +kernel) ⟨Nat.le_of_ble_eq_true rfl, Nat.le_of_ble_eq_true rfl⟩) (gp_preS hKn hG) rfl rfl hl.1 rfl (lv_room (Nat.le_of_ble_eq_true rfl)) dX11_steps_29 ⟨Nat.le_of_ble_eq_true rfl, Nat.le_of_ble_eq_true rfl⟩) hS (fun H locs hG hS => ?_)
      have hf := Option.some.inj hf
      subst hf
      exact gp_retI hx hb hr hlocks hG hS (Nat.le_of_ble_eq_true rfl) (Nat.le_of_ble_eq_true rfl) dX11_steps_32
    · have hf := gb_t c11 hf
      refine lv_aload_n hx hb dX11_steps_14 rfl (lv_at hl 0 rfl) ?_
      refine lv_iconst (v := (-1 : Int32)) hx hb dX11_steps_15 (by decide) ?_
      obtain ⟨o16, hc16, hf⟩ := gb_b hf
      obtain ⟨oc16, hcO16, hc16⟩ := gb_b hc16
      obtain ⟨hcg16, hci16⟩ := gfO_s hcO16
      have hci16 := List.mem_singleton.mp hci16
      obtain ⟨kc16, fc16⟩ := oc16
      dsimp only at hci16 hcg16
      subst hci16
      refine gp_callI (va_runV (As := [.int (-1 : Int32)]) (rest := []) ⟨hx, hb, hml, hown, hts⟩ (c_X11_refuse (l := l) (D := D) (b := b) (cI := cI) (cL := cL) hc16) (cwV 1 hts gX11_steps_X11_refuse rfl rfl rfl (by decide +kernel) ⟨Nat.le_of_ble_eq_true rfl, Nat.le_of_ble_eq_true rfl⟩) (gp_preV hKn hG (cp_obj hcg16) rfl) rfl rfl hl.1 rfl (lv_room (Nat.le_of_ble_eq_true rfl)) dX11_steps_16 ⟨Nat.le_of_ble_eq_true rfl, Nat.le_of_ble_eq_true rfl⟩) hS (fun H locs hG hS => ?_)
      have hf := Option.some.inj hf
      subst hf
      exact gp_retI hx hb hr hlocks hG hS (Nat.le_of_ble_eq_true rfl) (Nat.le_of_ble_eq_true rfl) dX11_steps_19
-- X11_swap
abbrev rm_X11_swap : Room := { frames := 5, cells := 0, slots := 0, locals := 120 }
set_option maxHeartbeats 4000000 in
set_option maxRecDepth 100000 in
theorem c_X11_swap {v1 : Int32} {v2 : Int32} {R : Int32 × (Nat → GV)} (hf : f_X11_swap gv h0 v1 v2 = some R) : Met l yX11_swap wsX11_swap rm_X11_swap (va_Pc [.ref h0, .int v1, .int v2] (gPre D b M (gW cI cL gv) (gTy cI cL))) (gQ D b (some (.int R.1)) M (gW cI cL R.2)) 0 0 (gA b) := by
  refine gp_met (cc := cX11_swap) (maxL := 7) (ret := (some .int)) (by decide) rfl (Nat.le_of_ble_eq_true rfl) ?_
  intro p e s m below meth c X ls hG hl
  obtain ⟨H, hH0⟩ : ∃ H : Heap, H = s.heap := ⟨_, rfl⟩
  rw [← hH0] at hG ⊢
  have hS : va_S (gA b) s.heap H [] := by rw [hH0]; exact va_S.rf
  obtain ⟨locs, hlo⟩ : ∃ z : List Loc, z = [] := ⟨_, rfl⟩
  rw [← hlo] at hS ⊢
  unfold f_X11_swap at hf
  obtain ⟨hx, hb, hr, hml, hown, hts, hlocks, hKn, hBs⟩ := id X
  have hK := hKn.1
  have gclX11 : gcl [9] TX11 8 wsX11_swap := gcl_1 rfl (fun _ h => List.mem_cons_of_mem _ (List.mem_append_left _ (List.mem_append_left _ (List.mem_append_left _ (List.mem_append_left _ (List.mem_append_left _ (List.mem_append_left _ (List.mem_append_left _ (List.mem_append_left _ (List.mem_append_right _ h))))))))))
  have hl : lv_has ls 7 [(0, .ref h0), (1, .int v1), (2, .int v2)] := hl
  refine lv_aload_n hx hb dX11_swap_0 rfl (lv_at hl 0 rfl) ?_
  obtain ⟨t1, ht1, hf⟩ := gb_b hf
  refine cp_get (v := va_rf t1) hx hb hts gclX11 hown hK hG 4 (gfR_s ht1) (by decide) (hts _ (List.mem_of_getElem? (i := 1) rfl)) (fun _ h9 => h9) dX11_swap_1 ?_
  refine lv_iload_n hx hb dX11_swap_4 rfl (lv_at hl 1 rfl) ?_
  obtain ⟨q5, hq5, hf⟩ := gb_b hf
  refine W.eq (g2 := F0 m 5 ls [.int v1, .ref q5]) (congrArg (fun z => F0 m 5 ls [.int v1, va_rf z]) hq5) ?_
  obtain ⟨o5, hc5, hf⟩ := gb_b hf
  obtain ⟨oc5, hcO5, hc5⟩ := gb_b hc5
  obtain ⟨hcg5, hci5⟩ := gfO_s hcO5
  have hci5 := List.mem_singleton.mp hci5
  obtain ⟨kc5, fc5⟩ := oc5
  dsimp only at hci5 hcg5
  subst hci5
  refine gp_callR (va_runV (As := [.int v1]) (rest := []) ⟨hx, hb, hml, hown, hts⟩ (c_X10_lampAt (l := l) (D := D) (b := b) (cI := cI) (cL := cL) hc5) (cwV 1 hts gX11_swap_X10_lampAt rfl rfl rfl (by decide +kernel) ⟨Nat.le_of_ble_eq_true rfl, Nat.le_of_ble_eq_true rfl⟩) (gp_preV hKn hG (cp_obj hcg5) rfl) rfl rfl hl.1 rfl (lv_room (Nat.le_of_ble_eq_true rfl)) dX11_swap_5 ⟨Nat.le_of_ble_eq_true rfl, Nat.le_of_ble_eq_true rfl⟩) hS (fun H locs hG hS => ?_)
  refine gp_astore_n (lv' := [(3, va_rf o5), (0, .ref h0), (1, .int v1), (2, .int v2)]) hx hb dX11_swap_8 rfl hl (by decide) rfl (fun ls hl => ?_)
  refine lv_aload_n hx hb dX11_swap_9 rfl (lv_at hl 1 rfl) ?_
  obtain ⟨t10, ht10, hf⟩ := gb_b hf
  refine cp_get (v := va_rf t10) hx hb hts gclX11 hown hK hG 4 (gfR_s ht10) (by decide) (hts _ (List.mem_of_getElem? (i := 1) rfl)) (fun _ h9 => h9) dX11_swap_10 ?_
  refine lv_iload_n hx hb dX11_swap_13 rfl (lv_at hl 3 rfl) ?_
  obtain ⟨q14, hq14, hf⟩ := gb_b hf
  refine W.eq (g2 := F0 m 14 ls [.int v2, .ref q14]) (congrArg (fun z => F0 m 14 ls [.int v2, va_rf z]) hq14) ?_
  obtain ⟨o14, hc14, hf⟩ := gb_b hf
  obtain ⟨oc14, hcO14, hc14⟩ := gb_b hc14
  obtain ⟨hcg14, hci14⟩ := gfO_s hcO14
  have hci14 := List.mem_singleton.mp hci14
  obtain ⟨kc14, fc14⟩ := oc14
  dsimp only at hci14 hcg14
  subst hci14
  refine gp_callR (va_runV (As := [.int v2]) (rest := []) ⟨hx, hb, hml, hown, hts⟩ (c_X10_lampAt (l := l) (D := D) (b := b) (cI := cI) (cL := cL) hc14) (cwV 1 hts gX11_swap_X10_lampAt rfl rfl rfl (by decide +kernel) ⟨Nat.le_of_ble_eq_true rfl, Nat.le_of_ble_eq_true rfl⟩) (gp_preV hKn hG (cp_obj hcg14) rfl) rfl rfl hl.1 rfl (lv_room (Nat.le_of_ble_eq_true rfl)) dX11_swap_14 ⟨Nat.le_of_ble_eq_true rfl, Nat.le_of_ble_eq_true rfl⟩) hS (fun H locs hG hS => ?_)
  refine gp_astore (lv' := [(4, va_rf o14), (3, va_rf o5), (0, .ref h0), (1, .int v1), (2, .int v2)]) hx hb dX11_swap_17 hl (by decide) (by generalize o5 = zz; cases zz <;> rfl) (fun ls hl => ?_)
  refine gp_aload_n (x := o5) hx hb dX11_swap_19 rfl (lv_at hl 1 rfl) ?_
  refine gp_ifnull (x := o5) (tgt := 28) hx hb dX11_swap_20 (by decide) ?_ ?_
  · intro e20
    rw [e20] at hl
    rw [e20] at hf
    dsimp only at hf
    refine lv_ldc (v := 1000000000) hx hb hown (hts _ (List.mem_of_getElem? (i := 2) rfl)) dX11_swap_28 ?_
    refine lv_aload_n hx hb dX11_swap_30 rfl (lv_at hl 2 rfl) ?_
    refine lv_iconst (v := (-1 : Int32)) hx hb dX11_swap_31 (by decide) ?_
    obtain ⟨o32, hc32, hf⟩ := gb_b hf
    obtain ⟨oc32, hcO32, hc32⟩ := gb_b hc32
    obtain ⟨hcg32, hci32⟩ := gfO_s hcO32
    have hci32 := List.mem_singleton.mp hci32
    obtain ⟨kc32, fc32⟩ := oc32
    dsimp only at hci32 hcg32
    subst hci32
    refine gp_callI (va_runV (As := [.int (-1 : Int32)]) (rest := [.int 1000000000]) ⟨hx, hb, hml, hown, hts⟩ (c_X11_refuse (l := l) (D := D) (b := b) (cI := cI) (cL := cL) hc32) (cwV 1 hts gX11_swap_X11_refuse rfl rfl rfl (by decide +kernel) ⟨Nat.le_of_ble_eq_true rfl, Nat.le_of_ble_eq_true rfl⟩) (gp_preV hKn hG (cp_obj hcg32) rfl) rfl rfl hl.1 rfl (lv_room (Nat.le_of_ble_eq_true rfl)) dX11_swap_32 ⟨Nat.le_of_ble_eq_true rfl, Nat.le_of_ble_eq_true rfl⟩) hS (fun H locs hG hS => ?_)
    refine lv_isub hx hb dX11_swap_35 ?_
    have hf := Option.some.inj hf
    subst hf
    exact gp_retI hx hb hr hlocks hG hS (Nat.le_of_ble_eq_true rfl) (Nat.le_of_ble_eq_true rfl) dX11_swap_36
  · intro n20 e20
    rw [e20] at hl
    rw [e20] at hf
    dsimp only at hf
    refine gp_aload (x := o14) hx hb dX11_swap_23 (lv_at hl 0 rfl) ?_
    refine gp_ifnonnull (x := o14) (tgt := 37) hx hb dX11_swap_25 (by decide) ?_ ?_
    · intro n25 e25
      rw [e25] at hl
      rw [e25] at hf
      dsimp only at hf
      refine lv_aload_n hx hb dX11_swap_37 rfl (lv_at hl 2 rfl) ?_
      obtain ⟨t38, ht38, hf⟩ := gb_b hf
      refine cp_get (v := va_rf t38) hx hb hts gclX11 hown hK hG 4 (gfR_s ht38) (by decide) (hts _ (List.mem_of_getElem? (i := 1) rfl)) (fun _ h9 => h9) dX11_swap_38 ?_
      refine lv_iconst (v := 0) hx hb dX11_swap_41 (by decide) ?_
      obtain ⟨q42, hq42, hf⟩ := gb_b hf
      refine W.eq (g2 := F0 m 42 ls [.int 0, .ref q42]) (congrArg (fun z => F0 m 42 ls [.int 0, va_rf z]) hq42) ?_
      obtain ⟨o42, hc42, hf⟩ := gb_b hf
      obtain ⟨oc42, hcO42, hc42⟩ := gb_b hc42
      obtain ⟨hcg42, hci42⟩ := gfO_s hcO42
      have hci42 := List.mem_singleton.mp hci42
      obtain ⟨kc42, fc42⟩ := oc42
      dsimp only at hci42 hcg42
      subst hci42
      refine gp_callL (va_runV (As := [.int 0]) (rest := []) ⟨hx, hb, hml, hown, hts⟩ (c_X10_litBut (l := l) (D := D) (b := b) (cI := cI) (cL := cL) hc42) (cwV 1 hts gX11_swap_X10_litBut rfl rfl rfl (by decide +kernel) ⟨Nat.le_of_ble_eq_true rfl, Nat.le_of_ble_eq_true rfl⟩) (gp_preV hKn hG (cp_obj hcg42) rfl) rfl rfl hl.1 rfl (lv_room (Nat.le_of_ble_eq_true rfl)) dX11_swap_42 ⟨Nat.le_of_ble_eq_true rfl, Nat.le_of_ble_eq_true rfl⟩) hS (fun H locs hG hS => ?_)
      obtain ⟨o45, hc45, hf⟩ := gb_b hf
      refine gp_callI (va_runS (As := [.long o42]) (rest := []) ⟨hx, hb, hml, hown, hts⟩ (c_X2_howMany (l := l) (D := D) (b := b) (cI := cI) (cL := cL) hc45) (va_cwS 1 hts gX11_swap_X2_howMany rfl rfl rfl (by decide +kernel) ⟨Nat.le_of_ble_eq_true rfl, Nat.le_of_ble_eq_true rfl⟩) (gp_preS hKn hG) rfl rfl hl.1 rfl (lv_room (Nat.le_of_ble_eq_true rfl)) dX11_swap_45 ⟨Nat.le_of_ble_eq_true rfl, Nat.le_of_ble_eq_true rfl⟩) hS (fun H locs hG hS => ?_)
      refine lv_istore (lv' := [(5, .int o45), (4, .ref n25), (3, .ref n20), (0, .ref h0), (1, .int v1), (2, .int v2)]) hx hb dX11_swap_48 hl (by decide) rfl (fun ls hl => ?_)
      refine lv_aload_n hx hb dX11_swap_50 rfl (lv_at hl 2 rfl) ?_
      refine lv_aload hx hb dX11_swap_51 (lv_at hl 1 rfl) ?_
      obtain ⟨o53, hc53, hf⟩ := gb_b hf
      refine gp_callV (va_runS (As := [.ref n20, .ref n25]) (rest := []) ⟨hx, hb, hml, hown, hts⟩ (c_X11_changeCells (l := l) (D := D) (b := b) (cI := cI) (cL := cL) hc53) (va_cwS 2 hts gX11_swap_X11_changeCells rfl rfl rfl (by decide +kernel) ⟨Nat.le_of_ble_eq_true rfl, Nat.le_of_ble_eq_true rfl⟩) (gp_preS hKn hG) rfl rfl hl.1 rfl (lv_room (Nat.le_of_ble_eq_true rfl)) dX11_swap_53 ⟨Nat.le_of_ble_eq_true rfl, Nat.le_of_ble_eq_true rfl⟩) hS (fun H locs hG hS => ?_)
      refine lv_aload_n hx hb dX11_swap_56 rfl (lv_at hl 3 rfl) ?_
      obtain ⟨t57, ht57, hf⟩ := gb_b hf
      refine cp_get (v := va_rf t57) hx hb hts gclX11 hown hK hG 4 (gfR_s ht57) (by decide) (hts _ (List.mem_of_getElem? (i := 1) rfl)) (fun _ h9 => h9) dX11_swap_57 ?_
      refine lv_iconst (v := 0) hx hb dX11_swap_60 (by decide) ?_
      obtain ⟨q61, hq61, hf⟩ := gb_b hf
      refine W.eq (g2 := F0 m 61 ls [.int 0, .ref q61]) (congrArg (fun z => F0 m 61 ls [.int 0, va_rf z]) hq61) ?_
      obtain ⟨o61, hc61, hf⟩ := gb_b hf
      obtain ⟨oc61, hcO61, hc61⟩ := gb_b hc61
      obtain ⟨hcg61, hci61⟩ := gfO_s hcO61
      have hci61 := List.mem_singleton.mp hci61
      obtain ⟨kc61, fc61⟩ := oc61
      dsimp only at hci61 hcg61
      subst hci61
      refine gp_callL (va_runV (As := [.int 0]) (rest := []) ⟨hx, hb, hml, hown, hts⟩ (c_X10_litBut (l := l) (D := D) (b := b) (cI := cI) (cL := cL) hc61) (cwV 1 hts gX11_swap_X10_litBut rfl rfl rfl (by decide +kernel) ⟨Nat.le_of_ble_eq_true rfl, Nat.le_of_ble_eq_true rfl⟩) (gp_preV hKn hG (cp_obj hcg61) rfl) rfl rfl hl.1 rfl (lv_room (Nat.le_of_ble_eq_true rfl)) dX11_swap_61 ⟨Nat.le_of_ble_eq_true rfl, Nat.le_of_ble_eq_true rfl⟩) hS (fun H locs hG hS => ?_)
      obtain ⟨o64, hc64, hf⟩ := gb_b hf
      refine gp_callI (va_runS (As := [.long o61]) (rest := []) ⟨hx, hb, hml, hown, hts⟩ (c_X2_howMany (l := l) (D := D) (b := b) (cI := cI) (cL := cL) hc64) (va_cwS 1 hts gX11_swap_X2_howMany rfl rfl rfl (by decide +kernel) ⟨Nat.le_of_ble_eq_true rfl, Nat.le_of_ble_eq_true rfl⟩) (gp_preS hKn hG) rfl rfl hl.1 rfl (lv_room (Nat.le_of_ble_eq_true rfl)) dX11_swap_64 ⟨Nat.le_of_ble_eq_true rfl, Nat.le_of_ble_eq_true rfl⟩) hS (fun H locs hG hS => ?_)
      refine lv_istore (lv' := [(6, .int o64), (5, .int o45), (4, .ref n25), (3, .ref n20), (0, .ref h0), (1, .int v1), (2, .int v2)]) hx hb dX11_swap_67 hl (by decide) rfl (fun ls hl => ?_)
      refine lv_aload_n hx hb dX11_swap_69 rfl (lv_at hl 3 rfl) ?_
      refine lv_aload hx hb dX11_swap_70 (lv_at hl 2 rfl) ?_
      obtain ⟨o72, hc72, hf⟩ := gb_b hf
      refine gp_callV (va_runS (As := [.ref n20, .ref n25]) (rest := []) ⟨hx, hb, hml, hown, hts⟩ (c_X11_changeCells (l := l) (D := D) (b := b) (cI := cI) (cL := cL) hc72) (va_cwS 2 hts gX11_swap_X11_changeCells rfl rfl rfl (by decide +kernel) ⟨Nat.le_of_ble_eq_true rfl, Nat.le_of_ble_eq_true rfl⟩) (gp_preS hKn hG) rfl rfl hl.1 rfl (lv_room (Nat.le_of_ble_eq_true rfl)) dX11_swap_72 ⟨Nat.le_of_ble_eq_true rfl, Nat.le_of_ble_eq_true rfl⟩) hS (fun H locs hG hS => ?_)
      refine lv_iload hx hb dX11_swap_75 (lv_at hl 0 rfl) ?_
      refine lv_iload hx hb dX11_swap_77 (lv_at hl 1 rfl) ?_
      refine lv_isub hx hb dX11_swap_79 ?_
      have hf := Option.some.inj hf
      subst hf
      exact gp_retI hx hb hr hlocks hG hS (Nat.le_of_ble_eq_true rfl) (Nat.le_of_ble_eq_true rfl) dX11_swap_80
    · intro e25
      rw [e25] at hl
      rw [e25] at hf
      dsimp only at hf
      refine lv_ldc (v := 1000000000) hx hb hown (hts _ (List.mem_of_getElem? (i := 2) rfl)) dX11_swap_28 ?_
      refine lv_aload_n hx hb dX11_swap_30 rfl (lv_at hl 2 rfl) ?_
      refine lv_iconst (v := (-1 : Int32)) hx hb dX11_swap_31 (by decide) ?_
      obtain ⟨o32, hc32, hf⟩ := gb_b hf
      obtain ⟨oc32, hcO32, hc32⟩ := gb_b hc32
      obtain ⟨hcg32, hci32⟩ := gfO_s hcO32
      have hci32 := List.mem_singleton.mp hci32
      obtain ⟨kc32, fc32⟩ := oc32
      dsimp only at hci32 hcg32
      subst hci32
      refine gp_callI (va_runV (As := [.int (-1 : Int32)]) (rest := [.int 1000000000]) ⟨hx, hb, hml, hown, hts⟩ (c_X11_refuse (l := l) (D := D) (b := b) (cI := cI) (cL := cL) hc32) (cwV 1 hts gX11_swap_X11_refuse rfl rfl rfl (by decide +kernel) ⟨Nat.le_of_ble_eq_true rfl, Nat.le_of_ble_eq_true rfl⟩) (gp_preV hKn hG (cp_obj hcg32) rfl) rfl rfl hl.1 rfl (lv_room (Nat.le_of_ble_eq_true rfl)) dX11_swap_32 ⟨Nat.le_of_ble_eq_true rfl, Nat.le_of_ble_eq_true rfl⟩) hS (fun H locs hG hS => ?_)
      refine lv_isub hx hb dX11_swap_35 ?_
      have hf := Option.some.inj hf
      subst hf
      exact gp_retI hx hb hr hlocks hG hS (Nat.le_of_ble_eq_true rfl) (Nat.le_of_ble_eq_true rfl) dX11_swap_36
-- X11_town
abbrev rm_X11_town : Room := { frames := 8, cells := 94, slots := 658, locals := 178 }
set_option maxHeartbeats 4000000 in
set_option maxRecDepth 100000 in
theorem c_X11_town {R : Int32 × (Nat → GV) × Nat} (hf : f_X11_town gv M h0 = some R) : Met l yX11_town wsX11_town rm_X11_town (va_Pc [.ref h0] (gPre D b M (gW cI cL gv) (gTy cI cL))) (gQ D b (some (.int R.1)) R.2.2 (gW cI cL R.2.1)) 94 658 (gA b) := by
  refine gp_met (cc := cX11_town) (maxL := 3) (ret := (some .int)) (by decide) rfl (Nat.le_of_ble_eq_true rfl) ?_
  intro p e s m below meth c X ls hG hl
  obtain ⟨H, hH0⟩ : ∃ H : Heap, H = s.heap := ⟨_, rfl⟩
  rw [← hH0] at hG ⊢
  have hS : va_S (gA b) s.heap H [] := by rw [hH0]; exact va_S.rf
  obtain ⟨locs, hlo⟩ : ∃ z : List Loc, z = [] := ⟨_, rfl⟩
  rw [← hlo] at hS ⊢
  unfold f_X11_town at hf
  obtain ⟨hx, hb, hr, hml, hown, hts, hlocks, hKn, hBs⟩ := id X
  have hK := hKn.1
  have gclX11 : gcl [9] TX11 8 wsX11_town := gcl_1 rfl (fun _ h => List.mem_cons_of_mem _ (List.mem_append_left _ (List.mem_append_left _ (List.mem_append_left _ (List.mem_append_left _ (List.mem_append_left _ (List.mem_append_left _ (List.mem_append_left _ (List.mem_append_left _ (List.mem_append_left _ (List.mem_append_right _ h)))))))))))
  have hl : lv_has ls 3 [(0, .ref h0)] := hl
  refine lv_aload_n hx hb dX11_town_0 rfl (lv_at hl 0 rfl) ?_
  obtain ⟨t1, ht1, hf⟩ := gb_b hf
  refine cp_get (v := va_rf t1) hx hb hts gclX11 hown hK hG 5 (gfR_s ht1) (by decide) (hts _ (List.mem_of_getElem? (i := 1) rfl)) (fun _ h9 => h9) dX11_town_1 ?_
  refine lv_aload_n hx hb dX11_town_4 rfl (lv_at hl 0 rfl) ?_
  obtain ⟨t5, ht5, hf⟩ := gb_b hf
  refine cp_get (v := va_rf t5) hx hb hts gclX11 hown hK hG 4 (gfR_s ht5) (by decide) (hts _ (List.mem_of_getElem? (i := 2) rfl)) (fun _ h9 => h9) dX11_town_5 ?_
  obtain ⟨q8, hq8, hf⟩ := gb_b hf
  refine W.eq (g2 := F0 m 8 ls [va_rf t5, .ref q8]) (congrArg (fun z => F0 m 8 ls [va_rf t5, va_rf z]) hq8) ?_
  obtain ⟨o8, hc8, hf⟩ := gb_b hf
  obtain ⟨oc8, hcO8, hc8⟩ := gb_b hc8
  obtain ⟨hcg8, hci8⟩ := gfO_s hcO8
  have hci8 := List.mem_singleton.mp hci8
  obtain ⟨kc8, fc8⟩ := oc8
  dsimp only at hci8 hcg8
  subst hci8
  refine gp_callV (va_runV (As := [va_rf t5]) (rest := []) ⟨hx, hb, hml, hown, hts⟩ (c_X10_become (l := l) (D := D) (b := b) (cI := cI) (cL := cL) hc8) (cwV 1 hts gX11_town_X10_become rfl rfl rfl (by decide +kernel) ⟨Nat.le_of_ble_eq_true rfl, Nat.le_of_ble_eq_true rfl⟩) (gp_preV hKn hG (cp_obj hcg8) rfl) rfl rfl hl.1 rfl (lv_room (Nat.le_of_ble_eq_true rfl)) dX11_town_8 ⟨Nat.le_of_ble_eq_true rfl, Nat.le_of_ble_eq_true rfl⟩) hS (fun H locs hG hS => ?_)
  refine lv_aload_n hx hb dX11_town_11 rfl (lv_at hl 0 rfl) ?_
  obtain ⟨t12, ht12, hf⟩ := gb_b hf
  refine cp_get (v := va_rf t12) hx hb hts gclX11 hown hK hG 0 (gfR_s ht12) (by decide) (hts _ (List.mem_of_getElem? (i := 3) rfl)) (fun _ h9 => h9) dX11_town_12 ?_
  refine lv_aload_n hx hb dX11_town_15 rfl (lv_at hl 0 rfl) ?_
  obtain ⟨t16, ht16, hf⟩ := gb_b hf
  refine cp_get (v := va_rf t16) hx hb hts gclX11 hown hK hG 5 (gfR_s ht16) (by decide) (hts _ (List.mem_of_getElem? (i := 1) rfl)) (fun _ h9 => h9) dX11_town_16 ?_
  obtain ⟨q19, hq19, hf⟩ := gb_b hf
  refine W.eq (g2 := F0 m 19 ls [va_rf t16, .ref q19]) (congrArg (fun z => F0 m 19 ls [va_rf t16, va_rf z]) hq19) ?_
  obtain ⟨o19, hc19, hf⟩ := gb_b hf
  obtain ⟨oc19, hcO19, hc19⟩ := gb_b hc19
  obtain ⟨hcg19, hci19⟩ := gfO_s hcO19
  have hci19 := List.mem_singleton.mp hci19
  obtain ⟨kc19, fc19⟩ := oc19
  dsimp only at hci19 hcg19
  subst hci19
  refine gp_callI (va_runV (As := [va_rf t16]) (rest := []) ⟨hx, hb, hml, hown, hts⟩ (c_X6_tellTo (l := l) (D := D) (b := b) (cI := cI) (cL := cL) hc19) (cwV 1 hts gX11_town_X6_tellTo rfl rfl rfl (by decide +kernel) ⟨Nat.le_of_ble_eq_true rfl, Nat.le_of_ble_eq_true rfl⟩) (gp_preV hKn hG (cp_obj hcg19) rfl) rfl rfl hl.1 rfl (lv_room (Nat.le_of_ble_eq_true rfl)) dX11_town_19 ⟨Nat.le_of_ble_eq_true rfl, Nat.le_of_ble_eq_true rfl⟩) hS (fun H locs hG hS => ?_)
  refine lv_istore_n (lv' := [(1, .int o19.1), (0, .ref h0)]) hx hb dX11_town_22 rfl hl (by decide) rfl (fun ls hl => ?_)
  refine lv_aload_n hx hb dX11_town_23 rfl (lv_at hl 1 rfl) ?_
  obtain ⟨t24, ht24, hf⟩ := gb_b hf
  refine cp_get (v := va_rf t24) hx hb hts gclX11 hown hK hG 0 (gfR_s ht24) (by decide) (hts _ (List.mem_of_getElem? (i := 3) rfl)) (fun _ h9 => h9) dX11_town_24 ?_
  obtain ⟨q27, hq27, hf⟩ := gb_b hf
  refine W.eq (g2 := F0 m 27 ls [.ref q27]) (congrArg (fun z => F0 m 27 ls [va_rf z]) hq27) ?_
  obtain ⟨o27, hc27, hf⟩ := gb_b hf
  obtain ⟨oc27, hcO27, hc27⟩ := gb_b hc27
  obtain ⟨hcg27, hci27⟩ := gfO_s hcO27
  have hci27 := List.mem_singleton.mp hci27
  obtain ⟨kc27, fc27⟩ := oc27
  dsimp only at hci27 hcg27
  subst hci27
  refine gp_callV (va_runV (As := []) (rest := []) ⟨hx, hb, hml, hown, hts⟩ (c_X6_clear (l := l) (D := D) (b := b) (cI := cI) (cL := cL) hc27) (cwV 0 hts gX11_town_X6_clear rfl rfl rfl (by decide +kernel) ⟨Nat.le_of_ble_eq_true rfl, Nat.le_of_ble_eq_true rfl⟩) (gp_preV hKn hG (cp_obj hcg27) rfl) rfl rfl hl.1 rfl (lv_room (Nat.le_of_ble_eq_true rfl)) dX11_town_27 ⟨Nat.le_of_ble_eq_true rfl, Nat.le_of_ble_eq_true rfl⟩) hS (fun H locs hG hS => ?_)
  refine lv_iload_n hx hb dX11_town_30 rfl (lv_at hl 0 rfl) ?_
  obtain ⟨j31, hj31, hf⟩ := gb_b hf
  have hJ31 : ∀ (H : Heap) (locs : List Loc) (ls : Array Slot), GP D b o19.2.2 (gW cI cL j31) H → va_S (gA b) s.heap H locs → lv_has ls 3 [(1, .int o19.1)] → W p l e rm_X11_town s m [.ref h0].toArray below meth c H locs (0 + 14 + 80) (0 + 98 + 560) (MQ below (gQ D b (some (.int R.1)) R.2.2 (gW cI cL R.2.1)) [.ref h0].toArray s 94 658 (gA b)) (F0 m 52 ls []) := by
    intro H locs ls hG hS hl
    refine lv_iload_n hx hb dX11_town_52 rfl (lv_at hl 0 rfl) ?_
    have hf := Option.some.inj hf
    subst hf
    exact gp_retI hx hb hr hlocks hG hS (Nat.le_of_ble_eq_true rfl) (Nat.le_of_ble_eq_true rfl) dX11_town_53
  refine lv_if_lt (tgt := 52) hx hb dX11_town_31 (by decide) (fun c31 => ?_) (fun c31 => ?_)
  · have hj31 := gb_t c31 hj31
    have hj31 := Option.some.inj hj31
    subst hj31
    exact (hJ31 H locs ls hG hS (lv_sub hl [0] rfl))
  · have hj31 := gb_f c31 hj31
    refine lv_aload_n hx hb dX11_town_34 rfl (lv_at hl 1 rfl) ?_
    obtain ⟨t35, ht35, hj31⟩ := gb_b hj31
    refine cp_get (v := va_rf t35) hx hb hts gclX11 hown hK hG 4 (gfR_s ht35) (by decide) (hts _ (List.mem_of_getElem? (i := 2) rfl)) (fun _ h9 => h9) dX11_town_35 ?_
    refine gp_astore_n (lv' := [(2, va_rf t35), (1, .int o19.1), (0, .ref h0)]) hx hb dX11_town_38 rfl hl (by decide) rfl (fun ls hl => ?_)
    refine lv_aload_n hx hb dX11_town_39 rfl (lv_at hl 2 rfl) ?_
    refine lv_aload_n hx hb dX11_town_40 rfl (lv_at hl 2 rfl) ?_
    obtain ⟨t41, ht41, hj31⟩ := gb_b hj31
    refine cp_get (v := va_rf t41) hx hb hts gclX11 hown hK hG 5 (gfR_s ht41) (by decide) (hts _ (List.mem_of_getElem? (i := 1) rfl)) (fun _ h9 => h9) dX11_town_41 ?_
    obtain ⟨g44, ht44, hj31⟩ := gb_b hj31
    refine cp_put (tyk := (.object "LampsThatRemember$Town")) hx hb hts gclX11 tyX11 tyX11_ok nmX11 hown hK hG hS 4 ht44 (by decide) (hts _ (List.mem_of_getElem? (i := 2) rfl)) (fun _ h9 => h9) rfl (by decide +kernel) (gnar_R) (gfit_R) dX11_town_44 (fun H locs hG hS => ?_)
    refine lv_aload_n hx hb dX11_town_47 rfl (lv_at hl 2 rfl) ?_
    refine gp_aload_n (x := t35) hx hb dX11_town_48 rfl (lv_at hl 0 rfl) ?_
    obtain ⟨g49, ht49, hj31⟩ := gb_b hj31
    refine cp_put (tyk := (.object "LampsThatRemember$Town")) hx hb hts gclX11 tyX11 tyX11_ok nmX11 hown hK hG hS 5 ht49 (by decide) (hts _ (List.mem_of_getElem? (i := 1) rfl)) (fun _ h9 => h9) rfl (by decide +kernel) (gnar_R) (gfit_R) dX11_town_49 (fun H locs hG hS => ?_)
    have hj31 := Option.some.inj hj31
    subst hj31
    exact (hJ31 H locs ls hG hS (lv_sub hl [1] rfl))
-- X11_two
abbrev rm_X11_two : Room := { frames := 2, cells := 0, slots := 0, locals := 43 }
set_option maxHeartbeats 4000000 in
set_option maxRecDepth 100000 in
theorem w_X11_two_40 {α : Type} {R : α} {K101 : Int32 → Option α} {v3 : Nat} {v4 : Nat} (X : gC p s m args meth c cX11_two 9 (some .int) wsX11_two RX11 D b (gTy cI cL)) : ∀ (n : Nat) (v5 : Int32) (v6 : Int32), L_X11_two_40 K101 gv v3 v4 n v5 v6 = some R → (∀ (x : Int32), K101 x = some R → ∀ (H : Heap) (locs : List Loc) (ls : Array Slot), GP D b M (gW cI cL gv) H → va_S (gA b) s.heap H locs → lv_has ls 9 [(5, .int x)] → W p l e rm_X11_two s m args below meth c H locs 0 0 Q (F0 m 101 ls [])) → ∀ (H : Heap) (locs : List Loc) (ls : Array Slot), GP D b M (gW cI cL gv) H → va_S (gA b) s.heap H locs → lv_has ls 9 [(3, .ref v3), (4, .ref v4), (5, .int v5), (6, .int v6)] → W p l e rm_X11_two s m args below meth c H locs 0 0 Q (F0 m 40 ls []) := by
  obtain ⟨hx, hb, hr, hml, hown, hts, hlocks, hKn, hBs⟩ := id X
  have hK := hKn.1
  have gclL : gcl gLC TX5 5 wsX11_two := gcl_L (fun _ h => List.mem_cons_of_mem _ (List.mem_append_left _ (List.mem_append_left _ (List.mem_append_left _ (List.mem_append_left _ (List.mem_append_left _ (List.mem_append_left _ (List.mem_append_left _ (List.mem_append_right _ h))))))))) (fun _ h => List.mem_cons_of_mem _ (List.mem_append_left _ (List.mem_append_left _ (List.mem_append_left _ (List.mem_append_left _ (List.mem_append_left _ (List.mem_append_left _ (List.mem_append_right _ h)))))))) (fun _ h => List.mem_cons_of_mem _ (List.mem_append_left _ (List.mem_append_left _ (List.mem_append_left _ (List.mem_append_left _ (List.mem_append_left _ (List.mem_append_right _ h))))))) (fun _ h => List.mem_cons_of_mem _ (List.mem_append_left _ (List.mem_append_left _ (List.mem_append_left _ (List.mem_append_left _ (List.mem_append_right _ h)))))) (fun _ h => List.mem_cons_of_mem _ (List.mem_append_left _ (List.mem_append_left _ (List.mem_append_left _ (List.mem_append_right _ h))))) (fun _ h => List.mem_cons_of_mem _ (List.mem_append_left _ (List.mem_append_left _ (List.mem_append_right _ h)))) (fun _ h => List.mem_cons_of_mem _ (List.mem_append_left _ (List.mem_append_right _ h)))
  have gclX11 : gcl [9] TX11 8 wsX11_two := gcl_1 rfl (fun _ h => List.mem_cons_of_mem _ (List.mem_append_left _ (List.mem_append_left _ (List.mem_append_left _ (List.mem_append_left _ (List.mem_append_left _ (List.mem_append_left _ (List.mem_append_left _ (List.mem_append_left _ (List.mem_append_right _ h))))))))))
  intro n
  induction n with
  | zero =>
    intro v5 v6 hf
    cases hf
  | succ n ih =>
    intro v5 v6 hf hk101 H locs ls hG hS hl
    rw [L_X11_two_40.eq_2] at hf
    refine lv_iload hx hb dX11_two_40 (lv_at hl 3 rfl) ?_
    refine lv_aload_n hx hb dX11_two_42 rfl (lv_at hl 0 rfl) ?_
    obtain ⟨t43, ht43, hf⟩ := gb_b hf
    refine cp_get (v := .int t43) hx hb hts gclL hown hK hG 3 (gfI_s ht43) (by decide) (hts _ (List.mem_of_getElem? (i := 2) rfl)) (fun _ h9 => h9) dX11_two_43 ?_
    refine lv_icmp_ge (tgt := 101) hx hb dX11_two_46 (by decide) (fun c46 => ?_) (fun c46 => ?_)
    · have hf := gb_t c46 hf
      exact (hk101 _ hf _ _ _ hG hS (lv_sub hl [2] rfl))
    · have hf := gb_f c46 hf
      refine lv_aload_n hx hb dX11_two_49 rfl (lv_at hl 0 rfl) ?_
      refine lv_iload hx hb dX11_two_50 (lv_at hl 3 rfl) ?_
      obtain ⟨o52, hc52, hf⟩ := gb_b hf
      have hrun52 : va_Run p l e rm_X11_two s m args below meth c H locs 0 0 0 0 (F0 m 52 ls ([.int v6].reverse ++ .ref v3 :: [])) [] (gQ D b (some (.int o52)) M (gW cI cL gv) (Value.ref v3 :: [.int v6]).toArray) (gA b) := by
        obtain ⟨oc, hcO, hc52⟩ := gb_b hc52
        obtain ⟨hcg, hci⟩ := gfO_s hcO
        obtain ⟨kc, fc⟩ := oc
        dsimp only at hci hcg hc52
        rcases gLC_7 hci with rfl | rfl | rfl | rfl | rfl | rfl | rfl
        · exact va_runU (As := [.int v6]) (rest := []) ⟨hx, hb, hml, hown, hts⟩ (c_X5_sceneAt (l := l) (D := D) (b := b) (cI := cI) (cL := cL) hc52) (va_cwU 1 hts gX11_two_X5_sceneAt_u153X0 rfl rfl rfl rfl (by decide +kernel) ⟨Nat.le_of_ble_eq_true rfl, Nat.le_of_ble_eq_true rfl⟩) (gp_preV hKn hG (cp_obj hcg) rfl) rfl rfl hl.1 rfl (lv_room (Nat.le_of_ble_eq_true rfl)) dX11_two_52 ⟨Nat.le_of_ble_eq_true rfl, Nat.le_of_ble_eq_true rfl⟩
        · exact va_runU (As := [.int v6]) (rest := []) ⟨hx, hb, hml, hown, hts⟩ (c_X5_sceneAt (l := l) (D := D) (b := b) (cI := cI) (cL := cL) hc52) (va_cwU 1 hts gX11_two_X5_sceneAt_u153X1 rfl rfl rfl rfl (by decide +kernel) ⟨Nat.le_of_ble_eq_true rfl, Nat.le_of_ble_eq_true rfl⟩) (gp_preV hKn hG (cp_obj hcg) rfl) rfl rfl hl.1 rfl (lv_room (Nat.le_of_ble_eq_true rfl)) dX11_two_52 ⟨Nat.le_of_ble_eq_true rfl, Nat.le_of_ble_eq_true rfl⟩
        · exact va_runU (As := [.int v6]) (rest := []) ⟨hx, hb, hml, hown, hts⟩ (c_X5_sceneAt (l := l) (D := D) (b := b) (cI := cI) (cL := cL) hc52) (va_cwU 1 hts gX11_two_X5_sceneAt_u153X3 rfl rfl rfl rfl (by decide +kernel) ⟨Nat.le_of_ble_eq_true rfl, Nat.le_of_ble_eq_true rfl⟩) (gp_preV hKn hG (cp_obj hcg) rfl) rfl rfl hl.1 rfl (lv_room (Nat.le_of_ble_eq_true rfl)) dX11_two_52 ⟨Nat.le_of_ble_eq_true rfl, Nat.le_of_ble_eq_true rfl⟩
        · exact va_runU (As := [.int v6]) (rest := []) ⟨hx, hb, hml, hown, hts⟩ (c_X5_sceneAt (l := l) (D := D) (b := b) (cI := cI) (cL := cL) hc52) (va_cwU 1 hts gX11_two_X5_sceneAt_u153X4 rfl rfl rfl rfl (by decide +kernel) ⟨Nat.le_of_ble_eq_true rfl, Nat.le_of_ble_eq_true rfl⟩) (gp_preV hKn hG (cp_obj hcg) rfl) rfl rfl hl.1 rfl (lv_room (Nat.le_of_ble_eq_true rfl)) dX11_two_52 ⟨Nat.le_of_ble_eq_true rfl, Nat.le_of_ble_eq_true rfl⟩
        · exact va_runV (As := [.int v6]) (rest := []) ⟨hx, hb, hml, hown, hts⟩ (c_X5_sceneAt (l := l) (D := D) (b := b) (cI := cI) (cL := cL) hc52) (cwV 1 hts gX11_two_X5_sceneAt rfl rfl rfl (by decide +kernel) ⟨Nat.le_of_ble_eq_true rfl, Nat.le_of_ble_eq_true rfl⟩) (gp_preV hKn hG (cp_obj hcg) rfl) rfl rfl hl.1 rfl (lv_room (Nat.le_of_ble_eq_true rfl)) dX11_two_52 ⟨Nat.le_of_ble_eq_true rfl, Nat.le_of_ble_eq_true rfl⟩
        · exact va_runU (As := [.int v6]) (rest := []) ⟨hx, hb, hml, hown, hts⟩ (c_X5_sceneAt (l := l) (D := D) (b := b) (cI := cI) (cL := cL) hc52) (va_cwU 1 hts gX11_two_X5_sceneAt_u153X7 rfl rfl rfl rfl (by decide +kernel) ⟨Nat.le_of_ble_eq_true rfl, Nat.le_of_ble_eq_true rfl⟩) (gp_preV hKn hG (cp_obj hcg) rfl) rfl rfl hl.1 rfl (lv_room (Nat.le_of_ble_eq_true rfl)) dX11_two_52 ⟨Nat.le_of_ble_eq_true rfl, Nat.le_of_ble_eq_true rfl⟩
        · exact va_runU (As := [.int v6]) (rest := []) ⟨hx, hb, hml, hown, hts⟩ (c_X5_sceneAt (l := l) (D := D) (b := b) (cI := cI) (cL := cL) hc52) (va_cwU 1 hts gX11_two_X5_sceneAt_u153X8 rfl rfl rfl rfl (by decide +kernel) ⟨Nat.le_of_ble_eq_true rfl, Nat.le_of_ble_eq_true rfl⟩) (gp_preV hKn hG (cp_obj hcg) rfl) rfl rfl hl.1 rfl (lv_room (Nat.le_of_ble_eq_true rfl)) dX11_two_52 ⟨Nat.le_of_ble_eq_true rfl, Nat.le_of_ble_eq_true rfl⟩
      refine gp_callI hrun52 hS (fun H locs hG hS => ?_)
      refine lv_istore (lv' := [(7, .int o52), (3, .ref v3), (4, .ref v4), (5, .int v5), (6, .int v6)]) hx hb dX11_two_55 hl (by decide) rfl (fun ls hl => ?_)
      refine lv_aload hx hb dX11_two_57 (lv_at hl 2 rfl) ?_
      refine lv_iload hx hb dX11_two_59 (lv_at hl 0 rfl) ?_
      obtain ⟨o61, hc61, hf⟩ := gb_b hf
      refine gp_callI (va_runS (As := [.int o52]) (rest := [.ref v4]) ⟨hx, hb, hml, hown, hts⟩ (c_X9_minuteIn (l := l) (D := D) (b := b) (cI := cI) (cL := cL) hc61) (va_cwS 1 hts gX11_two_X9_minuteIn rfl rfl rfl (by decide +kernel) ⟨Nat.le_of_ble_eq_true rfl, Nat.le_of_ble_eq_true rfl⟩) (gp_preS hKn hG) rfl rfl hl.1 rfl (lv_room (Nat.le_of_ble_eq_true rfl)) dX11_two_61 ⟨Nat.le_of_ble_eq_true rfl, Nat.le_of_ble_eq_true rfl⟩) hS (fun H locs hG hS => ?_)
      obtain ⟨o64, hc64, hf⟩ := gb_b hf
      have hrun64 : va_Run p l e rm_X11_two s m args below meth c H locs 0 0 0 0 (F0 m 64 ls ([.int o61].reverse ++ .ref v4 :: [])) [] (gQ D b (some (.int o64)) M (gW cI cL gv) (Value.ref v4 :: [.int o61]).toArray) (gA b) := by
        obtain ⟨oc, hcO, hc64⟩ := gb_b hc64
        obtain ⟨hcg, hci⟩ := gfO_s hcO
        obtain ⟨kc, fc⟩ := oc
        dsimp only at hci hcg hc64
        rcases gLC_7 hci with rfl | rfl | rfl | rfl | rfl | rfl | rfl
        · exact va_runU (As := [.int o61]) (rest := []) ⟨hx, hb, hml, hown, hts⟩ (c_X5_placeOfMinute (l := l) (D := D) (b := b) (cI := cI) (cL := cL) hc64) (va_cwU 1 hts gX11_two_X5_placeOfMinute_u147X0 rfl rfl rfl rfl (by decide +kernel) ⟨Nat.le_of_ble_eq_true rfl, Nat.le_of_ble_eq_true rfl⟩) (gp_preV hKn hG (cp_obj hcg) rfl) rfl rfl hl.1 rfl (lv_room (Nat.le_of_ble_eq_true rfl)) dX11_two_64 ⟨Nat.le_of_ble_eq_true rfl, Nat.le_of_ble_eq_true rfl⟩
        · exact va_runU (As := [.int o61]) (rest := []) ⟨hx, hb, hml, hown, hts⟩ (c_X5_placeOfMinute (l := l) (D := D) (b := b) (cI := cI) (cL := cL) hc64) (va_cwU 1 hts gX11_two_X5_placeOfMinute_u147X1 rfl rfl rfl rfl (by decide +kernel) ⟨Nat.le_of_ble_eq_true rfl, Nat.le_of_ble_eq_true rfl⟩) (gp_preV hKn hG (cp_obj hcg) rfl) rfl rfl hl.1 rfl (lv_room (Nat.le_of_ble_eq_true rfl)) dX11_two_64 ⟨Nat.le_of_ble_eq_true rfl, Nat.le_of_ble_eq_true rfl⟩
        · exact va_runU (As := [.int o61]) (rest := []) ⟨hx, hb, hml, hown, hts⟩ (c_X5_placeOfMinute (l := l) (D := D) (b := b) (cI := cI) (cL := cL) hc64) (va_cwU 1 hts gX11_two_X5_placeOfMinute_u147X3 rfl rfl rfl rfl (by decide +kernel) ⟨Nat.le_of_ble_eq_true rfl, Nat.le_of_ble_eq_true rfl⟩) (gp_preV hKn hG (cp_obj hcg) rfl) rfl rfl hl.1 rfl (lv_room (Nat.le_of_ble_eq_true rfl)) dX11_two_64 ⟨Nat.le_of_ble_eq_true rfl, Nat.le_of_ble_eq_true rfl⟩
        · exact va_runU (As := [.int o61]) (rest := []) ⟨hx, hb, hml, hown, hts⟩ (c_X5_placeOfMinute (l := l) (D := D) (b := b) (cI := cI) (cL := cL) hc64) (va_cwU 1 hts gX11_two_X5_placeOfMinute_u147X4 rfl rfl rfl rfl (by decide +kernel) ⟨Nat.le_of_ble_eq_true rfl, Nat.le_of_ble_eq_true rfl⟩) (gp_preV hKn hG (cp_obj hcg) rfl) rfl rfl hl.1 rfl (lv_room (Nat.le_of_ble_eq_true rfl)) dX11_two_64 ⟨Nat.le_of_ble_eq_true rfl, Nat.le_of_ble_eq_true rfl⟩
        · exact va_runV (As := [.int o61]) (rest := []) ⟨hx, hb, hml, hown, hts⟩ (c_X5_placeOfMinute (l := l) (D := D) (b := b) (cI := cI) (cL := cL) hc64) (cwV 1 hts gX11_two_X5_placeOfMinute rfl rfl rfl (by decide +kernel) ⟨Nat.le_of_ble_eq_true rfl, Nat.le_of_ble_eq_true rfl⟩) (gp_preV hKn hG (cp_obj hcg) rfl) rfl rfl hl.1 rfl (lv_room (Nat.le_of_ble_eq_true rfl)) dX11_two_64 ⟨Nat.le_of_ble_eq_true rfl, Nat.le_of_ble_eq_true rfl⟩
        · exact va_runU (As := [.int o61]) (rest := []) ⟨hx, hb, hml, hown, hts⟩ (c_X5_placeOfMinute (l := l) (D := D) (b := b) (cI := cI) (cL := cL) hc64) (va_cwU 1 hts gX11_two_X5_placeOfMinute_u147X7 rfl rfl rfl rfl (by decide +kernel) ⟨Nat.le_of_ble_eq_true rfl, Nat.le_of_ble_eq_true rfl⟩) (gp_preV hKn hG (cp_obj hcg) rfl) rfl rfl hl.1 rfl (lv_room (Nat.le_of_ble_eq_true rfl)) dX11_two_64 ⟨Nat.le_of_ble_eq_true rfl, Nat.le_of_ble_eq_true rfl⟩
        · exact va_runU (As := [.int o61]) (rest := []) ⟨hx, hb, hml, hown, hts⟩ (c_X5_placeOfMinute (l := l) (D := D) (b := b) (cI := cI) (cL := cL) hc64) (va_cwU 1 hts gX11_two_X5_placeOfMinute_u147X8 rfl rfl rfl rfl (by decide +kernel) ⟨Nat.le_of_ble_eq_true rfl, Nat.le_of_ble_eq_true rfl⟩) (gp_preV hKn hG (cp_obj hcg) rfl) rfl rfl hl.1 rfl (lv_room (Nat.le_of_ble_eq_true rfl)) dX11_two_64 ⟨Nat.le_of_ble_eq_true rfl, Nat.le_of_ble_eq_true rfl⟩
      refine gp_callI hrun64 hS (fun H locs hG hS => ?_)
      refine lv_istore (lv' := [(8, .int o64), (7, .int o52), (3, .ref v3), (4, .ref v4), (5, .int v5), (6, .int v6)]) hx hb dX11_two_67 hl (by decide) rfl (fun ls hl => ?_)
      refine lv_iload hx hb dX11_two_69 (lv_at hl 0 rfl) ?_
      obtain ⟨j71, hj71, hf⟩ := gb_b hf
      have hJ71 : ∀ (H : Heap) (locs : List Loc) (ls : Array Slot), GP D b M (gW cI cL gv) H → va_S (gA b) s.heap H locs → lv_has ls 9 [(3, .ref v3), (4, .ref v4), (5, .int j71), (6, .int v6)] → W p l e rm_X11_two s m args below meth c H locs 0 0 Q (F0 m 95 ls []) := by
        intro H locs ls hG hS hl
        refine lv_iinc (v := v6 + 1) (lv' := [(6, .int (v6 + 1)), (3, .ref v3), (4, .ref v4), (5, .int j71)]) hx hb dX11_two_95 hl (k := 3) rfl rfl (by decide) rfl (fun ls hl => ?_)
        refine lv_goto (tgt := 40) hx hb dX11_two_98 (by decide) ?_
        exact ih _ _ hf hk101 _ _ _ hG hS (lv_sub hl [1, 2, 3, 0] rfl)
      refine lv_if_lt (tgt := 95) hx hb dX11_two_71 (by decide) (fun c71 => ?_) (fun c71 => ?_)
      · have hj71 := gb_t c71 hj71
        have hj71 := Option.some.inj hj71
        subst hj71
        exact (hJ71 H locs ls hG hS (lv_sub hl [2, 3, 4, 5] rfl))
      · have hj71 := gb_f c71 hj71
        refine lv_aload hx hb dX11_two_74 (lv_at hl 3 rfl) ?_
        refine lv_iload hx hb dX11_two_76 (lv_at hl 0 rfl) ?_
        obtain ⟨o78, hc78, hj71⟩ := gb_b hj71
        have hrun78 : va_Run p l e rm_X11_two s m args below meth c H locs 0 0 0 0 (F0 m 78 ls ([.int o64].reverse ++ .ref v4 :: [])) [] (gQ D b (some (.int o78)) M (gW cI cL gv) (Value.ref v4 :: [.int o64]).toArray) (gA b) := by
          obtain ⟨oc, hcO, hc78⟩ := gb_b hc78
          obtain ⟨hcg, hci⟩ := gfO_s hcO
          obtain ⟨kc, fc⟩ := oc
          dsimp only at hci hcg hc78
          rcases gLC_7 hci with rfl | rfl | rfl | rfl | rfl | rfl | rfl
          · exact va_runU (As := [.int o64]) (rest := []) ⟨hx, hb, hml, hown, hts⟩ (c_X5_sceneAt (l := l) (D := D) (b := b) (cI := cI) (cL := cL) hc78) (va_cwU 1 hts gX11_two_X5_sceneAt_u153X0 rfl rfl rfl rfl (by decide +kernel) ⟨Nat.le_of_ble_eq_true rfl, Nat.le_of_ble_eq_true rfl⟩) (gp_preV hKn hG (cp_obj hcg) rfl) rfl rfl hl.1 rfl (lv_room (Nat.le_of_ble_eq_true rfl)) dX11_two_78 ⟨Nat.le_of_ble_eq_true rfl, Nat.le_of_ble_eq_true rfl⟩
          · exact va_runU (As := [.int o64]) (rest := []) ⟨hx, hb, hml, hown, hts⟩ (c_X5_sceneAt (l := l) (D := D) (b := b) (cI := cI) (cL := cL) hc78) (va_cwU 1 hts gX11_two_X5_sceneAt_u153X1 rfl rfl rfl rfl (by decide +kernel) ⟨Nat.le_of_ble_eq_true rfl, Nat.le_of_ble_eq_true rfl⟩) (gp_preV hKn hG (cp_obj hcg) rfl) rfl rfl hl.1 rfl (lv_room (Nat.le_of_ble_eq_true rfl)) dX11_two_78 ⟨Nat.le_of_ble_eq_true rfl, Nat.le_of_ble_eq_true rfl⟩
          · exact va_runU (As := [.int o64]) (rest := []) ⟨hx, hb, hml, hown, hts⟩ (c_X5_sceneAt (l := l) (D := D) (b := b) (cI := cI) (cL := cL) hc78) (va_cwU 1 hts gX11_two_X5_sceneAt_u153X3 rfl rfl rfl rfl (by decide +kernel) ⟨Nat.le_of_ble_eq_true rfl, Nat.le_of_ble_eq_true rfl⟩) (gp_preV hKn hG (cp_obj hcg) rfl) rfl rfl hl.1 rfl (lv_room (Nat.le_of_ble_eq_true rfl)) dX11_two_78 ⟨Nat.le_of_ble_eq_true rfl, Nat.le_of_ble_eq_true rfl⟩
          · exact va_runU (As := [.int o64]) (rest := []) ⟨hx, hb, hml, hown, hts⟩ (c_X5_sceneAt (l := l) (D := D) (b := b) (cI := cI) (cL := cL) hc78) (va_cwU 1 hts gX11_two_X5_sceneAt_u153X4 rfl rfl rfl rfl (by decide +kernel) ⟨Nat.le_of_ble_eq_true rfl, Nat.le_of_ble_eq_true rfl⟩) (gp_preV hKn hG (cp_obj hcg) rfl) rfl rfl hl.1 rfl (lv_room (Nat.le_of_ble_eq_true rfl)) dX11_two_78 ⟨Nat.le_of_ble_eq_true rfl, Nat.le_of_ble_eq_true rfl⟩
          · exact va_runV (As := [.int o64]) (rest := []) ⟨hx, hb, hml, hown, hts⟩ (c_X5_sceneAt (l := l) (D := D) (b := b) (cI := cI) (cL := cL) hc78) (cwV 1 hts gX11_two_X5_sceneAt rfl rfl rfl (by decide +kernel) ⟨Nat.le_of_ble_eq_true rfl, Nat.le_of_ble_eq_true rfl⟩) (gp_preV hKn hG (cp_obj hcg) rfl) rfl rfl hl.1 rfl (lv_room (Nat.le_of_ble_eq_true rfl)) dX11_two_78 ⟨Nat.le_of_ble_eq_true rfl, Nat.le_of_ble_eq_true rfl⟩
          · exact va_runU (As := [.int o64]) (rest := []) ⟨hx, hb, hml, hown, hts⟩ (c_X5_sceneAt (l := l) (D := D) (b := b) (cI := cI) (cL := cL) hc78) (va_cwU 1 hts gX11_two_X5_sceneAt_u153X7 rfl rfl rfl rfl (by decide +kernel) ⟨Nat.le_of_ble_eq_true rfl, Nat.le_of_ble_eq_true rfl⟩) (gp_preV hKn hG (cp_obj hcg) rfl) rfl rfl hl.1 rfl (lv_room (Nat.le_of_ble_eq_true rfl)) dX11_two_78 ⟨Nat.le_of_ble_eq_true rfl, Nat.le_of_ble_eq_true rfl⟩
          · exact va_runU (As := [.int o64]) (rest := []) ⟨hx, hb, hml, hown, hts⟩ (c_X5_sceneAt (l := l) (D := D) (b := b) (cI := cI) (cL := cL) hc78) (va_cwU 1 hts gX11_two_X5_sceneAt_u153X8 rfl rfl rfl rfl (by decide +kernel) ⟨Nat.le_of_ble_eq_true rfl, Nat.le_of_ble_eq_true rfl⟩) (gp_preV hKn hG (cp_obj hcg) rfl) rfl rfl hl.1 rfl (lv_room (Nat.le_of_ble_eq_true rfl)) dX11_two_78 ⟨Nat.le_of_ble_eq_true rfl, Nat.le_of_ble_eq_true rfl⟩
        refine gp_callI hrun78 hS (fun H locs hG hS => ?_)
        obtain ⟨o81, hc81, hj71⟩ := gb_b hj71
        refine gp_callI (va_runS (As := [.int o78]) (rest := []) ⟨hx, hb, hml, hown, hts⟩ (c_X9_cellIn (l := l) (D := D) (b := b) (cI := cI) (cL := cL) hc81) (va_cwS 1 hts gX11_two_X9_cellIn rfl rfl rfl (by decide +kernel) ⟨Nat.le_of_ble_eq_true rfl, Nat.le_of_ble_eq_true rfl⟩) (gp_preS hKn hG) rfl rfl hl.1 rfl (lv_room (Nat.le_of_ble_eq_true rfl)) dX11_two_81 ⟨Nat.le_of_ble_eq_true rfl, Nat.le_of_ble_eq_true rfl⟩) hS (fun H locs hG hS => ?_)
        refine lv_iload hx hb dX11_two_84 (lv_at hl 1 rfl) ?_
        obtain ⟨o86, hc86, hj71⟩ := gb_b hj71
        refine gp_callI (va_runS (As := [.int o52]) (rest := [.int o81]) ⟨hx, hb, hml, hown, hts⟩ (c_X9_cellIn (l := l) (D := D) (b := b) (cI := cI) (cL := cL) hc86) (va_cwS 1 hts gX11_two_X9_cellIn rfl rfl rfl (by decide +kernel) ⟨Nat.le_of_ble_eq_true rfl, Nat.le_of_ble_eq_true rfl⟩) (gp_preS hKn hG) rfl rfl hl.1 rfl (lv_room (Nat.le_of_ble_eq_true rfl)) dX11_two_86 ⟨Nat.le_of_ble_eq_true rfl, Nat.le_of_ble_eq_true rfl⟩) hS (fun H locs hG hS => ?_)
        refine lv_icmp_ne (tgt := 95) hx hb dX11_two_89 (by decide) (fun c89 => ?_) (fun c89 => ?_)
        · have hj71 := gb_f c89 hj71
          have hj71 := Option.some.inj hj71
          subst hj71
          exact (hJ71 H locs ls hG hS (lv_sub hl [2, 3, 4, 5] rfl))
        · have hj71 := gb_t c89 hj71
          refine lv_iinc (v := v5 + 1) (lv' := [(5, .int (v5 + 1)), (8, .int o64), (7, .int o52), (3, .ref v3), (4, .ref v4), (6, .int v6)]) hx hb dX11_two_92 hl (k := 4) rfl rfl (by decide) rfl (fun ls hl => ?_)
          have hj71 := Option.some.inj hj71
          subst hj71
          exact (hJ71 H locs ls hG hS (lv_sub hl [3, 4, 0, 5] rfl))
set_option maxHeartbeats 4000000 in
set_option maxRecDepth 100000 in
theorem c_X11_two {v1 : Int32} {v2 : Int32} {R : Int32 × (Nat → GV)} (hf : f_X11_two gv h0 v1 v2 = some R) : Met l yX11_two wsX11_two rm_X11_two (va_Pc [.ref h0, .int v1, .int v2] (gPre D b M (gW cI cL gv) (gTy cI cL))) (gQ D b (some (.int R.1)) M (gW cI cL R.2)) 0 0 (gA b) := by
  refine gp_met (cc := cX11_two) (maxL := 9) (ret := (some .int)) (by decide) rfl (Nat.le_of_ble_eq_true rfl) ?_
  intro p e s m below meth c X ls hG hl
  obtain ⟨H, hH0⟩ : ∃ H : Heap, H = s.heap := ⟨_, rfl⟩
  rw [← hH0] at hG ⊢
  have hS : va_S (gA b) s.heap H [] := by rw [hH0]; exact va_S.rf
  obtain ⟨locs, hlo⟩ : ∃ z : List Loc, z = [] := ⟨_, rfl⟩
  rw [← hlo] at hS ⊢
  unfold f_X11_two at hf
  obtain ⟨hx, hb, hr, hml, hown, hts, hlocks, hKn, hBs⟩ := id X
  have hK := hKn.1
  have gclL : gcl gLC TX5 5 wsX11_two := gcl_L (fun _ h => List.mem_cons_of_mem _ (List.mem_append_left _ (List.mem_append_left _ (List.mem_append_left _ (List.mem_append_left _ (List.mem_append_left _ (List.mem_append_left _ (List.mem_append_left _ (List.mem_append_right _ h))))))))) (fun _ h => List.mem_cons_of_mem _ (List.mem_append_left _ (List.mem_append_left _ (List.mem_append_left _ (List.mem_append_left _ (List.mem_append_left _ (List.mem_append_left _ (List.mem_append_right _ h)))))))) (fun _ h => List.mem_cons_of_mem _ (List.mem_append_left _ (List.mem_append_left _ (List.mem_append_left _ (List.mem_append_left _ (List.mem_append_left _ (List.mem_append_right _ h))))))) (fun _ h => List.mem_cons_of_mem _ (List.mem_append_left _ (List.mem_append_left _ (List.mem_append_left _ (List.mem_append_left _ (List.mem_append_right _ h)))))) (fun _ h => List.mem_cons_of_mem _ (List.mem_append_left _ (List.mem_append_left _ (List.mem_append_left _ (List.mem_append_right _ h))))) (fun _ h => List.mem_cons_of_mem _ (List.mem_append_left _ (List.mem_append_left _ (List.mem_append_right _ h)))) (fun _ h => List.mem_cons_of_mem _ (List.mem_append_left _ (List.mem_append_right _ h)))
  have gclX11 : gcl [9] TX11 8 wsX11_two := gcl_1 rfl (fun _ h => List.mem_cons_of_mem _ (List.mem_append_left _ (List.mem_append_left _ (List.mem_append_left _ (List.mem_append_left _ (List.mem_append_left _ (List.mem_append_left _ (List.mem_append_left _ (List.mem_append_left _ (List.mem_append_right _ h))))))))))
  have hl : lv_has ls 9 [(0, .ref h0), (1, .int v1), (2, .int v2)] := hl
  refine lv_aload_n hx hb dX11_two_0 rfl (lv_at hl 0 rfl) ?_
  obtain ⟨t1, ht1, hf⟩ := gb_b hf
  refine cp_get (v := va_rf t1) hx hb hts gclX11 hown hK hG 4 (gfR_s ht1) (by decide) (hts _ (List.mem_of_getElem? (i := 1) rfl)) (fun _ h9 => h9) dX11_two_1 ?_
  refine lv_iload_n hx hb dX11_two_4 rfl (lv_at hl 1 rfl) ?_
  obtain ⟨q5, hq5, hf⟩ := gb_b hf
  refine W.eq (g2 := F0 m 5 ls [.int v1, .ref q5]) (congrArg (fun z => F0 m 5 ls [.int v1, va_rf z]) hq5) ?_
  obtain ⟨o5, hc5, hf⟩ := gb_b hf
  obtain ⟨oc5, hcO5, hc5⟩ := gb_b hc5
  obtain ⟨hcg5, hci5⟩ := gfO_s hcO5
  have hci5 := List.mem_singleton.mp hci5
  obtain ⟨kc5, fc5⟩ := oc5
  dsimp only at hci5 hcg5
  subst hci5
  refine gp_callR (va_runV (As := [.int v1]) (rest := []) ⟨hx, hb, hml, hown, hts⟩ (c_X10_lampAt (l := l) (D := D) (b := b) (cI := cI) (cL := cL) hc5) (cwV 1 hts gX11_two_X10_lampAt rfl rfl rfl (by decide +kernel) ⟨Nat.le_of_ble_eq_true rfl, Nat.le_of_ble_eq_true rfl⟩) (gp_preV hKn hG (cp_obj hcg5) rfl) rfl rfl hl.1 rfl (lv_room (Nat.le_of_ble_eq_true rfl)) dX11_two_5 ⟨Nat.le_of_ble_eq_true rfl, Nat.le_of_ble_eq_true rfl⟩) hS (fun H locs hG hS => ?_)
  refine gp_astore_n (lv' := [(3, va_rf o5), (0, .ref h0), (1, .int v1), (2, .int v2)]) hx hb dX11_two_8 rfl hl (by decide) rfl (fun ls hl => ?_)
  refine lv_aload_n hx hb dX11_two_9 rfl (lv_at hl 1 rfl) ?_
  obtain ⟨t10, ht10, hf⟩ := gb_b hf
  refine cp_get (v := va_rf t10) hx hb hts gclX11 hown hK hG 4 (gfR_s ht10) (by decide) (hts _ (List.mem_of_getElem? (i := 1) rfl)) (fun _ h9 => h9) dX11_two_10 ?_
  refine lv_iload_n hx hb dX11_two_13 rfl (lv_at hl 3 rfl) ?_
  obtain ⟨q14, hq14, hf⟩ := gb_b hf
  refine W.eq (g2 := F0 m 14 ls [.int v2, .ref q14]) (congrArg (fun z => F0 m 14 ls [.int v2, va_rf z]) hq14) ?_
  obtain ⟨o14, hc14, hf⟩ := gb_b hf
  obtain ⟨oc14, hcO14, hc14⟩ := gb_b hc14
  obtain ⟨hcg14, hci14⟩ := gfO_s hcO14
  have hci14 := List.mem_singleton.mp hci14
  obtain ⟨kc14, fc14⟩ := oc14
  dsimp only at hci14 hcg14
  subst hci14
  refine gp_callR (va_runV (As := [.int v2]) (rest := []) ⟨hx, hb, hml, hown, hts⟩ (c_X10_lampAt (l := l) (D := D) (b := b) (cI := cI) (cL := cL) hc14) (cwV 1 hts gX11_two_X10_lampAt rfl rfl rfl (by decide +kernel) ⟨Nat.le_of_ble_eq_true rfl, Nat.le_of_ble_eq_true rfl⟩) (gp_preV hKn hG (cp_obj hcg14) rfl) rfl rfl hl.1 rfl (lv_room (Nat.le_of_ble_eq_true rfl)) dX11_two_14 ⟨Nat.le_of_ble_eq_true rfl, Nat.le_of_ble_eq_true rfl⟩) hS (fun H locs hG hS => ?_)
  refine gp_astore (lv' := [(4, va_rf o14), (3, va_rf o5), (0, .ref h0), (1, .int v1), (2, .int v2)]) hx hb dX11_two_17 hl (by decide) (by generalize o5 = zz; cases zz <;> rfl) (fun ls hl => ?_)
  refine gp_aload_n (x := o5) hx hb dX11_two_19 rfl (lv_at hl 1 rfl) ?_
  refine gp_ifnull (x := o5) (tgt := 28) hx hb dX11_two_20 (by decide) ?_ ?_
  · intro e20
    rw [e20] at hl
    rw [e20] at hf
    dsimp only at hf
    refine lv_aload_n hx hb dX11_two_28 rfl (lv_at hl 2 rfl) ?_
    refine lv_iconst (v := (-1 : Int32)) hx hb dX11_two_29 (by decide) ?_
    obtain ⟨o30, hc30, hf⟩ := gb_b hf
    obtain ⟨oc30, hcO30, hc30⟩ := gb_b hc30
    obtain ⟨hcg30, hci30⟩ := gfO_s hcO30
    have hci30 := List.mem_singleton.mp hci30
    obtain ⟨kc30, fc30⟩ := oc30
    dsimp only at hci30 hcg30
    subst hci30
    refine gp_callI (va_runV (As := [.int (-1 : Int32)]) (rest := []) ⟨hx, hb, hml, hown, hts⟩ (c_X11_refuse (l := l) (D := D) (b := b) (cI := cI) (cL := cL) hc30) (cwV 1 hts gX11_two_X11_refuse rfl rfl rfl (by decide +kernel) ⟨Nat.le_of_ble_eq_true rfl, Nat.le_of_ble_eq_true rfl⟩) (gp_preV hKn hG (cp_obj hcg30) rfl) rfl rfl hl.1 rfl (lv_room (Nat.le_of_ble_eq_true rfl)) dX11_two_30 ⟨Nat.le_of_ble_eq_true rfl, Nat.le_of_ble_eq_true rfl⟩) hS (fun H locs hG hS => ?_)
    have hf := Option.some.inj hf
    subst hf
    exact gp_retI hx hb hr hlocks hG hS (Nat.le_of_ble_eq_true rfl) (Nat.le_of_ble_eq_true rfl) dX11_two_33
  · intro n20 e20
    rw [e20] at hl
    rw [e20] at hf
    dsimp only at hf
    refine gp_aload (x := o14) hx hb dX11_two_23 (lv_at hl 0 rfl) ?_
    refine gp_ifnonnull (x := o14) (tgt := 34) hx hb dX11_two_25 (by decide) ?_ ?_
    · intro n25 e25
      rw [e25] at hl
      rw [e25] at hf
      dsimp only at hf
      refine lv_iconst (v := 0) hx hb dX11_two_34 (by decide) ?_
      refine lv_istore (lv' := [(5, .int 0), (4, .ref n25), (3, .ref n20), (0, .ref h0), (1, .int v1), (2, .int v2)]) hx hb dX11_two_35 hl (by decide) rfl (fun ls hl => ?_)
      refine lv_iconst (v := 0) hx hb dX11_two_37 (by decide) ?_
      refine lv_istore (lv' := [(6, .int 0), (5, .int 0), (4, .ref n25), (3, .ref n20), (0, .ref h0), (1, .int v1), (2, .int v2)]) hx hb dX11_two_38 hl (by decide) rfl (fun ls hl => ?_)
      refine w_X11_two_40 X _ _ _ hf (fun x40_101 hf H locs ls hG hS hl => ?_) _ _ _ hG hS (lv_sub hl [3, 2, 1, 0] rfl)
      · refine lv_iload hx hb dX11_two_101 (lv_at hl 0 rfl) ?_
        have hf := Option.some.inj hf
        subst hf
        exact gp_retI hx hb hr hlocks hG hS (Nat.le_of_ble_eq_true rfl) (Nat.le_of_ble_eq_true rfl) dX11_two_103
    · intro e25
      rw [e25] at hl
      rw [e25] at hf
      dsimp only at hf
      refine lv_aload_n hx hb dX11_two_28 rfl (lv_at hl 2 rfl) ?_
      refine lv_iconst (v := (-1 : Int32)) hx hb dX11_two_29 (by decide) ?_
      obtain ⟨o30, hc30, hf⟩ := gb_b hf
      obtain ⟨oc30, hcO30, hc30⟩ := gb_b hc30
      obtain ⟨hcg30, hci30⟩ := gfO_s hcO30
      have hci30 := List.mem_singleton.mp hci30
      obtain ⟨kc30, fc30⟩ := oc30
      dsimp only at hci30 hcg30
      subst hci30
      refine gp_callI (va_runV (As := [.int (-1 : Int32)]) (rest := []) ⟨hx, hb, hml, hown, hts⟩ (c_X11_refuse (l := l) (D := D) (b := b) (cI := cI) (cL := cL) hc30) (cwV 1 hts gX11_two_X11_refuse rfl rfl rfl (by decide +kernel) ⟨Nat.le_of_ble_eq_true rfl, Nat.le_of_ble_eq_true rfl⟩) (gp_preV hKn hG (cp_obj hcg30) rfl) rfl rfl hl.1 rfl (lv_room (Nat.le_of_ble_eq_true rfl)) dX11_two_30 ⟨Nat.le_of_ble_eq_true rfl, Nat.le_of_ble_eq_true rfl⟩) hS (fun H locs hG hS => ?_)
      have hf := Option.some.inj hf
      subst hf
      exact gp_retI hx hb hr hlocks hG hS (Nat.le_of_ble_eq_true rfl) (Nat.le_of_ble_eq_true rfl) dX11_two_33
-- X11_unlit
abbrev rm_X11_unlit : Room := { frames := 5, cells := 0, slots := 0, locals := 120 }
set_option maxHeartbeats 4000000 in
set_option maxRecDepth 100000 in
theorem c_X11_unlit {v1 : Int32} {v2 : Int32} {v3 : Int32} {R : Int32 × (Nat → GV)} (hf : f_X11_unlit gv h0 v1 v2 v3 = some R) : Met l yX11_unlit wsX11_unlit rm_X11_unlit (va_Pc [.ref h0, .int v1, .int v2, .int v3] (gPre D b M (gW cI cL gv) (gTy cI cL))) (gQ D b (some (.int R.1)) M (gW cI cL R.2)) 0 0 (gA b) := by
  refine gp_met (cc := cX11_unlit) (maxL := 5) (ret := (some .int)) (by decide) rfl (Nat.le_of_ble_eq_true rfl) ?_
  intro p e s m below meth c X ls hG hl
  obtain ⟨H, hH0⟩ : ∃ H : Heap, H = s.heap := ⟨_, rfl⟩
  rw [← hH0] at hG ⊢
  have hS : va_S (gA b) s.heap H [] := by rw [hH0]; exact va_S.rf
  obtain ⟨locs, hlo⟩ : ∃ z : List Loc, z = [] := ⟨_, rfl⟩
  rw [← hlo] at hS ⊢
  unfold f_X11_unlit at hf
  obtain ⟨hx, hb, hr, hml, hown, hts, hlocks, hKn, hBs⟩ := id X
  have hK := hKn.1
  have gclX11 : gcl [9] TX11 8 wsX11_unlit := gcl_1 rfl (fun _ h => List.mem_cons_of_mem _ (List.mem_append_left _ (List.mem_append_left _ (List.mem_append_left _ (List.mem_append_left _ (List.mem_append_left _ (List.mem_append_left _ (List.mem_append_left _ (List.mem_append_left _ (List.mem_append_right _ h))))))))))
  have hl : lv_has ls 5 [(0, .ref h0), (1, .int v1), (2, .int v2), (3, .int v3)] := hl
  refine lv_iload_n hx hb dX11_unlit_0 rfl (lv_at hl 1 rfl) ?_
  obtain ⟨o1, hc1, hf⟩ := gb_b hf
  refine gp_callI (va_runS (As := [.int v1]) (rest := []) ⟨hx, hb, hml, hown, hts⟩ (c_X2_isOne (l := l) (D := D) (b := b) (cI := cI) (cL := cL) hc1) (va_cwS 1 hts gX11_unlit_X2_isOne rfl rfl rfl (by decide +kernel) ⟨Nat.le_of_ble_eq_true rfl, Nat.le_of_ble_eq_true rfl⟩) (gp_preS hKn hG) rfl rfl hl.1 rfl (lv_room (Nat.le_of_ble_eq_true rfl)) dX11_unlit_1 ⟨Nat.le_of_ble_eq_true rfl, Nat.le_of_ble_eq_true rfl⟩) hS (fun H locs hG hS => ?_)
  refine lv_if_eq (tgt := 14) hx hb dX11_unlit_4 (by decide) (fun c4 => ?_) (fun c4 => ?_)
  · have hf := gb_t c4 hf
    refine lv_aload_n hx hb dX11_unlit_14 rfl (lv_at hl 0 rfl) ?_
    refine lv_iconst (v := (-1 : Int32)) hx hb dX11_unlit_15 (by decide) ?_
    obtain ⟨o16, hc16, hf⟩ := gb_b hf
    obtain ⟨oc16, hcO16, hc16⟩ := gb_b hc16
    obtain ⟨hcg16, hci16⟩ := gfO_s hcO16
    have hci16 := List.mem_singleton.mp hci16
    obtain ⟨kc16, fc16⟩ := oc16
    dsimp only at hci16 hcg16
    subst hci16
    refine gp_callI (va_runV (As := [.int (-1 : Int32)]) (rest := []) ⟨hx, hb, hml, hown, hts⟩ (c_X11_refuse (l := l) (D := D) (b := b) (cI := cI) (cL := cL) hc16) (cwV 1 hts gX11_unlit_X11_refuse rfl rfl rfl (by decide +kernel) ⟨Nat.le_of_ble_eq_true rfl, Nat.le_of_ble_eq_true rfl⟩) (gp_preV hKn hG (cp_obj hcg16) rfl) rfl rfl hl.1 rfl (lv_room (Nat.le_of_ble_eq_true rfl)) dX11_unlit_16 ⟨Nat.le_of_ble_eq_true rfl, Nat.le_of_ble_eq_true rfl⟩) hS (fun H locs hG hS => ?_)
    have hf := Option.some.inj hf
    subst hf
    exact gp_retI hx hb hr hlocks hG hS (Nat.le_of_ble_eq_true rfl) (Nat.le_of_ble_eq_true rfl) dX11_unlit_19
  · have hf := gb_f c4 hf
    refine lv_iload_n hx hb dX11_unlit_7 rfl (lv_at hl 2 rfl) ?_
    obtain ⟨o8, hc8, hf⟩ := gb_b hf
    refine gp_callI (va_runS (As := [.int v2]) (rest := []) ⟨hx, hb, hml, hown, hts⟩ (c_X2_isOne (l := l) (D := D) (b := b) (cI := cI) (cL := cL) hc8) (va_cwS 1 hts gX11_unlit_X2_isOne rfl rfl rfl (by decide +kernel) ⟨Nat.le_of_ble_eq_true rfl, Nat.le_of_ble_eq_true rfl⟩) (gp_preS hKn hG) rfl rfl hl.1 rfl (lv_room (Nat.le_of_ble_eq_true rfl)) dX11_unlit_8 ⟨Nat.le_of_ble_eq_true rfl, Nat.le_of_ble_eq_true rfl⟩) hS (fun H locs hG hS => ?_)
    refine lv_if_ne (tgt := 20) hx hb dX11_unlit_11 (by decide) (fun c11 => ?_) (fun c11 => ?_)
    · have hf := gb_f c11 hf
      refine lv_iload_n hx hb dX11_unlit_20 rfl (lv_at hl 3 rfl) ?_
      refine lv_iconst (v := 0) hx hb dX11_unlit_21 (by decide) ?_
      refine lv_bipush (v := 63) hx hb dX11_unlit_22 (by decide) ?_
      obtain ⟨o24, hc24, hf⟩ := gb_b hf
      refine gp_callI (va_runS (As := [.int v3, .int 0, .int 63]) (rest := []) ⟨hx, hb, hml, hown, hts⟩ (c_X11_outside (l := l) (D := D) (b := b) (cI := cI) (cL := cL) hc24) (va_cwS 3 hts gX11_unlit_X11_outside rfl rfl rfl (by decide +kernel) ⟨Nat.le_of_ble_eq_true rfl, Nat.le_of_ble_eq_true rfl⟩) (gp_preS hKn hG) rfl rfl hl.1 rfl (lv_room (Nat.le_of_ble_eq_true rfl)) dX11_unlit_24 ⟨Nat.le_of_ble_eq_true rfl, Nat.le_of_ble_eq_true rfl⟩) hS (fun H locs hG hS => ?_)
      refine lv_istore (lv' := [(4, .int o24), (0, .ref h0), (1, .int v1), (2, .int v2), (3, .int v3)]) hx hb dX11_unlit_27 hl (by decide) rfl (fun ls hl => ?_)
      refine lv_iload hx hb dX11_unlit_29 (lv_at hl 0 rfl) ?_
      refine lv_if_ge (tgt := 41) hx hb dX11_unlit_31 (by decide) (fun c31 => ?_) (fun c31 => ?_)
      · have hf := gb_t c31 hf
        refine lv_iload_n hx hb dX11_unlit_41 rfl (lv_at hl 2 rfl) ?_
        refine lv_iload_n hx hb dX11_unlit_42 rfl (lv_at hl 3 rfl) ?_
        refine lv_aload_n hx hb dX11_unlit_43 rfl (lv_at hl 1 rfl) ?_
        obtain ⟨t44, ht44, hf⟩ := gb_b hf
        refine cp_get (v := va_rf t44) hx hb hts gclX11 hown hK hG 4 (gfR_s ht44) (by decide) (hts _ (List.mem_of_getElem? (i := 1) rfl)) (fun _ h9 => h9) dX11_unlit_44 ?_
        obtain ⟨q47, hq47, hf⟩ := gb_b hf
        refine W.eq (g2 := F0 m 47 ls [.ref q47, .int v2, .int v1]) (congrArg (fun z => F0 m 47 ls [va_rf z, .int v2, .int v1]) hq47) ?_
        obtain ⟨o47, hc47, hf⟩ := gb_b hf
        obtain ⟨oc47, hcO47, hc47⟩ := gb_b hc47
        obtain ⟨hcg47, hci47⟩ := gfO_s hcO47
        have hci47 := List.mem_singleton.mp hci47
        obtain ⟨kc47, fc47⟩ := oc47
        dsimp only at hci47 hcg47
        subst hci47
        refine gp_callL (va_runV (As := []) (rest := [.int v2, .int v1]) ⟨hx, hb, hml, hown, hts⟩ (c_X10_free (l := l) (D := D) (b := b) (cI := cI) (cL := cL) hc47) (cwV 0 hts gX11_unlit_X10_free rfl rfl rfl (by decide +kernel) ⟨Nat.le_of_ble_eq_true rfl, Nat.le_of_ble_eq_true rfl⟩) (gp_preV hKn hG (cp_obj hcg47) rfl) rfl rfl hl.1 rfl (lv_room (Nat.le_of_ble_eq_true rfl)) dX11_unlit_47 ⟨Nat.le_of_ble_eq_true rfl, Nat.le_of_ble_eq_true rfl⟩) hS (fun H locs hG hS => ?_)
        refine lv_aload_n hx hb dX11_unlit_50 rfl (lv_at hl 1 rfl) ?_
        obtain ⟨t51, ht51, hf⟩ := gb_b hf
        refine cp_get (v := va_rf t51) hx hb hts gclX11 hown hK hG 4 (gfR_s ht51) (by decide) (hts _ (List.mem_of_getElem? (i := 1) rfl)) (fun _ h9 => h9) dX11_unlit_51 ?_
        refine lv_iload_n hx hb dX11_unlit_54 rfl (lv_at hl 4 rfl) ?_
        obtain ⟨q55, hq55, hf⟩ := gb_b hf
        refine W.eq (g2 := F0 m 55 ls [.int v3, .ref q55, .long o47, .int v2, .int v1]) (congrArg (fun z => F0 m 55 ls [.int v3, va_rf z, .long o47, .int v2, .int v1]) hq55) ?_
        obtain ⟨o55, hc55, hf⟩ := gb_b hf
        obtain ⟨oc55, hcO55, hc55⟩ := gb_b hc55
        obtain ⟨hcg55, hci55⟩ := gfO_s hcO55
        have hci55 := List.mem_singleton.mp hci55
        obtain ⟨kc55, fc55⟩ := oc55
        dsimp only at hci55 hcg55
        subst hci55
        refine gp_callL (va_runV (As := [.int v3]) (rest := [.long o47, .int v2, .int v1]) ⟨hx, hb, hml, hown, hts⟩ (c_X10_litBut (l := l) (D := D) (b := b) (cI := cI) (cL := cL) hc55) (cwV 1 hts gX11_unlit_X10_litBut rfl rfl rfl (by decide +kernel) ⟨Nat.le_of_ble_eq_true rfl, Nat.le_of_ble_eq_true rfl⟩) (gp_preV hKn hG (cp_obj hcg55) rfl) rfl rfl hl.1 rfl (lv_room (Nat.le_of_ble_eq_true rfl)) dX11_unlit_55 ⟨Nat.le_of_ble_eq_true rfl, Nat.le_of_ble_eq_true rfl⟩) hS (fun H locs hG hS => ?_)
        refine lv_ldc2 (v := (-1 : Int64)) hx hb hown (hts _ (List.mem_of_getElem? (i := 2) rfl)) dX11_unlit_58 ?_
        refine lv_lxor hx hb dX11_unlit_61 ?_
        refine lv_land hx hb dX11_unlit_62 ?_
        obtain ⟨o63, hc63, hf⟩ := gb_b hf
        refine gp_callI (va_runS (As := [.int v1, .int v2, .long (o47 &&& (o55 ^^^ (-1 : Int64)))]) (rest := []) ⟨hx, hb, hml, hown, hts⟩ (c_X2_fewestSteps (l := l) (D := D) (b := b) (cI := cI) (cL := cL) hc63) (va_cwS 3 hts gX11_unlit_X2_fewestSteps rfl rfl rfl (by decide +kernel) ⟨Nat.le_of_ble_eq_true rfl, Nat.le_of_ble_eq_true rfl⟩) (gp_preS hKn hG) rfl rfl hl.1 rfl (lv_room (Nat.le_of_ble_eq_true rfl)) dX11_unlit_63 ⟨Nat.le_of_ble_eq_true rfl, Nat.le_of_ble_eq_true rfl⟩) hS (fun H locs hG hS => ?_)
        have hf := Option.some.inj hf
        subst hf
        exact gp_retI hx hb hr hlocks hG hS (Nat.le_of_ble_eq_true rfl) (Nat.le_of_ble_eq_true rfl) dX11_unlit_66
      · have hf := gb_f c31 hf
        refine lv_aload_n hx hb dX11_unlit_34 rfl (lv_at hl 1 rfl) ?_
        refine lv_iload hx hb dX11_unlit_35 (lv_at hl 0 rfl) ?_
        obtain ⟨o37, hc37, hf⟩ := gb_b hf
        obtain ⟨oc37, hcO37, hc37⟩ := gb_b hc37
        obtain ⟨hcg37, hci37⟩ := gfO_s hcO37
        have hci37 := List.mem_singleton.mp hci37
        obtain ⟨kc37, fc37⟩ := oc37
        dsimp only at hci37 hcg37
        subst hci37
        refine gp_callI (va_runV (As := [.int o24]) (rest := []) ⟨hx, hb, hml, hown, hts⟩ (c_X11_refuse (l := l) (D := D) (b := b) (cI := cI) (cL := cL) hc37) (cwV 1 hts gX11_unlit_X11_refuse rfl rfl rfl (by decide +kernel) ⟨Nat.le_of_ble_eq_true rfl, Nat.le_of_ble_eq_true rfl⟩) (gp_preV hKn hG (cp_obj hcg37) rfl) rfl rfl hl.1 rfl (lv_room (Nat.le_of_ble_eq_true rfl)) dX11_unlit_37 ⟨Nat.le_of_ble_eq_true rfl, Nat.le_of_ble_eq_true rfl⟩) hS (fun H locs hG hS => ?_)
        have hf := Option.some.inj hf
        subst hf
        exact gp_retI hx hb hr hlocks hG hS (Nat.le_of_ble_eq_true rfl) (Nat.le_of_ble_eq_true rfl) dX11_unlit_40
    · have hf := gb_t c11 hf
      refine lv_aload_n hx hb dX11_unlit_14 rfl (lv_at hl 0 rfl) ?_
      refine lv_iconst (v := (-1 : Int32)) hx hb dX11_unlit_15 (by decide) ?_
      obtain ⟨o16, hc16, hf⟩ := gb_b hf
      obtain ⟨oc16, hcO16, hc16⟩ := gb_b hc16
      obtain ⟨hcg16, hci16⟩ := gfO_s hcO16
      have hci16 := List.mem_singleton.mp hci16
      obtain ⟨kc16, fc16⟩ := oc16
      dsimp only at hci16 hcg16
      subst hci16
      refine gp_callI (va_runV (As := [.int (-1 : Int32)]) (rest := []) ⟨hx, hb, hml, hown, hts⟩ (c_X11_refuse (l := l) (D := D) (b := b) (cI := cI) (cL := cL) hc16) (cwV 1 hts gX11_unlit_X11_refuse rfl rfl rfl (by decide +kernel) ⟨Nat.le_of_ble_eq_true rfl, Nat.le_of_ble_eq_true rfl⟩) (gp_preV hKn hG (cp_obj hcg16) rfl) rfl rfl hl.1 rfl (lv_room (Nat.le_of_ble_eq_true rfl)) dX11_unlit_16 ⟨Nat.le_of_ble_eq_true rfl, Nat.le_of_ble_eq_true rfl⟩) hS (fun H locs hG hS => ?_)
      have hf := Option.some.inj hf
      subst hf
      exact gp_retI hx hb hr hlocks hG hS (Nat.le_of_ble_eq_true rfl) (Nat.le_of_ble_eq_true rfl) dX11_unlit_19
-- X11_wall
abbrev rm_X11_wall : Room := { frames := 3, cells := 0, slots := 0, locals := 67 }
set_option maxHeartbeats 4000000 in
set_option maxRecDepth 100000 in
theorem c_X11_wall {v1 : Int32} {R : Int32 × (Nat → GV)} (hf : f_X11_wall gv h0 v1 = some R) : Met l yX11_wall wsX11_wall rm_X11_wall (va_Pc [.ref h0, .int v1] (gPre D b M (gW cI cL gv) (gTy cI cL))) (gQ D b (some (.int R.1)) M (gW cI cL R.2)) 0 0 (gA b) := by
  refine gp_met (cc := cX11_wall) (maxL := 2) (ret := (some .int)) (by decide) rfl (Nat.le_of_ble_eq_true rfl) ?_
  intro p e s m below meth c X ls hG hl
  obtain ⟨H, hH0⟩ : ∃ H : Heap, H = s.heap := ⟨_, rfl⟩
  rw [← hH0] at hG ⊢
  have hS : va_S (gA b) s.heap H [] := by rw [hH0]; exact va_S.rf
  obtain ⟨locs, hlo⟩ : ∃ z : List Loc, z = [] := ⟨_, rfl⟩
  rw [← hlo] at hS ⊢
  unfold f_X11_wall at hf
  obtain ⟨hx, hb, hr, hml, hown, hts, hlocks, hKn, hBs⟩ := id X
  have hK := hKn.1
  have gclX11 : gcl [9] TX11 8 wsX11_wall := gcl_1 rfl (fun _ h => List.mem_cons_of_mem _ (List.mem_append_left _ (List.mem_append_right _ h)))
  have hl : lv_has ls 2 [(0, .ref h0), (1, .int v1)] := hl
  refine lv_aload_n hx hb dX11_wall_0 rfl (lv_at hl 0 rfl) ?_
  refine lv_aload_n hx hb dX11_wall_1 rfl (lv_at hl 0 rfl) ?_
  obtain ⟨t2, ht2, hf⟩ := gb_b hf
  refine cp_get (v := va_rf t2) hx hb hts gclX11 hown hK hG 4 (gfR_s ht2) (by decide) (hts _ (List.mem_of_getElem? (i := 1) rfl)) (fun _ h9 => h9) dX11_wall_2 ?_
  refine lv_iload_n hx hb dX11_wall_5 rfl (lv_at hl 1 rfl) ?_
  obtain ⟨q6, hq6, hf⟩ := gb_b hf
  refine W.eq (g2 := F0 m 6 ls [.int v1, .ref q6, .ref h0]) (congrArg (fun z => F0 m 6 ls [.int v1, va_rf z, .ref h0]) hq6) ?_
  obtain ⟨o6, hc6, hf⟩ := gb_b hf
  obtain ⟨oc6, hcO6, hc6⟩ := gb_b hc6
  obtain ⟨hcg6, hci6⟩ := gfO_s hcO6
  have hci6 := List.mem_singleton.mp hci6
  obtain ⟨kc6, fc6⟩ := oc6
  dsimp only at hci6 hcg6
  subst hci6
  refine gp_callI (va_runV (As := [.int v1]) (rest := [.ref h0]) ⟨hx, hb, hml, hown, hts⟩ (c_X10_turnWall (l := l) (D := D) (b := b) (cI := cI) (cL := cL) hc6) (cwV 1 hts gX11_wall_X10_turnWall rfl rfl rfl (by decide +kernel) ⟨Nat.le_of_ble_eq_true rfl, Nat.le_of_ble_eq_true rfl⟩) (gp_preV hKn hG (cp_obj hcg6) rfl) rfl rfl hl.1 rfl (lv_room (Nat.le_of_ble_eq_true rfl)) dX11_wall_6 ⟨Nat.le_of_ble_eq_true rfl, Nat.le_of_ble_eq_true rfl⟩) hS (fun H locs hG hS => ?_)
  obtain ⟨o9, hc9, hf⟩ := gb_b hf
  obtain ⟨oc9, hcO9, hc9⟩ := gb_b hc9
  obtain ⟨hcg9, hci9⟩ := gfO_s hcO9
  have hci9 := List.mem_singleton.mp hci9
  obtain ⟨kc9, fc9⟩ := oc9
  dsimp only at hci9 hcg9
  subst hci9
  refine gp_callI (va_runV (As := [.int o6.1]) (rest := []) ⟨hx, hb, hml, hown, hts⟩ (c_X11_counted (l := l) (D := D) (b := b) (cI := cI) (cL := cL) hc9) (cwV 1 hts gX11_wall_X11_counted rfl rfl rfl (by decide +kernel) ⟨Nat.le_of_ble_eq_true rfl, Nat.le_of_ble_eq_true rfl⟩) (gp_preV hKn hG (cp_obj hcg9) rfl) rfl rfl hl.1 rfl (lv_room (Nat.le_of_ble_eq_true rfl)) dX11_wall_9 ⟨Nat.le_of_ble_eq_true rfl, Nat.le_of_ble_eq_true rfl⟩) hS (fun H locs hG hS => ?_)
  have hf := Option.some.inj hf
  subst hf
  exact gp_retI hx hb hr hlocks hG hS (Nat.le_of_ble_eq_true rfl) (Nat.le_of_ble_eq_true rfl) dX11_wall_12
-- X11_where
abbrev rm_X11_where : Room := { frames := 1, cells := 0, slots := 0, locals := 22 }
set_option maxHeartbeats 4000000 in
set_option maxRecDepth 100000 in
theorem c_X11_where {v1 : Int32} {R : Int32 × (Nat → GV)} (hf : f_X11_where gv h0 v1 = some R) : Met l yX11_where wsX11_where rm_X11_where (va_Pc [.ref h0, .int v1] (gPre D b M (gW cI cL gv) (gTy cI cL))) (gQ D b (some (.int R.1)) M (gW cI cL R.2)) 0 0 (gA b) := by
  refine gp_met (cc := cX11_where) (maxL := 2) (ret := (some .int)) (by decide) rfl (Nat.le_of_ble_eq_true rfl) ?_
  intro p e s m below meth c X ls hG hl
  obtain ⟨H, hH0⟩ : ∃ H : Heap, H = s.heap := ⟨_, rfl⟩
  rw [← hH0] at hG ⊢
  have hS : va_S (gA b) s.heap H [] := by rw [hH0]; exact va_S.rf
  obtain ⟨locs, hlo⟩ : ∃ z : List Loc, z = [] := ⟨_, rfl⟩
  rw [← hlo] at hS ⊢
  unfold f_X11_where at hf
  obtain ⟨hx, hb, hr, hml, hown, hts, hlocks, hKn, hBs⟩ := id X
  have hK := hKn.1
  have gclX11 : gcl [9] TX11 8 wsX11_where := gcl_1 rfl (fun _ h => List.mem_cons_of_mem _ (List.mem_append_left _ (List.mem_append_right _ h)))
  have hl : lv_has ls 2 [(0, .ref h0), (1, .int v1)] := hl
  refine lv_aload_n hx hb dX11_where_0 rfl (lv_at hl 0 rfl) ?_
  obtain ⟨t1, ht1, hf⟩ := gb_b hf
  refine cp_get (v := va_rf t1) hx hb hts gclX11 hown hK hG 4 (gfR_s ht1) (by decide) (hts _ (List.mem_of_getElem? (i := 1) rfl)) (fun _ h9 => h9) dX11_where_1 ?_
  refine lv_iload_n hx hb dX11_where_4 rfl (lv_at hl 1 rfl) ?_
  obtain ⟨q5, hq5, hf⟩ := gb_b hf
  refine W.eq (g2 := F0 m 5 ls [.int v1, .ref q5]) (congrArg (fun z => F0 m 5 ls [.int v1, va_rf z]) hq5) ?_
  obtain ⟨o5, hc5, hf⟩ := gb_b hf
  obtain ⟨oc5, hcO5, hc5⟩ := gb_b hc5
  obtain ⟨hcg5, hci5⟩ := gfO_s hcO5
  have hci5 := List.mem_singleton.mp hci5
  obtain ⟨kc5, fc5⟩ := oc5
  dsimp only at hci5 hcg5
  subst hci5
  refine gp_callI (va_runV (As := [.int v1]) (rest := []) ⟨hx, hb, hml, hown, hts⟩ (c_X10_isPerson (l := l) (D := D) (b := b) (cI := cI) (cL := cL) hc5) (cwV 1 hts gX11_where_X10_isPerson rfl rfl rfl (by decide +kernel) ⟨Nat.le_of_ble_eq_true rfl, Nat.le_of_ble_eq_true rfl⟩) (gp_preV hKn hG (cp_obj hcg5) rfl) rfl rfl hl.1 rfl (lv_room (Nat.le_of_ble_eq_true rfl)) dX11_where_5 ⟨Nat.le_of_ble_eq_true rfl, Nat.le_of_ble_eq_true rfl⟩) hS (fun H locs hG hS => ?_)
  obtain ⟨j8, hj8, hf⟩ := gb_b hf
  have hJ8 : ∀ (H : Heap) (locs : List Loc) (ls : Array Slot), GP D b M (gW cI cL j8.2) H → va_S (gA b) s.heap H locs → lv_has ls 2 [] → W p l e rm_X11_where s m [.ref h0, .int v1].toArray below meth c H locs 0 0 (MQ below (gQ D b (some (.int R.1)) M (gW cI cL R.2)) [.ref h0, .int v1].toArray s 0 0 (gA b)) (F0 m 27 ls [.int j8.1]) := by
    intro H locs ls hG hS hl
    have hf := Option.some.inj hf
    subst hf
    exact gp_retI hx hb hr hlocks hG hS (Nat.le_of_ble_eq_true rfl) (Nat.le_of_ble_eq_true rfl) dX11_where_27
  refine lv_if_eq (tgt := 22) hx hb dX11_where_8 (by decide) (fun c8 => ?_) (fun c8 => ?_)
  · have hj8 := gb_t c8 hj8
    refine lv_aload_n hx hb dX11_where_22 rfl (lv_at hl 0 rfl) ?_
    refine lv_iconst (v := (-1 : Int32)) hx hb dX11_where_23 (by decide) ?_
    obtain ⟨o24, hc24, hj8⟩ := gb_b hj8
    obtain ⟨oc24, hcO24, hc24⟩ := gb_b hc24
    obtain ⟨hcg24, hci24⟩ := gfO_s hcO24
    have hci24 := List.mem_singleton.mp hci24
    obtain ⟨kc24, fc24⟩ := oc24
    dsimp only at hci24 hcg24
    subst hci24
    refine gp_callI (va_runV (As := [.int (-1 : Int32)]) (rest := []) ⟨hx, hb, hml, hown, hts⟩ (c_X11_refuse (l := l) (D := D) (b := b) (cI := cI) (cL := cL) hc24) (cwV 1 hts gX11_where_X11_refuse rfl rfl rfl (by decide +kernel) ⟨Nat.le_of_ble_eq_true rfl, Nat.le_of_ble_eq_true rfl⟩) (gp_preV hKn hG (cp_obj hcg24) rfl) rfl rfl hl.1 rfl (lv_room (Nat.le_of_ble_eq_true rfl)) dX11_where_24 ⟨Nat.le_of_ble_eq_true rfl, Nat.le_of_ble_eq_true rfl⟩) hS (fun H locs hG hS => ?_)
    have hj8 := Option.some.inj hj8
    subst hj8
    exact (hJ8 H locs ls hG hS (lv_sub hl [] rfl))
  · have hj8 := gb_f c8 hj8
    refine lv_aload_n hx hb dX11_where_11 rfl (lv_at hl 0 rfl) ?_
    obtain ⟨t12, ht12, hj8⟩ := gb_b hj8
    refine cp_get (v := va_rf t12) hx hb hts gclX11 hown hK hG 4 (gfR_s ht12) (by decide) (hts _ (List.mem_of_getElem? (i := 1) rfl)) (fun _ h9 => h9) dX11_where_12 ?_
    refine lv_iload_n hx hb dX11_where_15 rfl (lv_at hl 1 rfl) ?_
    obtain ⟨q16, hq16, hj8⟩ := gb_b hj8
    refine W.eq (g2 := F0 m 16 ls [.int v1, .ref q16]) (congrArg (fun z => F0 m 16 ls [.int v1, va_rf z]) hq16) ?_
    obtain ⟨o16, hc16, hj8⟩ := gb_b hj8
    obtain ⟨oc16, hcO16, hc16⟩ := gb_b hc16
    obtain ⟨hcg16, hci16⟩ := gfO_s hcO16
    have hci16 := List.mem_singleton.mp hci16
    obtain ⟨kc16, fc16⟩ := oc16
    dsimp only at hci16 hcg16
    subst hci16
    refine gp_callI (va_runV (As := [.int v1]) (rest := []) ⟨hx, hb, hml, hown, hts⟩ (c_X10_cellOf (l := l) (D := D) (b := b) (cI := cI) (cL := cL) hc16) (cwV 1 hts gX11_where_X10_cellOf rfl rfl rfl (by decide +kernel) ⟨Nat.le_of_ble_eq_true rfl, Nat.le_of_ble_eq_true rfl⟩) (gp_preV hKn hG (cp_obj hcg16) rfl) rfl rfl hl.1 rfl (lv_room (Nat.le_of_ble_eq_true rfl)) dX11_where_16 ⟨Nat.le_of_ble_eq_true rfl, Nat.le_of_ble_eq_true rfl⟩) hS (fun H locs hG hS => ?_)
    refine lv_goto (tgt := 27) hx hb dX11_where_19 (by decide) ?_
    have hj8 := Option.some.inj hj8
    subst hj8
    exact (hJ8 H locs ls hG hS (lv_sub hl [] rfl))
-- X11_whereAt
abbrev rm_X11_whereAt : Room := { frames := 5, cells := 0, slots := 0, locals := 114 }
set_option maxHeartbeats 4000000 in
set_option maxRecDepth 100000 in
theorem c_X11_whereAt {v1 : Int32} {v2 : Int32} {v3 : Int32} {R : Int32 × (Nat → GV)} (hf : f_X11_whereAt gv h0 v1 v2 v3 = some R) : Met l yX11_whereAt wsX11_whereAt rm_X11_whereAt (va_Pc [.ref h0, .int v1, .int v2, .int v3] (gPre D b M (gW cI cL gv) (gTy cI cL))) (gQ D b (some (.int R.1)) M (gW cI cL R.2)) 0 0 (gA b) := by
  refine gp_met (cc := cX11_whereAt) (maxL := 6) (ret := (some .int)) (by decide) rfl (Nat.le_of_ble_eq_true rfl) ?_
  intro p e s m below meth c X ls hG hl
  obtain ⟨H, hH0⟩ : ∃ H : Heap, H = s.heap := ⟨_, rfl⟩
  rw [← hH0] at hG ⊢
  have hS : va_S (gA b) s.heap H [] := by rw [hH0]; exact va_S.rf
  obtain ⟨locs, hlo⟩ : ∃ z : List Loc, z = [] := ⟨_, rfl⟩
  rw [← hlo] at hS ⊢
  unfold f_X11_whereAt at hf
  obtain ⟨hx, hb, hr, hml, hown, hts, hlocks, hKn, hBs⟩ := id X
  have hK := hKn.1
  have gclX11 : gcl [9] TX11 8 wsX11_whereAt := gcl_1 rfl (fun _ h => List.mem_cons_of_mem _ (List.mem_append_left _ (List.mem_append_left _ (List.mem_append_left _ (List.mem_append_left _ (List.mem_append_left _ (List.mem_append_left _ (List.mem_append_left _ (List.mem_append_left _ (List.mem_append_right _ h))))))))))
  have hl : lv_has ls 6 [(0, .ref h0), (1, .int v1), (2, .int v2), (3, .int v3)] := hl
  refine lv_aload_n hx hb dX11_whereAt_0 rfl (lv_at hl 0 rfl) ?_
  obtain ⟨t1, ht1, hf⟩ := gb_b hf
  refine cp_get (v := va_rf t1) hx hb hts gclX11 hown hK hG 4 (gfR_s ht1) (by decide) (hts _ (List.mem_of_getElem? (i := 1) rfl)) (fun _ h9 => h9) dX11_whereAt_1 ?_
  refine lv_iload_n hx hb dX11_whereAt_4 rfl (lv_at hl 1 rfl) ?_
  obtain ⟨q5, hq5, hf⟩ := gb_b hf
  refine W.eq (g2 := F0 m 5 ls [.int v1, .ref q5]) (congrArg (fun z => F0 m 5 ls [.int v1, va_rf z]) hq5) ?_
  obtain ⟨o5, hc5, hf⟩ := gb_b hf
  obtain ⟨oc5, hcO5, hc5⟩ := gb_b hc5
  obtain ⟨hcg5, hci5⟩ := gfO_s hcO5
  have hci5 := List.mem_singleton.mp hci5
  obtain ⟨kc5, fc5⟩ := oc5
  dsimp only at hci5 hcg5
  subst hci5
  refine gp_callI (va_runV (As := [.int v1]) (rest := []) ⟨hx, hb, hml, hown, hts⟩ (c_X10_isPerson (l := l) (D := D) (b := b) (cI := cI) (cL := cL) hc5) (cwV 1 hts gX11_whereAt_X10_isPerson rfl rfl rfl (by decide +kernel) ⟨Nat.le_of_ble_eq_true rfl, Nat.le_of_ble_eq_true rfl⟩) (gp_preV hKn hG (cp_obj hcg5) rfl) rfl rfl hl.1 rfl (lv_room (Nat.le_of_ble_eq_true rfl)) dX11_whereAt_5 ⟨Nat.le_of_ble_eq_true rfl, Nat.le_of_ble_eq_true rfl⟩) hS (fun H locs hG hS => ?_)
  refine lv_if_ne (tgt := 17) hx hb dX11_whereAt_8 (by decide) (fun c8 => ?_) (fun c8 => ?_)
  · have hf := gb_f c8 hf
    refine lv_iload_n hx hb dX11_whereAt_17 rfl (lv_at hl 2 rfl) ?_
    refine lv_if_lt (tgt := 26) hx hb dX11_whereAt_18 (by decide) (fun c18 => ?_) (fun c18 => ?_)
    · have hf := gb_t c18 hf
      refine lv_aload_n hx hb dX11_whereAt_26 rfl (lv_at hl 0 rfl) ?_
      refine lv_bipush (v := (-4 : Int32)) hx hb dX11_whereAt_27 (by decide) ?_
      obtain ⟨o29, hc29, hf⟩ := gb_b hf
      obtain ⟨oc29, hcO29, hc29⟩ := gb_b hc29
      obtain ⟨hcg29, hci29⟩ := gfO_s hcO29
      have hci29 := List.mem_singleton.mp hci29
      obtain ⟨kc29, fc29⟩ := oc29
      dsimp only at hci29 hcg29
      subst hci29
      refine gp_callI (va_runV (As := [.int (-4 : Int32)]) (rest := []) ⟨hx, hb, hml, hown, hts⟩ (c_X11_refuse (l := l) (D := D) (b := b) (cI := cI) (cL := cL) hc29) (cwV 1 hts gX11_whereAt_X11_refuse rfl rfl rfl (by decide +kernel) ⟨Nat.le_of_ble_eq_true rfl, Nat.le_of_ble_eq_true rfl⟩) (gp_preV hKn hG (cp_obj hcg29) rfl) rfl rfl hl.1 rfl (lv_room (Nat.le_of_ble_eq_true rfl)) dX11_whereAt_29 ⟨Nat.le_of_ble_eq_true rfl, Nat.le_of_ble_eq_true rfl⟩) hS (fun H locs hG hS => ?_)
      have hf := Option.some.inj hf
      subst hf
      exact gp_retI hx hb hr hlocks hG hS (Nat.le_of_ble_eq_true rfl) (Nat.le_of_ble_eq_true rfl) dX11_whereAt_32
    · have hf := gb_f c18 hf
      refine lv_iload_n hx hb dX11_whereAt_21 rfl (lv_at hl 3 rfl) ?_
      refine lv_iconst (v := (-1 : Int32)) hx hb dX11_whereAt_22 (by decide) ?_
      refine lv_icmp_ge (tgt := 33) hx hb dX11_whereAt_23 (by decide) (fun c23 => ?_) (fun c23 => ?_)
      · have hf := gb_t c23 hf
        refine lv_iload_n hx hb dX11_whereAt_33 rfl (lv_at hl 2 rfl) ?_
        refine lv_sipush (v := 9999) hx hb dX11_whereAt_34 (by decide) ?_
        refine lv_icmp_le (tgt := 47) hx hb dX11_whereAt_37 (by decide) (fun c37 => ?_) (fun c37 => ?_)
        · have hf := gb_t c37 hf
          refine lv_aload_n hx hb dX11_whereAt_47 rfl (lv_at hl 0 rfl) ?_
          obtain ⟨t48, ht48, hf⟩ := gb_b hf
          refine cp_get (v := va_rf t48) hx hb hts gclX11 hown hK hG 4 (gfR_s ht48) (by decide) (hts _ (List.mem_of_getElem? (i := 1) rfl)) (fun _ h9 => h9) dX11_whereAt_48 ?_
          refine lv_iload_n hx hb dX11_whereAt_51 rfl (lv_at hl 1 rfl) ?_
          refine lv_iload_n hx hb dX11_whereAt_52 rfl (lv_at hl 2 rfl) ?_
          obtain ⟨q53, hq53, hf⟩ := gb_b hf
          refine W.eq (g2 := F0 m 53 ls [.int v2, .int v1, .ref q53]) (congrArg (fun z => F0 m 53 ls [.int v2, .int v1, va_rf z]) hq53) ?_
          obtain ⟨o53, hc53, hf⟩ := gb_b hf
          obtain ⟨oc53, hcO53, hc53⟩ := gb_b hc53
          obtain ⟨hcg53, hci53⟩ := gfO_s hcO53
          have hci53 := List.mem_singleton.mp hci53
          obtain ⟨kc53, fc53⟩ := oc53
          dsimp only at hci53 hcg53
          subst hci53
          refine gp_callL (va_runV (As := [.int v1, .int v2]) (rest := []) ⟨hx, hb, hml, hown, hts⟩ (c_X10_whereabouts (l := l) (D := D) (b := b) (cI := cI) (cL := cL) hc53) (cwV 2 hts gX11_whereAt_X10_whereabouts rfl rfl rfl (by decide +kernel) ⟨Nat.le_of_ble_eq_true rfl, Nat.le_of_ble_eq_true rfl⟩) (gp_preV hKn hG (cp_obj hcg53) rfl) rfl rfl hl.1 rfl (lv_room (Nat.le_of_ble_eq_true rfl)) dX11_whereAt_53 ⟨Nat.le_of_ble_eq_true rfl, Nat.le_of_ble_eq_true rfl⟩) hS (fun H locs hG hS => ?_)
          refine lv_lstore (lv' := [(4, .long o53), (0, .ref h0), (1, .int v1), (2, .int v2), (3, .int v3)]) hx hb dX11_whereAt_56 hl (by decide) rfl (fun ls hl => ?_)
          refine lv_iload_n hx hb dX11_whereAt_58 rfl (lv_at hl 4 rfl) ?_
          obtain ⟨j59, hj59, hf⟩ := gb_b hf
          have hJ59 : ∀ (H : Heap) (locs : List Loc) (ls : Array Slot), GP D b M (gW cI cL gv) H → va_S (gA b) s.heap H locs → lv_has ls 6 [] → W p l e rm_X11_whereAt s m [.ref h0, .int v1, .int v2, .int v3].toArray below meth c H locs 0 0 (MQ below (gQ D b (some (.int R.1)) M (gW cI cL R.2)) [.ref h0, .int v1, .int v2, .int v3].toArray s 0 0 (gA b)) (F0 m 76 ls [.int j59]) := by
            intro H locs ls hG hS hl
            have hf := Option.some.inj hf
            subst hf
            exact gp_retI hx hb hr hlocks hG hS (Nat.le_of_ble_eq_true rfl) (Nat.le_of_ble_eq_true rfl) dX11_whereAt_76
          refine lv_if_ge (tgt := 70) hx hb dX11_whereAt_59 (by decide) (fun c59 => ?_) (fun c59 => ?_)
          · have hj59 := gb_t c59 hj59
            refine lv_lload hx hb dX11_whereAt_70 (lv_at hl 0 rfl) ?_
            refine lv_iload_n hx hb dX11_whereAt_72 rfl (lv_at hl 4 rfl) ?_
            obtain ⟨o73, hc73, hj59⟩ := gb_b hj59
            refine gp_callI (va_runS (As := [.long o53, .int v3]) (rest := []) ⟨hx, hb, hml, hown, hts⟩ (c_X2_byNumber (l := l) (D := D) (b := b) (cI := cI) (cL := cL) hc73) (va_cwS 2 hts gX11_whereAt_X2_byNumber rfl rfl rfl (by decide +kernel) ⟨Nat.le_of_ble_eq_true rfl, Nat.le_of_ble_eq_true rfl⟩) (gp_preS hKn hG) rfl rfl hl.1 rfl (lv_room (Nat.le_of_ble_eq_true rfl)) dX11_whereAt_73 ⟨Nat.le_of_ble_eq_true rfl, Nat.le_of_ble_eq_true rfl⟩) hS (fun H locs hG hS => ?_)
            have hj59 := Option.some.inj hj59
            subst hj59
            exact (hJ59 H locs ls hG hS (lv_sub hl [] rfl))
          · have hj59 := gb_f c59 hj59
            refine lv_lload hx hb dX11_whereAt_62 (lv_at hl 0 rfl) ?_
            obtain ⟨o64, hc64, hj59⟩ := gb_b hj59
            refine gp_callI (va_runS (As := [.long o53]) (rest := []) ⟨hx, hb, hml, hown, hts⟩ (c_X2_howMany (l := l) (D := D) (b := b) (cI := cI) (cL := cL) hc64) (va_cwS 1 hts gX11_whereAt_X2_howMany rfl rfl rfl (by decide +kernel) ⟨Nat.le_of_ble_eq_true rfl, Nat.le_of_ble_eq_true rfl⟩) (gp_preS hKn hG) rfl rfl hl.1 rfl (lv_room (Nat.le_of_ble_eq_true rfl)) dX11_whereAt_64 ⟨Nat.le_of_ble_eq_true rfl, Nat.le_of_ble_eq_true rfl⟩) hS (fun H locs hG hS => ?_)
            refine lv_goto (tgt := 76) hx hb dX11_whereAt_67 (by decide) ?_
            have hj59 := Option.some.inj hj59
            subst hj59
            exact (hJ59 H locs ls hG hS (lv_sub hl [] rfl))
        · have hf := gb_f c37 hf
          refine lv_aload_n hx hb dX11_whereAt_40 rfl (lv_at hl 0 rfl) ?_
          refine lv_bipush (v := (-6 : Int32)) hx hb dX11_whereAt_41 (by decide) ?_
          obtain ⟨o43, hc43, hf⟩ := gb_b hf
          obtain ⟨oc43, hcO43, hc43⟩ := gb_b hc43
          obtain ⟨hcg43, hci43⟩ := gfO_s hcO43
          have hci43 := List.mem_singleton.mp hci43
          obtain ⟨kc43, fc43⟩ := oc43
          dsimp only at hci43 hcg43
          subst hci43
          refine gp_callI (va_runV (As := [.int (-6 : Int32)]) (rest := []) ⟨hx, hb, hml, hown, hts⟩ (c_X11_refuse (l := l) (D := D) (b := b) (cI := cI) (cL := cL) hc43) (cwV 1 hts gX11_whereAt_X11_refuse rfl rfl rfl (by decide +kernel) ⟨Nat.le_of_ble_eq_true rfl, Nat.le_of_ble_eq_true rfl⟩) (gp_preV hKn hG (cp_obj hcg43) rfl) rfl rfl hl.1 rfl (lv_room (Nat.le_of_ble_eq_true rfl)) dX11_whereAt_43 ⟨Nat.le_of_ble_eq_true rfl, Nat.le_of_ble_eq_true rfl⟩) hS (fun H locs hG hS => ?_)
          have hf := Option.some.inj hf
          subst hf
          exact gp_retI hx hb hr hlocks hG hS (Nat.le_of_ble_eq_true rfl) (Nat.le_of_ble_eq_true rfl) dX11_whereAt_46
      · have hf := gb_f c23 hf
        refine lv_aload_n hx hb dX11_whereAt_26 rfl (lv_at hl 0 rfl) ?_
        refine lv_bipush (v := (-4 : Int32)) hx hb dX11_whereAt_27 (by decide) ?_
        obtain ⟨o29, hc29, hf⟩ := gb_b hf
        obtain ⟨oc29, hcO29, hc29⟩ := gb_b hc29
        obtain ⟨hcg29, hci29⟩ := gfO_s hcO29
        have hci29 := List.mem_singleton.mp hci29
        obtain ⟨kc29, fc29⟩ := oc29
        dsimp only at hci29 hcg29
        subst hci29
        refine gp_callI (va_runV (As := [.int (-4 : Int32)]) (rest := []) ⟨hx, hb, hml, hown, hts⟩ (c_X11_refuse (l := l) (D := D) (b := b) (cI := cI) (cL := cL) hc29) (cwV 1 hts gX11_whereAt_X11_refuse rfl rfl rfl (by decide +kernel) ⟨Nat.le_of_ble_eq_true rfl, Nat.le_of_ble_eq_true rfl⟩) (gp_preV hKn hG (cp_obj hcg29) rfl) rfl rfl hl.1 rfl (lv_room (Nat.le_of_ble_eq_true rfl)) dX11_whereAt_29 ⟨Nat.le_of_ble_eq_true rfl, Nat.le_of_ble_eq_true rfl⟩) hS (fun H locs hG hS => ?_)
        have hf := Option.some.inj hf
        subst hf
        exact gp_retI hx hb hr hlocks hG hS (Nat.le_of_ble_eq_true rfl) (Nat.le_of_ble_eq_true rfl) dX11_whereAt_32
  · have hf := gb_t c8 hf
    refine lv_aload_n hx hb dX11_whereAt_11 rfl (lv_at hl 0 rfl) ?_
    refine lv_iconst (v := (-1 : Int32)) hx hb dX11_whereAt_12 (by decide) ?_
    obtain ⟨o13, hc13, hf⟩ := gb_b hf
    obtain ⟨oc13, hcO13, hc13⟩ := gb_b hc13
    obtain ⟨hcg13, hci13⟩ := gfO_s hcO13
    have hci13 := List.mem_singleton.mp hci13
    obtain ⟨kc13, fc13⟩ := oc13
    dsimp only at hci13 hcg13
    subst hci13
    refine gp_callI (va_runV (As := [.int (-1 : Int32)]) (rest := []) ⟨hx, hb, hml, hown, hts⟩ (c_X11_refuse (l := l) (D := D) (b := b) (cI := cI) (cL := cL) hc13) (cwV 1 hts gX11_whereAt_X11_refuse rfl rfl rfl (by decide +kernel) ⟨Nat.le_of_ble_eq_true rfl, Nat.le_of_ble_eq_true rfl⟩) (gp_preV hKn hG (cp_obj hcg13) rfl) rfl rfl hl.1 rfl (lv_room (Nat.le_of_ble_eq_true rfl)) dX11_whereAt_13 ⟨Nat.le_of_ble_eq_true rfl, Nat.le_of_ble_eq_true rfl⟩) hS (fun H locs hG hS => ?_)
    have hf := Option.some.inj hf
    subst hf
    exact gp_retI hx hb hr hlocks hG hS (Nat.le_of_ble_eq_true rfl) (Nat.le_of_ble_eq_true rfl) dX11_whereAt_16
end
