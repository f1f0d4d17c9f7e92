section
variable {p : Program} {l : Launch} {e : Env} {s : State} {m : MethodId} {args : Array Value} {below : List Frame} {meth : Method} {c : Code} {D : va_G} {b : GB} {M : Nat} {cI cL : ClassId} {h0 : Nat} {gv : Nat → GV} {gh : Nat → va_E} {Q : State → Prop}
-- X10_glowOf
abbrev rm_X10_glowOf : Room := { frames := 3, cells := 0, slots := 0, locals := 74 }
set_option maxHeartbeats 4000000 in
set_option maxRecDepth 100000 in
theorem w_X10_glowOf_5 {α : Type} {R : α} {K52 : Int64 → Option α} {v0 : Nat} {v1 : Int32} (X : gC p s m args meth c cX10_glowOf 6 (some .long) wsX10_glowOf RX10 D b (gTy cI cL)) : ∀ (n : Nat) (v2 : Int64) (v4 : Int32), L_X10_glowOf_5 K52 gv v0 v1 n v2 v4 = some R → (∀ (x : Int64), K52 x = some R → ∀ (H : Heap) (locs : List Loc) (ls : Array Slot), GP D b M (gW cI cL gv) H → va_S (gA b) s.heap H locs → lv_has ls 6 [(2, .long x)] → W p l e rm_X10_glowOf s m args below meth c H locs 0 0 Q (F0 m 52 ls [])) → ∀ (H : Heap) (locs : List Loc) (ls : Array Slot), GP D b M (gW cI cL gv) H → va_S (gA b) s.heap H locs → lv_has ls 6 [(0, .ref v0), (1, .int v1), (2, .long v2), (4, .int v4)] → W p l e rm_X10_glowOf s m args below meth c H locs 0 0 Q (F0 m 5 ls []) := by
  obtain ⟨hx, hb, hr, hml, hown, hts, hlocks, hKn, hBs⟩ := id X
  have hK := hKn.1
  have gclX10 : gcl [8] TX10 6 wsX10_glowOf := gcl_1 rfl (fun _ h => List.mem_cons_of_mem _ (List.mem_append_left _ (List.mem_append_left _ (List.mem_append_left _ (List.mem_append_left _ (List.mem_append_left _ (List.mem_append_left _ (List.mem_append_left _ (List.mem_append_right _ h)))))))))
  intro n
  induction n with
  | zero =>
    intro v2 v4 hf
    cases hf
  | succ n ih =>
    intro v2 v4 hf hk52 H locs ls hG hS hl
    rw [L_X10_glowOf_5.eq_2] at hf
    refine lv_iload hx hb dX10_glowOf_5 (lv_at hl 3 rfl) ?_
    refine lv_aload_n hx hb dX10_glowOf_7 rfl (lv_at hl 0 rfl) ?_
    obtain ⟨t8, ht8, hf⟩ := gb_b hf
    refine cp_get (v := .int t8) hx hb hts gclX10 hown hK hG 3 (gfI_s ht8) (by decide) (hts _ (List.mem_of_getElem? (i := 1) rfl)) (fun _ h9 => h9) dX10_glowOf_8 ?_
    refine lv_icmp_ge (tgt := 52) hx hb dX10_glowOf_11 (by decide) (fun c11 => ?_) (fun c11 => ?_)
    · have hf := gb_t c11 hf
      exact (hk52 _ hf _ _ _ hG hS (lv_sub hl [2] rfl))
    · have hf := gb_f c11 hf
      refine lv_aload_n hx hb dX10_glowOf_14 rfl (lv_at hl 0 rfl) ?_
      refine lv_iload hx hb dX10_glowOf_15 (lv_at hl 3 rfl) ?_
      obtain ⟨o17, hc17, hf⟩ := gb_b hf
      obtain ⟨oc17, hcO17, hc17⟩ := gb_b hc17
      obtain ⟨hcg17, hci17⟩ := gfO_s hcO17
      have hci17 := List.mem_singleton.mp hci17
      obtain ⟨kc17, fc17⟩ := oc17
      dsimp only at hci17 hcg17
      subst hci17
      refine gp_callR (va_runV (As := [.int v4]) (rest := []) ⟨hx, hb, hml, hown, hts⟩ (c_X10_lampAt (l := l) (D := D) (b := b) (cI := cI) (cL := cL) hc17) (cwV 1 hts gX10_glowOf_X10_lampAt rfl rfl rfl (by decide +kernel) ⟨Nat.le_of_ble_eq_true rfl, Nat.le_of_ble_eq_true rfl⟩) (gp_preV hKn hG (cp_obj hcg17) rfl) rfl rfl hl.1 rfl (lv_room (Nat.le_of_ble_eq_true rfl)) dX10_glowOf_17 ⟨Nat.le_of_ble_eq_true rfl, Nat.le_of_ble_eq_true rfl⟩) hS (fun H locs hG hS => ?_)
      refine gp_astore (lv' := [(5, va_rf o17), (0, .ref v0), (1, .int v1), (2, .long v2), (4, .int v4)]) hx hb dX10_glowOf_20 hl (by decide) rfl (fun ls hl => ?_)
      refine gp_aload (x := o17) hx hb dX10_glowOf_22 (lv_at hl 0 rfl) ?_
      obtain ⟨j24, hj24, hf⟩ := gb_b hf
      have hJ24 : ∀ (H : Heap) (locs : List Loc) (ls : Array Slot), GP D b M (gW cI cL gv) H → va_S (gA b) s.heap H locs → lv_has ls 6 [(0, .ref v0), (1, .int v1), (2, .long j24), (4, .int v4)] → W p l e rm_X10_glowOf s m args below meth c H locs 0 0 Q (F0 m 46 ls []) := by
        intro H locs ls hG hS hl
        refine lv_iinc (v := v4 + 1) (lv' := [(4, .int (v4 + 1)), (0, .ref v0), (1, .int v1), (2, .long j24)]) hx hb dX10_glowOf_46 hl (k := 3) rfl rfl (by decide) rfl (fun ls hl => ?_)
        refine lv_goto (tgt := 5) hx hb dX10_glowOf_49 (by decide) ?_
        exact ih _ _ hf hk52 _ _ _ hG hS (lv_sub hl [1, 2, 3, 0] rfl)
      refine gp_ifnull (x := o17) (tgt := 46) hx hb dX10_glowOf_24 (by decide) ?_ ?_
      · intro e24
        rw [e24] at hl
        rw [e24] at hj24
        dsimp only at hj24
        have hj24 := Option.some.inj hj24
        subst hj24
        exact (hJ24 H locs ls hG hS (lv_sub hl [1, 2, 3, 4] rfl))
      · intro n24 e24
        rw [e24] at hl
        rw [e24] at hj24
        dsimp only at hj24
        refine lv_iload_n hx hb dX10_glowOf_27 rfl (lv_at hl 2 rfl) ?_
        refine lv_iload hx hb dX10_glowOf_28 (lv_at hl 4 rfl) ?_
        refine lv_ishr hx hb dX10_glowOf_30 ?_
        refine lv_iconst (v := 1) hx hb dX10_glowOf_31 (by decide) ?_
        refine lv_iand hx hb dX10_glowOf_32 ?_
        refine lv_iconst (v := 1) hx hb dX10_glowOf_33 (by decide) ?_
        refine lv_icmp_ne (tgt := 46) hx hb dX10_glowOf_34 (by decide) (fun c34 => ?_) (fun c34 => ?_)
        · have hj24 := gb_f c34 hj24
          have hj24 := Option.some.inj hj24
          subst hj24
          exact (hJ24 H locs ls hG hS (lv_sub hl [1, 2, 3, 4] rfl))
        · have hj24 := gb_t c34 hj24
          refine lv_lload_n hx hb dX10_glowOf_37 rfl (lv_at hl 3 rfl) ?_
          refine lv_aload hx hb dX10_glowOf_38 (lv_at hl 0 rfl) ?_
          refine lv_aload_n hx hb dX10_glowOf_40 rfl (lv_at hl 1 rfl) ?_
          obtain ⟨o41, hc41, hj24⟩ := gb_b hj24
          have hrun41 : va_Run p l e rm_X10_glowOf s m args below meth c H locs 0 0 0 0 (F0 m 41 ls ([.ref v0].reverse ++ .ref n24 :: [.long v2])) [.long v2] (gQ D b (some (.long o41)) M (gW cI cL gv) (Value.ref n24 :: [.ref v0]).toArray) (gA b) := by
            obtain ⟨oc, hcO, hc41⟩ := gb_b hc41
            obtain ⟨hcg, hci⟩ := gfO_s hcO
            obtain ⟨kc, fc⟩ := oc
            dsimp only at hci hcg hc41
            rcases gLC_7 hci with rfl | rfl | rfl | rfl | rfl | rfl | rfl
            · exact va_runU (As := [.ref v0]) (rest := [.long v2]) ⟨hx, hb, hml, hown, hts⟩ (c_X5_glow (l := l) (D := D) (b := b) (cI := cI) (cL := cL) hc41) (va_cwU 1 hts gX10_glowOf_X5_glow_u112X0 rfl rfl rfl rfl (by decide +kernel) ⟨Nat.le_of_ble_eq_true rfl, Nat.le_of_ble_eq_true rfl⟩) (gp_preV hKn hG (cp_obj hcg) rfl) rfl rfl hl.1 rfl (lv_room (Nat.le_of_ble_eq_true rfl)) dX10_glowOf_41 ⟨Nat.le_of_ble_eq_true rfl, Nat.le_of_ble_eq_true rfl⟩
            · exact va_runU (As := [.ref v0]) (rest := [.long v2]) ⟨hx, hb, hml, hown, hts⟩ (c_X5_glow (l := l) (D := D) (b := b) (cI := cI) (cL := cL) hc41) (va_cwU 1 hts gX10_glowOf_X5_glow_u112X1 rfl rfl rfl rfl (by decide +kernel) ⟨Nat.le_of_ble_eq_true rfl, Nat.le_of_ble_eq_true rfl⟩) (gp_preV hKn hG (cp_obj hcg) rfl) rfl rfl hl.1 rfl (lv_room (Nat.le_of_ble_eq_true rfl)) dX10_glowOf_41 ⟨Nat.le_of_ble_eq_true rfl, Nat.le_of_ble_eq_true rfl⟩
            · exact va_runU (As := [.ref v0]) (rest := [.long v2]) ⟨hx, hb, hml, hown, hts⟩ (c_X5_glow (l := l) (D := D) (b := b) (cI := cI) (cL := cL) hc41) (va_cwU 1 hts gX10_glowOf_X5_glow_u112X3 rfl rfl rfl rfl (by decide +kernel) ⟨Nat.le_of_ble_eq_true rfl, Nat.le_of_ble_eq_true rfl⟩) (gp_preV hKn hG (cp_obj hcg) rfl) rfl rfl hl.1 rfl (lv_room (Nat.le_of_ble_eq_true rfl)) dX10_glowOf_41 ⟨Nat.le_of_ble_eq_true rfl, Nat.le_of_ble_eq_true rfl⟩
            · exact va_runU (As := [.ref v0]) (rest := [.long v2]) ⟨hx, hb, hml, hown, hts⟩ (c_X5_glow (l := l) (D := D) (b := b) (cI := cI) (cL := cL) hc41) (va_cwU 1 hts gX10_glowOf_X5_glow_u112X4 rfl rfl rfl rfl (by decide +kernel) ⟨Nat.le_of_ble_eq_true rfl, Nat.le_of_ble_eq_true rfl⟩) (gp_preV hKn hG (cp_obj hcg) rfl) rfl rfl hl.1 rfl (lv_room (Nat.le_of_ble_eq_true rfl)) dX10_glowOf_41 ⟨Nat.le_of_ble_eq_true rfl, Nat.le_of_ble_eq_true rfl⟩
            · exact va_runV (As := [.ref v0]) (rest := [.long v2]) ⟨hx, hb, hml, hown, hts⟩ (c_X5_glow (l := l) (D := D) (b := b) (cI := cI) (cL := cL) hc41) (cwV 1 hts gX10_glowOf_X5_glow rfl rfl rfl (by decide +kernel) ⟨Nat.le_of_ble_eq_true rfl, Nat.le_of_ble_eq_true rfl⟩) (gp_preV hKn hG (cp_obj hcg) rfl) rfl rfl hl.1 rfl (lv_room (Nat.le_of_ble_eq_true rfl)) dX10_glowOf_41 ⟨Nat.le_of_ble_eq_true rfl, Nat.le_of_ble_eq_true rfl⟩
            · exact va_runU (As := [.ref v0]) (rest := [.long v2]) ⟨hx, hb, hml, hown, hts⟩ (c_X5_glow (l := l) (D := D) (b := b) (cI := cI) (cL := cL) hc41) (va_cwU 1 hts gX10_glowOf_X5_glow_u112X7 rfl rfl rfl rfl (by decide +kernel) ⟨Nat.le_of_ble_eq_true rfl, Nat.le_of_ble_eq_true rfl⟩) (gp_preV hKn hG (cp_obj hcg) rfl) rfl rfl hl.1 rfl (lv_room (Nat.le_of_ble_eq_true rfl)) dX10_glowOf_41 ⟨Nat.le_of_ble_eq_true rfl, Nat.le_of_ble_eq_true rfl⟩
            · exact va_runU (As := [.ref v0]) (rest := [.long v2]) ⟨hx, hb, hml, hown, hts⟩ (c_X5_glow (l := l) (D := D) (b := b) (cI := cI) (cL := cL) hc41) (va_cwU 1 hts gX10_glowOf_X5_glow_u112X8 rfl rfl rfl rfl (by decide +kernel) ⟨Nat.le_of_ble_eq_true rfl, Nat.le_of_ble_eq_true rfl⟩) (gp_preV hKn hG (cp_obj hcg) rfl) rfl rfl hl.1 rfl (lv_room (Nat.le_of_ble_eq_true rfl)) dX10_glowOf_41 ⟨Nat.le_of_ble_eq_true rfl, Nat.le_of_ble_eq_true rfl⟩
          refine gp_callL hrun41 hS (fun H locs hG hS => ?_)
          refine lv_lor hx hb dX10_glowOf_44 ?_
          refine lv_lstore_n (lv' := [(2, .long (v2 ||| o41)), (5, .ref n24), (0, .ref v0), (1, .int v1), (4, .int v4)]) hx hb dX10_glowOf_45 rfl hl (by decide) rfl (fun ls hl => ?_)
          have hj24 := Option.some.inj hj24
          subst hj24
          exact (hJ24 H locs ls hG hS (lv_sub hl [2, 3, 0, 4] rfl))
set_option maxHeartbeats 4000000 in
set_option maxRecDepth 100000 in
theorem c_X10_glowOf {v1 : Int32} {R : Int64} (hf : f_X10_glowOf gv h0 v1 = some R) : Met l yX10_glowOf wsX10_glowOf rm_X10_glowOf (va_Pc [.ref h0, .int v1] (gPre D b M (gW cI cL gv) (gTy cI cL))) (gQ D b (some (.long R)) M (gW cI cL gv)) 0 0 (gA b) := by
  refine gp_met (cc := cX10_glowOf) (maxL := 6) (ret := (some .long)) (by decide) rfl (Nat.le_of_ble_eq_true rfl) ?_
  intro p e s m below meth c X ls hG hl
  obtain ⟨H, hH0⟩ : ∃ H : Heap, H = s.heap := ⟨_, rfl⟩
  rw [← hH0] at hG ⊢
  have hS : va_S (gA b) s.heap H [] := by rw [hH0]; exact va_S.rf
  obtain ⟨locs, hlo⟩ : ∃ z : List Loc, z = [] := ⟨_, rfl⟩
  rw [← hlo] at hS ⊢
  unfold f_X10_glowOf at hf
  obtain ⟨hx, hb, hr, hml, hown, hts, hlocks, hKn, hBs⟩ := id X
  have hK := hKn.1
  have gclX10 : gcl [8] TX10 6 wsX10_glowOf := gcl_1 rfl (fun _ h => List.mem_cons_of_mem _ (List.mem_append_left _ (List.mem_append_left _ (List.mem_append_left _ (List.mem_append_left _ (List.mem_append_left _ (List.mem_append_left _ (List.mem_append_left _ (List.mem_append_right _ h)))))))))
  have hl : lv_has ls 6 [(0, .ref h0), (1, .int v1)] := hl
  refine lv_lconst (v := (0 : Int64)) hx hb dX10_glowOf_0 (by decide) ?_
  refine lv_lstore_n (lv' := [(2, .long (0 : Int64)), (0, .ref h0), (1, .int v1)]) hx hb dX10_glowOf_1 rfl hl (by decide) rfl (fun ls hl => ?_)
  refine lv_iconst (v := 0) hx hb dX10_glowOf_2 (by decide) ?_
  refine lv_istore (lv' := [(4, .int 0), (2, .long (0 : Int64)), (0, .ref h0), (1, .int v1)]) hx hb dX10_glowOf_3 hl (by decide) rfl (fun ls hl => ?_)
  refine w_X10_glowOf_5 X _ _ _ hf (fun x5_52 hf H locs ls hG hS hl => ?_) _ _ _ hG hS (lv_sub hl [2, 3, 1, 0] rfl)
  · refine lv_lload_n hx hb dX10_glowOf_52 rfl (lv_at hl 0 rfl) ?_
    have hf := Option.some.inj hf
    subst hf
    exact gp_retL hx hb hr hlocks hG hS (Nat.le_of_ble_eq_true rfl) (Nat.le_of_ble_eq_true rfl) dX10_glowOf_53
-- X10_init
abbrev rm_X10_init : Room := { frames := 1, cells := 2, slots := 10, locals := 28 }
set_option maxHeartbeats 4000000 in
set_option maxRecDepth 100000 in
theorem c_X10_init {R : (Nat → GV) × Nat} (hf : f_X10_init gv M h0 = some R) : Met l yX10_init wsX10_init rm_X10_init (va_Pc [.ref h0] (gPre D b M (gW cI cL gv) (gTy cI cL))) (gQ D b none R.2 (gW cI cL R.1)) 2 10 (gA b) := by
  refine gp_metI (cc := cX10_init) (maxL := 1) (ret := none) (by decide) rfl (Nat.le_of_ble_eq_true rfl) ?_
  intro p e s m below meth c X hin0 ls hG hl
  obtain ⟨H, hH0⟩ : ∃ H : Heap, H = s.heap := ⟨_, rfl⟩
  rw [← hH0] at hG ⊢
  have hS : va_S (gA b) s.heap H [] := by rw [hH0]; exact va_S.rf
  obtain ⟨locs, hlo⟩ : ∃ z : List Loc, z = [] := ⟨_, rfl⟩
  rw [← hlo] at hS ⊢
  unfold f_X10_init at hf
  obtain ⟨hx, hb, hr, hml, hown, hts, hlocks, hKn, hBs⟩ := id X
  have hK := hKn.1
  have gclX10 : gcl [8] TX10 6 wsX10_init := gcl_1 rfl (fun _ h => List.mem_cons_of_mem _ (List.mem_append_right _ h))
  have hl : lv_has ls 1 [(0, .ref h0)] := hl
  refine lv_aload_n hx hb dX10_init_0 rfl (lv_at hl 0 rfl) ?_
  refine W.objInit hx hb hown (hts _ (List.mem_of_getElem? (i := 1) rfl)) (hts _ (List.mem_of_getElem? (i := 2) rfl)) (hts _ (List.mem_of_getElem? (i := 3) rfl)) rfl (by rw [hml]; exact hl.1) rfl dX10_init_1 (Nat.le_of_ble_eq_true rfl) (Nat.le_of_ble_eq_true rfl) ?_
  refine W.eq (g2 := F0 m 4 ls []) rfl ?_
  refine lv_aload_n hx hb dX10_init_4 rfl (lv_at hl 0 rfl) ?_
  refine lv_bipush (v := 6) hx hb dX10_init_5 (by decide) ?_
  refine gp_newq (N' := 6) (g1 := gW cI cL (va_up gv M (.inr (.inr (6, fun _ => none))))) hx hb hown (hts _ (List.mem_of_getElem? (i := 4) rfl)) hKn hG hS (by decide) (by decide) (by decide) (Nat.le_of_ble_eq_true rfl) (Nat.le_of_ble_eq_true rfl) (gW_up (e := .inr (.inr (6, fun _ => none)))) dX10_init_7 (fun H hG hS => ?_)
  obtain ⟨g10, ht10, hf⟩ := gb_b hf
  refine cp_putF (tyk := (.array (.object "LampsThatRemember$Lamp"))) hx hb hts gclX10 tyX10 tyX10_ok nmX10 hown hK hG hS 0 ht10 (by decide) (hts _ (List.mem_of_getElem? (i := 5) rfl)) (fun _ h9 => h9) rfl hin0 rfl (by decide +kernel) rfl rfl dX10_init_10 (fun H locs hG hS => ?_)
  refine lv_aload_n hx hb dX10_init_13 rfl (lv_at hl 0 rfl) ?_
  refine lv_iconst (v := 4) hx hb dX10_init_14 (by decide) ?_
  refine gp_newa (N' := 4) (g1 := gW cI cL (va_up g10 (M + 1) (.inr (.inl (4, fun _ => 0))))) hx hb (hts _ (List.mem_of_getElem? (i := 6) rfl)) hK hG hS (by decide) (by decide) (by decide) (Nat.le_of_ble_eq_true rfl) (Nat.le_of_ble_eq_true rfl) (gW_up (e := .inr (.inl (4, fun _ => 0)))) dX10_init_15 (fun H hG hS => ?_)
  obtain ⟨g17, ht17, hf⟩ := gb_b hf
  refine cp_putF (tyk := .array .int) hx hb hts gclX10 tyX10 tyX10_ok nmX10 hown hK hG hS 1 ht17 (by decide) (hts _ (List.mem_of_getElem? (i := 7) rfl)) (fun _ h9 => h9) rfl hin0 rfl (by decide +kernel) rfl rfl dX10_init_17 (fun H locs hG hS => ?_)
  have hf := Option.some.inj hf
  subst hf
  exact gp_retV hx hb hr hlocks hG hS (Nat.le_of_ble_eq_true rfl) (Nat.le_of_ble_eq_true rfl) dX10_init_20
-- X10_litLamps
abbrev rm_X10_litLamps : Room := { frames := 1, cells := 0, slots := 0, locals := 21 }
set_option maxHeartbeats 4000000 in
set_option maxRecDepth 100000 in
theorem w_X10_litLamps_4 {α : Type} {R : α} {K41 : Int32 → Option α} {v0 : Nat} (X : gC p s m args meth c cX10_litLamps 4 (some .int) wsX10_litLamps RX10 D b (gTy cI cL)) : ∀ (n : Nat) (v1 : Int32) (v2 : Int32), L_X10_litLamps_4 K41 gv v0 n v1 v2 = some R → (∀ (x : Int32), K41 x = some R → ∀ (H : Heap) (locs : List Loc) (ls : Array Slot), GP D b M (gW cI cL gv) H → va_S (gA b) s.heap H locs → lv_has ls 4 [(1, .int x)] → W p l e rm_X10_litLamps s m args below meth c H locs 0 0 Q (F0 m 41 ls [])) → ∀ (H : Heap) (locs : List Loc) (ls : Array Slot), GP D b M (gW cI cL gv) H → va_S (gA b) s.heap H locs → lv_has ls 4 [(0, .ref v0), (1, .int v1), (2, .int v2)] → W p l e rm_X10_litLamps s m args below meth c H locs 0 0 Q (F0 m 4 ls []) := by
  obtain ⟨hx, hb, hr, hml, hown, hts, hlocks, hKn, hBs⟩ := id X
  have hK := hKn.1
  have gclL : gcl gLC TX5 5 wsX10_litLamps := gcl_L (fun _ h => List.mem_cons_of_mem _ (List.mem_append_left _ (List.mem_append_left _ (List.mem_append_left _ (List.mem_append_left _ (List.mem_append_left _ (List.mem_append_left _ (List.mem_append_right _ h)))))))) (fun _ h => List.mem_cons_of_mem _ (List.mem_append_left _ (List.mem_append_left _ (List.mem_append_left _ (List.mem_append_left _ (List.mem_append_left _ (List.mem_append_right _ h))))))) (fun _ h => List.mem_cons_of_mem _ (List.mem_append_left _ (List.mem_append_left _ (List.mem_append_left _ (List.mem_append_left _ (List.mem_append_right _ h)))))) (fun _ h => List.mem_cons_of_mem _ (List.mem_append_left _ (List.mem_append_left _ (List.mem_append_left _ (List.mem_append_right _ h))))) (fun _ h => List.mem_cons_of_mem _ (List.mem_append_left _ (List.mem_append_left _ (List.mem_append_right _ h)))) (fun _ h => List.mem_cons_of_mem _ (List.mem_append_left _ (List.mem_append_right _ h))) (fun _ h => List.mem_cons_of_mem _ (List.mem_append_right _ h))
  have gclX10 : gcl [8] TX10 6 wsX10_litLamps := gcl_1 rfl (fun _ h => List.mem_cons_of_mem _ (List.mem_append_left _ (List.mem_append_left _ (List.mem_append_left _ (List.mem_append_left _ (List.mem_append_left _ (List.mem_append_left _ (List.mem_append_left _ (List.mem_append_right _ h)))))))))
  intro n
  induction n with
  | zero =>
    intro v1 v2 hf
    cases hf
  | succ n ih =>
    intro v1 v2 hf hk41 H locs ls hG hS hl
    rw [L_X10_litLamps_4.eq_2] at hf
    refine lv_iload_n hx hb dX10_litLamps_4 rfl (lv_at hl 2 rfl) ?_
    refine lv_aload_n hx hb dX10_litLamps_5 rfl (lv_at hl 0 rfl) ?_
    obtain ⟨t6, ht6, hf⟩ := gb_b hf
    refine cp_get (v := .int t6) hx hb hts gclX10 hown hK hG 3 (gfI_s ht6) (by decide) (hts _ (List.mem_of_getElem? (i := 1) rfl)) (fun _ h9 => h9) dX10_litLamps_6 ?_
    refine lv_icmp_ge (tgt := 41) hx hb dX10_litLamps_9 (by decide) (fun c9 => ?_) (fun c9 => ?_)
    · have hf := gb_t c9 hf
      exact (hk41 _ hf _ _ _ hG hS (lv_sub hl [1] rfl))
    · have hf := gb_f c9 hf
      refine lv_aload_n hx hb dX10_litLamps_12 rfl (lv_at hl 0 rfl) ?_
      refine lv_iload_n hx hb dX10_litLamps_13 rfl (lv_at hl 2 rfl) ?_
      obtain ⟨o14, hc14, hf⟩ := gb_b hf
      obtain ⟨oc14, hcO14, hc14⟩ := gb_b hc14
      obtain ⟨hcg14, hci14⟩ := gfO_s hcO14
      have hci14 := List.mem_singleton.mp hci14
      obtain ⟨kc14, fc14⟩ := oc14
      dsimp only at hci14 hcg14
      subst hci14
      refine gp_callR (va_runV (As := [.int v2]) (rest := []) ⟨hx, hb, hml, hown, hts⟩ (c_X10_lampAt (l := l) (D := D) (b := b) (cI := cI) (cL := cL) hc14) (cwV 1 hts gX10_litLamps_X10_lampAt rfl rfl rfl (by decide +kernel) ⟨Nat.le_of_ble_eq_true rfl, Nat.le_of_ble_eq_true rfl⟩) (gp_preV hKn hG (cp_obj hcg14) rfl) rfl rfl hl.1 rfl (lv_room (Nat.le_of_ble_eq_true rfl)) dX10_litLamps_14 ⟨Nat.le_of_ble_eq_true rfl, Nat.le_of_ble_eq_true rfl⟩) hS (fun H locs hG hS => ?_)
      refine gp_astore_n (lv' := [(3, va_rf o14), (0, .ref v0), (1, .int v1), (2, .int v2)]) hx hb dX10_litLamps_17 rfl hl (by decide) rfl (fun ls hl => ?_)
      refine gp_aload_n (x := o14) hx hb dX10_litLamps_18 rfl (lv_at hl 0 rfl) ?_
      obtain ⟨j19, hj19, hf⟩ := gb_b hf
      have hJ19 : ∀ (H : Heap) (locs : List Loc) (ls : Array Slot), GP D b M (gW cI cL gv) H → va_S (gA b) s.heap H locs → lv_has ls 4 [(0, .ref v0), (1, .int j19), (2, .int v2)] → W p l e rm_X10_litLamps s m args below meth c H locs 0 0 Q (F0 m 35 ls []) := by
        intro H locs ls hG hS hl
        refine lv_iinc (v := v2 + 1) (lv' := [(2, .int (v2 + 1)), (0, .ref v0), (1, .int j19)]) hx hb dX10_litLamps_35 hl (k := 2) rfl rfl (by decide) rfl (fun ls hl => ?_)
        refine lv_goto (tgt := 4) hx hb dX10_litLamps_38 (by decide) ?_
        exact ih _ _ hf hk41 _ _ _ hG hS (lv_sub hl [1, 2, 0] rfl)
      refine gp_ifnull (x := o14) (tgt := 35) hx hb dX10_litLamps_19 (by decide) ?_ ?_
      · intro e19
        rw [e19] at hl
        rw [e19] at hj19
        dsimp only at hj19
        have hj19 := Option.some.inj hj19
        subst hj19
        exact (hJ19 H locs ls hG hS (lv_sub hl [1, 2, 3] rfl))
      · intro n19 e19
        rw [e19] at hl
        rw [e19] at hj19
        dsimp only at hj19
        refine lv_aload_n hx hb dX10_litLamps_22 rfl (lv_at hl 0 rfl) ?_
        obtain ⟨t23, ht23, hj19⟩ := gb_b hj19
        refine cp_get (v := .int t23) hx hb hts gclL hown hK hG 2 (gfI_s ht23) (by decide) (hts _ (List.mem_of_getElem? (i := 2) rfl)) (fun _ h9 => h9) dX10_litLamps_23 ?_
        refine lv_if_eq (tgt := 35) hx hb dX10_litLamps_26 (by decide) (fun c26 => ?_) (fun c26 => ?_)
        · have hj19 := gb_t c26 hj19
          have hj19 := Option.some.inj hj19
          subst hj19
          exact (hJ19 H locs ls hG hS (lv_sub hl [1, 2, 3] rfl))
        · have hj19 := gb_f c26 hj19
          refine lv_iload_n hx hb dX10_litLamps_29 rfl (lv_at hl 2 rfl) ?_
          refine lv_iconst (v := 1) hx hb dX10_litLamps_30 (by decide) ?_
          refine lv_iload_n hx hb dX10_litLamps_31 rfl (lv_at hl 3 rfl) ?_
          refine lv_ishl hx hb dX10_litLamps_32 ?_
          refine lv_ior hx hb dX10_litLamps_33 ?_
          refine lv_istore_n (lv' := [(1, .int (v1 ||| ((1 : Int32) <<< (v2 &&& 31)))), (3, .ref n19), (0, .ref v0), (2, .int v2)]) hx hb dX10_litLamps_34 rfl hl (by decide) rfl (fun ls hl => ?_)
          have hj19 := Option.some.inj hj19
          subst hj19
          exact (hJ19 H locs ls hG hS (lv_sub hl [2, 0, 3] rfl))
set_option maxHeartbeats 4000000 in
set_option maxRecDepth 100000 in
theorem c_X10_litLamps {R : Int32} (hf : f_X10_litLamps gv h0 = some R) : Met l yX10_litLamps wsX10_litLamps rm_X10_litLamps (va_Pc [.ref h0] (gPre D b M (gW cI cL gv) (gTy cI cL))) (gQ D b (some (.int R)) M (gW cI cL gv)) 0 0 (gA b) := by
  refine gp_met (cc := cX10_litLamps) (maxL := 4) (ret := (some .int)) (by decide) rfl (Nat.le_of_ble_eq_true rfl) ?_
  intro p e s m below meth c X ls hG hl
  obtain ⟨H, hH0⟩ : ∃ H : Heap, H = s.heap := ⟨_, rfl⟩
  rw [← hH0] at hG ⊢
  have hS : va_S (gA b) s.heap H [] := by rw [hH0]; exact va_S.rf
  obtain ⟨locs, hlo⟩ : ∃ z : List Loc, z = [] := ⟨_, rfl⟩
  rw [← hlo] at hS ⊢
  unfold f_X10_litLamps at hf
  obtain ⟨hx, hb, hr, hml, hown, hts, hlocks, hKn, hBs⟩ := id X
  have hK := hKn.1
  have gclL : gcl gLC TX5 5 wsX10_litLamps := gcl_L (fun _ h => List.mem_cons_of_mem _ (List.mem_append_left _ (List.mem_append_left _ (List.mem_append_left _ (List.mem_append_left _ (List.mem_append_left _ (List.mem_append_left _ (List.mem_append_right _ h)))))))) (fun _ h => List.mem_cons_of_mem _ (List.mem_append_left _ (List.mem_append_left _ (List.mem_append_left _ (List.mem_append_left _ (List.mem_append_left _ (List.mem_append_right _ h))))))) (fun _ h => List.mem_cons_of_mem _ (List.mem_append_left _ (List.mem_append_left _ (List.mem_append_left _ (List.mem_append_left _ (List.mem_append_right _ h)))))) (fun _ h => List.mem_cons_of_mem _ (List.mem_append_left _ (List.mem_append_left _ (List.mem_append_left _ (List.mem_append_right _ h))))) (fun _ h => List.mem_cons_of_mem _ (List.mem_append_left _ (List.mem_append_left _ (List.mem_append_right _ h)))) (fun _ h => List.mem_cons_of_mem _ (List.mem_append_left _ (List.mem_append_right _ h))) (fun _ h => List.mem_cons_of_mem _ (List.mem_append_right _ h))
  have gclX10 : gcl [8] TX10 6 wsX10_litLamps := gcl_1 rfl (fun _ h => List.mem_cons_of_mem _ (List.mem_append_left _ (List.mem_append_left _ (List.mem_append_left _ (List.mem_append_left _ (List.mem_append_left _ (List.mem_append_left _ (List.mem_append_left _ (List.mem_append_right _ h)))))))))
  have hl : lv_has ls 4 [(0, .ref h0)] := hl
  refine lv_iconst (v := 0) hx hb dX10_litLamps_0 (by decide) ?_
  refine lv_istore_n (lv' := [(1, .int 0), (0, .ref h0)]) hx hb dX10_litLamps_1 rfl hl (by decide) rfl (fun ls hl => ?_)
  refine lv_iconst (v := 0) hx hb dX10_litLamps_2 (by decide) ?_
  refine lv_istore_n (lv' := [(2, .int 0), (1, .int 0), (0, .ref h0)]) hx hb dX10_litLamps_3 rfl hl (by decide) rfl (fun ls hl => ?_)
  refine w_X10_litLamps_4 X _ _ _ hf (fun x4_41 hf H locs ls hG hS hl => ?_) _ _ _ hG hS (lv_sub hl [2, 1, 0] rfl)
  · refine lv_iload_n hx hb dX10_litLamps_41 rfl (lv_at hl 0 rfl) ?_
    have hf := Option.some.inj hf
    subst hf
    exact gp_retI hx hb hr hlocks hG hS (Nat.le_of_ble_eq_true rfl) (Nat.le_of_ble_eq_true rfl) dX10_litLamps_42
-- X10_litBut
abbrev rm_X10_litBut : Room := { frames := 4, cells := 0, slots := 0, locals := 99 }
set_option maxHeartbeats 4000000 in
set_option maxRecDepth 100000 in
theorem c_X10_litBut {v1 : Int32} {R : Int64} (hf : f_X10_litBut gv h0 v1 = some R) : Met l yX10_litBut wsX10_litBut rm_X10_litBut (va_Pc [.ref h0, .int v1] (gPre D b M (gW cI cL gv) (gTy cI cL))) (gQ D b (some (.long R)) M (gW cI cL gv)) 0 0 (gA b) := by
  refine gp_met (cc := cX10_litBut) (maxL := 2) (ret := (some .long)) (by decide) rfl (Nat.le_of_ble_eq_true rfl) ?_
  intro p e s m below meth c X ls hG hl
  obtain ⟨H, hH0⟩ : ∃ H : Heap, H = s.heap := ⟨_, rfl⟩
  rw [← hH0] at hG ⊢
  have hS : va_S (gA b) s.heap H [] := by rw [hH0]; exact va_S.rf
  obtain ⟨locs, hlo⟩ : ∃ z : List Loc, z = [] := ⟨_, rfl⟩
  rw [← hlo] at hS ⊢
  unfold f_X10_litBut at hf
  obtain ⟨hx, hb, hr, hml, hown, hts, hlocks, hKn, hBs⟩ := id X
  have hK := hKn.1
  have hl : lv_has ls 2 [(0, .ref h0), (1, .int v1)] := hl
  refine lv_aload_n hx hb dX10_litBut_0 rfl (lv_at hl 0 rfl) ?_
  refine lv_aload_n hx hb dX10_litBut_1 rfl (lv_at hl 0 rfl) ?_
  obtain ⟨o2, hc2, hf⟩ := gb_b hf
  obtain ⟨oc2, hcO2, hc2⟩ := gb_b hc2
  obtain ⟨hcg2, hci2⟩ := gfO_s hcO2
  have hci2 := List.mem_singleton.mp hci2
  obtain ⟨kc2, fc2⟩ := oc2
  dsimp only at hci2 hcg2
  subst hci2
  refine gp_callI (va_runV (As := []) (rest := [.ref h0]) ⟨hx, hb, hml, hown, hts⟩ (c_X10_litLamps (l := l) (D := D) (b := b) (cI := cI) (cL := cL) hc2) (cwV 0 hts gX10_litBut_X10_litLamps rfl rfl rfl (by decide +kernel) ⟨Nat.le_of_ble_eq_true rfl, Nat.le_of_ble_eq_true rfl⟩) (gp_preV hKn hG (cp_obj hcg2) rfl) rfl rfl hl.1 rfl (lv_room (Nat.le_of_ble_eq_true rfl)) dX10_litBut_2 ⟨Nat.le_of_ble_eq_true rfl, Nat.le_of_ble_eq_true rfl⟩) hS (fun H locs hG hS => ?_)
  refine lv_iload_n hx hb dX10_litBut_5 rfl (lv_at hl 1 rfl) ?_
  refine lv_iconst (v := (-1 : Int32)) hx hb dX10_litBut_6 (by decide) ?_
  refine lv_ixor hx hb dX10_litBut_7 ?_
  refine lv_iand hx hb dX10_litBut_8 ?_
  obtain ⟨o9, hc9, hf⟩ := gb_b hf
  obtain ⟨oc9, hcO9, hc9⟩ := gb_b hc9
  obtain ⟨hcg9, hci9⟩ := gfO_s hcO9
  have hci9 := List.mem_singleton.mp hci9
  obtain ⟨kc9, fc9⟩ := oc9
  dsimp only at hci9 hcg9
  subst hci9
  refine gp_callL (va_runV (As := [.int (o2 &&& (v1 ^^^ (-1 : Int32)))]) (rest := []) ⟨hx, hb, hml, hown, hts⟩ (c_X10_glowOf (l := l) (D := D) (b := b) (cI := cI) (cL := cL) hc9) (cwV 1 hts gX10_litBut_X10_glowOf rfl rfl rfl (by decide +kernel) ⟨Nat.le_of_ble_eq_true rfl, Nat.le_of_ble_eq_true rfl⟩) (gp_preV hKn hG (cp_obj hcg9) rfl) rfl rfl hl.1 rfl (lv_room (Nat.le_of_ble_eq_true rfl)) dX10_litBut_9 ⟨Nat.le_of_ble_eq_true rfl, Nat.le_of_ble_eq_true rfl⟩) hS (fun H locs hG hS => ?_)
  have hf := Option.some.inj hf
  subst hf
  exact gp_retL hx hb hr hlocks hG hS (Nat.le_of_ble_eq_true rfl) (Nat.le_of_ble_eq_true rfl) dX10_litBut_12
-- X10_peopleOn
abbrev rm_X10_peopleOn : Room := { frames := 2, cells := 0, slots := 0, locals := 42 }
set_option maxHeartbeats 4000000 in
set_option maxRecDepth 100000 in
theorem w_X10_peopleOn_5 {α : Type} {R : α} {K40 : Int32 → Option α} {v0 : Nat} {v1 : Int64} (X : gC p s m args meth c cX10_peopleOn 5 (some .int) wsX10_peopleOn RX10 D b (gTy cI cL)) : ∀ (n : Nat) (v3 : Int32) (v4 : Int32), L_X10_peopleOn_5 K40 gv v0 v1 n v3 v4 = some R → (∀ (x : Int32), K40 x = some R → ∀ (H : Heap) (locs : List Loc) (ls : Array Slot), GP D b M (gW cI cL gv) H → va_S (gA b) s.heap H locs → lv_has ls 5 [(3, .int x)] → W p l e rm_X10_peopleOn s m args below meth c H locs 0 0 Q (F0 m 40 ls [])) → ∀ (H : Heap) (locs : List Loc) (ls : Array Slot), GP D b M (gW cI cL gv) H → va_S (gA b) s.heap H locs → lv_has ls 5 [(0, .ref v0), (1, .long v1), (3, .int v3), (4, .int v4)] → W p l e rm_X10_peopleOn s m args below meth c H locs 0 0 Q (F0 m 5 ls []) := by
  obtain ⟨hx, hb, hr, hml, hown, hts, hlocks, hKn, hBs⟩ := id X
  have hK := hKn.1
  have gclX10 : gcl [8] TX10 6 wsX10_peopleOn := gcl_1 rfl (fun _ h => List.mem_cons_of_mem _ (List.mem_append_right _ h))
  intro n
  induction n with
  | zero =>
    intro v3 v4 hf
    cases hf
  | succ n ih =>
    intro v3 v4 hf hk40 H locs ls hG hS hl
    rw [L_X10_peopleOn_5.eq_2] at hf
    refine lv_iload hx hb dX10_peopleOn_5 (lv_at hl 3 rfl) ?_
    refine lv_aload_n hx hb dX10_peopleOn_7 rfl (lv_at hl 0 rfl) ?_
    obtain ⟨t8, ht8, hf⟩ := gb_b hf
    refine cp_get (v := .int t8) hx hb hts gclX10 hown hK hG 4 (gfI_s ht8) (by decide) (hts _ (List.mem_of_getElem? (i := 1) rfl)) (fun _ h9 => h9) dX10_peopleOn_8 ?_
    refine lv_icmp_ge (tgt := 40) hx hb dX10_peopleOn_11 (by decide) (fun c11 => ?_) (fun c11 => ?_)
    · have hf := gb_t c11 hf
      exact (hk40 _ hf _ _ _ hG hS (lv_sub hl [2] rfl))
    · have hf := gb_f c11 hf
      refine lv_lload_n hx hb dX10_peopleOn_14 rfl (lv_at hl 1 rfl) ?_
      refine lv_aload_n hx hb dX10_peopleOn_15 rfl (lv_at hl 0 rfl) ?_
      refine lv_iload hx hb dX10_peopleOn_16 (lv_at hl 3 rfl) ?_
      obtain ⟨o18, hc18, hf⟩ := gb_b hf
      obtain ⟨oc18, hcO18, hc18⟩ := gb_b hc18
      obtain ⟨hcg18, hci18⟩ := gfO_s hcO18
      have hci18 := List.mem_singleton.mp hci18
      obtain ⟨kc18, fc18⟩ := oc18
      dsimp only at hci18 hcg18
      subst hci18
      refine gp_callI (va_runV (As := [.int v4]) (rest := [.long v1]) ⟨hx, hb, hml, hown, hts⟩ (c_X10_cellOf (l := l) (D := D) (b := b) (cI := cI) (cL := cL) hc18) (cwV 1 hts gX10_peopleOn_X10_cellOf rfl rfl rfl (by decide +kernel) ⟨Nat.le_of_ble_eq_true rfl, Nat.le_of_ble_eq_true rfl⟩) (gp_preV hKn hG (cp_obj hcg18) rfl) rfl rfl hl.1 rfl (lv_room (Nat.le_of_ble_eq_true rfl)) dX10_peopleOn_18 ⟨Nat.le_of_ble_eq_true rfl, Nat.le_of_ble_eq_true rfl⟩) hS (fun H locs hG hS => ?_)
      obtain ⟨o21, hc21, hf⟩ := gb_b hf
      refine gp_callI (va_runS (As := [.long v1, .int o18]) (rest := []) ⟨hx, hb, hml, hown, hts⟩ (c_X2_has (l := l) (D := D) (b := b) (cI := cI) (cL := cL) hc21) (va_cwS 2 hts gX10_peopleOn_X2_has rfl rfl rfl (by decide +kernel) ⟨Nat.le_of_ble_eq_true rfl, Nat.le_of_ble_eq_true rfl⟩) (gp_preS hKn hG) rfl rfl hl.1 rfl (lv_room (Nat.le_of_ble_eq_true rfl)) dX10_peopleOn_21 ⟨Nat.le_of_ble_eq_true rfl, Nat.le_of_ble_eq_true rfl⟩) hS (fun H locs hG hS => ?_)
      obtain ⟨j24, hj24, hf⟩ := gb_b hf
      have hJ24 : ∀ (H : Heap) (locs : List Loc) (ls : Array Slot), GP D b M (gW cI cL gv) H → va_S (gA b) s.heap H locs → lv_has ls 5 [(0, .ref v0), (1, .long v1), (3, .int j24), (4, .int v4)] → W p l e rm_X10_peopleOn s m args below meth c H locs 0 0 Q (F0 m 34 ls []) := by
        intro H locs ls hG hS hl
        refine lv_iinc (v := v4 + 1) (lv' := [(4, .int (v4 + 1)), (0, .ref v0), (1, .long v1), (3, .int j24)]) hx hb dX10_peopleOn_34 hl (k := 3) rfl rfl (by decide) rfl (fun ls hl => ?_)
        refine lv_goto (tgt := 5) hx hb dX10_peopleOn_37 (by decide) ?_
        exact ih _ _ hf hk40 _ _ _ hG hS (lv_sub hl [1, 2, 3, 0] rfl)
      refine lv_if_eq (tgt := 34) hx hb dX10_peopleOn_24 (by decide) (fun c24 => ?_) (fun c24 => ?_)
      · have hj24 := gb_t c24 hj24
        have hj24 := Option.some.inj hj24
        subst hj24
        exact (hJ24 H locs ls hG hS (lv_sub hl [0, 1, 2, 3] rfl))
      · have hj24 := gb_f c24 hj24
        refine lv_iload_n hx hb dX10_peopleOn_27 rfl (lv_at hl 2 rfl) ?_
        refine lv_iconst (v := 1) hx hb dX10_peopleOn_28 (by decide) ?_
        refine lv_iload hx hb dX10_peopleOn_29 (lv_at hl 3 rfl) ?_
        refine lv_ishl hx hb dX10_peopleOn_31 ?_
        refine lv_ior hx hb dX10_peopleOn_32 ?_
        refine lv_istore_n (lv' := [(3, .int (v3 ||| ((1 : Int32) <<< (v4 &&& 31)))), (0, .ref v0), (1, .long v1), (4, .int v4)]) hx hb dX10_peopleOn_33 rfl hl (by decide) rfl (fun ls hl => ?_)
        have hj24 := Option.some.inj hj24
        subst hj24
        exact (hJ24 H locs ls hG hS (lv_sub hl [1, 2, 0, 3] rfl))
set_option maxHeartbeats 4000000 in
set_option maxRecDepth 100000 in
theorem c_X10_peopleOn {v1 : Int64} {R : Int32} (hf : f_X10_peopleOn gv h0 v1 = some R) : Met l yX10_peopleOn wsX10_peopleOn rm_X10_peopleOn (va_Pc [.ref h0, .long v1] (gPre D b M (gW cI cL gv) (gTy cI cL))) (gQ D b (some (.int R)) M (gW cI cL gv)) 0 0 (gA b) := by
  refine gp_met (cc := cX10_peopleOn) (maxL := 5) (ret := (some .int)) (by decide) rfl (Nat.le_of_ble_eq_true rfl) ?_
  intro p e s m below meth c X ls hG hl
  obtain ⟨H, hH0⟩ : ∃ H : Heap, H = s.heap := ⟨_, rfl⟩
  rw [← hH0] at hG ⊢
  have hS : va_S (gA b) s.heap H [] := by rw [hH0]; exact va_S.rf
  obtain ⟨locs, hlo⟩ : ∃ z : List Loc, z = [] := ⟨_, rfl⟩
  rw [← hlo] at hS ⊢
  unfold f_X10_peopleOn at hf
  obtain ⟨hx, hb, hr, hml, hown, hts, hlocks, hKn, hBs⟩ := id X
  have hK := hKn.1
  have gclX10 : gcl [8] TX10 6 wsX10_peopleOn := gcl_1 rfl (fun _ h => List.mem_cons_of_mem _ (List.mem_append_right _ h))
  have hl : lv_has ls 5 [(0, .ref h0), (1, .long v1)] := hl
  refine lv_iconst (v := 0) hx hb dX10_peopleOn_0 (by decide) ?_
  refine lv_istore_n (lv' := [(3, .int 0), (0, .ref h0), (1, .long v1)]) hx hb dX10_peopleOn_1 rfl hl (by decide) rfl (fun ls hl => ?_)
  refine lv_iconst (v := 0) hx hb dX10_peopleOn_2 (by decide) ?_
  refine lv_istore (lv' := [(4, .int 0), (3, .int 0), (0, .ref h0), (1, .long v1)]) hx hb dX10_peopleOn_3 hl (by decide) rfl (fun ls hl => ?_)
  refine w_X10_peopleOn_5 X _ _ _ hf (fun x5_40 hf H locs ls hG hS hl => ?_) _ _ _ hG hS (lv_sub hl [2, 3, 1, 0] rfl)
  · refine lv_iload_n hx hb dX10_peopleOn_40 rfl (lv_at hl 0 rfl) ?_
    have hf := Option.some.inj hf
    subst hf
    exact gp_retI hx hb hr hlocks hG hS (Nat.le_of_ble_eq_true rfl) (Nat.le_of_ble_eq_true rfl) dX10_peopleOn_41
-- X10_scenesNotOf
abbrev rm_X10_scenesNotOf : Room := { frames := 4, cells := 0, slots := 0, locals := 89 }
set_option maxHeartbeats 4000000 in
set_option maxRecDepth 100000 in
theorem w_X10_scenesNotOf_5 {α : Type} {R : α} {K45 : Int32 → Option α} {v0 : Nat} {v1 : Int32} {v2 : Option Nat} (X : gC p s m args meth c cX10_scenesNotOf 5 (some .int) wsX10_scenesNotOf RX10 D b (gTy cI cL)) : ∀ (n : Nat) (v3 : Int32) (v4 : Int32), L_X10_scenesNotOf_5 K45 gv v0 v1 v2 n v3 v4 = some R → (∀ (x : Int32), K45 x = some R → ∀ (H : Heap) (locs : List Loc) (ls : Array Slot), GP D b M (gW cI cL gv) H → va_S (gA b) s.heap H locs → lv_has ls 5 [(3, .int x)] → W p l e rm_X10_scenesNotOf s m args below meth c H locs 0 0 Q (F0 m 45 ls [])) → ∀ (H : Heap) (locs : List Loc) (ls : Array Slot), GP D b M (gW cI cL gv) H → va_S (gA b) s.heap H locs → lv_has ls 5 [(0, .ref v0), (1, .int v1), (2, va_rf v2), (3, .int v3), (4, .int v4)] → W p l e rm_X10_scenesNotOf s m args below meth c H locs 0 0 Q (F0 m 5 ls []) := by
  obtain ⟨hx, hb, hr, hml, hown, hts, hlocks, hKn, hBs⟩ := id X
  have hK := hKn.1
  have gclL : gcl gLC TX5 5 wsX10_scenesNotOf := gcl_L (fun _ h => List.mem_cons_of_mem _ (List.mem_append_left _ (List.mem_append_left _ (List.mem_append_left _ (List.mem_append_left _ (List.mem_append_left _ (List.mem_append_left _ (List.mem_append_left _ (List.mem_append_right _ h))))))))) (fun _ h => List.mem_cons_of_mem _ (List.mem_append_left _ (List.mem_append_left _ (List.mem_append_left _ (List.mem_append_left _ (List.mem_append_left _ (List.mem_append_left _ (List.mem_append_right _ h)))))))) (fun _ h => List.mem_cons_of_mem _ (List.mem_append_left _ (List.mem_append_left _ (List.mem_append_left _ (List.mem_append_left _ (List.mem_append_left _ (List.mem_append_right _ h))))))) (fun _ h => List.mem_cons_of_mem _ (List.mem_append_left _ (List.mem_append_left _ (List.mem_append_left _ (List.mem_append_left _ (List.mem_append_right _ h)))))) (fun _ h => List.mem_cons_of_mem _ (List.mem_append_left _ (List.mem_append_left _ (List.mem_append_left _ (List.mem_append_right _ h))))) (fun _ h => List.mem_cons_of_mem _ (List.mem_append_left _ (List.mem_append_left _ (List.mem_append_right _ h)))) (fun _ h => List.mem_cons_of_mem _ (List.mem_append_left _ (List.mem_append_right _ h)))
  intro n
  induction n with
  | zero =>
    intro v3 v4 hf
    cases hf
  | succ n ih =>
    intro v3 v4 hf hk45 H locs ls hG hS hl
    rw [L_X10_scenesNotOf_5.eq_2] at hf
    refine lv_iload hx hb dX10_scenesNotOf_5 (lv_at hl 4 rfl) ?_
    refine gp_aload_n (x := v2) hx hb dX10_scenesNotOf_7 rfl (lv_at hl 2 rfl) ?_
    obtain ⟨q8, hq8, hf⟩ := gb_b hf
    refine W.eq (g2 := F0 m 8 ls [.ref q8, .int v4]) (congrArg (fun z => F0 m 8 ls [va_rf z, .int v4]) hq8) ?_
    rw [hq8] at hl
    obtain ⟨t8, ht8, hf⟩ := gb_b hf
    refine cp_get (v := .int t8) hx hb hts gclL hown hK hG 3 (gfI_s ht8) (by decide) (hts _ (List.mem_of_getElem? (i := 1) rfl)) (fun _ h9 => h9) dX10_scenesNotOf_8 ?_
    refine lv_icmp_ge (tgt := 45) hx hb dX10_scenesNotOf_11 (by decide) (fun c11 => ?_) (fun c11 => ?_)
    · have hf := gb_t c11 hf
      exact (hk45 _ hf _ _ _ hG hS (lv_sub hl [3] rfl))
    · have hf := gb_f c11 hf
      refine lv_iload_n hx hb dX10_scenesNotOf_14 rfl (lv_at hl 3 rfl) ?_
      refine lv_aload_n hx hb dX10_scenesNotOf_15 rfl (lv_at hl 0 rfl) ?_
      refine lv_iload_n hx hb dX10_scenesNotOf_16 rfl (lv_at hl 1 rfl) ?_
      refine lv_aload_n hx hb dX10_scenesNotOf_17 rfl (lv_at hl 2 rfl) ?_
      refine lv_iload hx hb dX10_scenesNotOf_18 (lv_at hl 4 rfl) ?_
      obtain ⟨o20, hc20, hf⟩ := gb_b hf
      have hrun20 : va_Run p l e rm_X10_scenesNotOf s m args below meth c H locs 0 0 0 0 (F0 m 20 ls ([.int v4].reverse ++ .ref q8 :: [.int v1, .ref v0, .int v3])) [.int v1, .ref v0, .int v3] (gQ D b (some (.int o20)) M (gW cI cL gv) (Value.ref q8 :: [.int v4]).toArray) (gA b) := by
        obtain ⟨oc, hcO, hc20⟩ := gb_b hc20
        obtain ⟨hcg, hci⟩ := gfO_s hcO
        obtain ⟨kc, fc⟩ := oc
        dsimp only at hci hcg hc20
        rcases gLC_7 hci with rfl | rfl | rfl | rfl | rfl | rfl | rfl
        · exact va_runU (As := [.int v4]) (rest := [.int v1, .ref v0, .int v3]) ⟨hx, hb, hml, hown, hts⟩ (c_X5_sceneAt (l := l) (D := D) (b := b) (cI := cI) (cL := cL) hc20) (va_cwU 1 hts gX10_scenesNotOf_X5_sceneAt_u134X0 rfl rfl rfl rfl (by decide +kernel) ⟨Nat.le_of_ble_eq_true rfl, Nat.le_of_ble_eq_true rfl⟩) (gp_preV hKn hG (cp_obj hcg) rfl) rfl rfl hl.1 rfl (lv_room (Nat.le_of_ble_eq_true rfl)) dX10_scenesNotOf_20 ⟨Nat.le_of_ble_eq_true rfl, Nat.le_of_ble_eq_true rfl⟩
        · exact va_runU (As := [.int v4]) (rest := [.int v1, .ref v0, .int v3]) ⟨hx, hb, hml, hown, hts⟩ (c_X5_sceneAt (l := l) (D := D) (b := b) (cI := cI) (cL := cL) hc20) (va_cwU 1 hts gX10_scenesNotOf_X5_sceneAt_u134X1 rfl rfl rfl rfl (by decide +kernel) ⟨Nat.le_of_ble_eq_true rfl, Nat.le_of_ble_eq_true rfl⟩) (gp_preV hKn hG (cp_obj hcg) rfl) rfl rfl hl.1 rfl (lv_room (Nat.le_of_ble_eq_true rfl)) dX10_scenesNotOf_20 ⟨Nat.le_of_ble_eq_true rfl, Nat.le_of_ble_eq_true rfl⟩
        · exact va_runU (As := [.int v4]) (rest := [.int v1, .ref v0, .int v3]) ⟨hx, hb, hml, hown, hts⟩ (c_X5_sceneAt (l := l) (D := D) (b := b) (cI := cI) (cL := cL) hc20) (va_cwU 1 hts gX10_scenesNotOf_X5_sceneAt_u134X3 rfl rfl rfl rfl (by decide +kernel) ⟨Nat.le_of_ble_eq_true rfl, Nat.le_of_ble_eq_true rfl⟩) (gp_preV hKn hG (cp_obj hcg) rfl) rfl rfl hl.1 rfl (lv_room (Nat.le_of_ble_eq_true rfl)) dX10_scenesNotOf_20 ⟨Nat.le_of_ble_eq_true rfl, Nat.le_of_ble_eq_true rfl⟩
        · exact va_runU (As := [.int v4]) (rest := [.int v1, .ref v0, .int v3]) ⟨hx, hb, hml, hown, hts⟩ (c_X5_sceneAt (l := l) (D := D) (b := b) (cI := cI) (cL := cL) hc20) (va_cwU 1 hts gX10_scenesNotOf_X5_sceneAt_u134X4 rfl rfl rfl rfl (by decide +kernel) ⟨Nat.le_of_ble_eq_true rfl, Nat.le_of_ble_eq_true rfl⟩) (gp_preV hKn hG (cp_obj hcg) rfl) rfl rfl hl.1 rfl (lv_room (Nat.le_of_ble_eq_true rfl)) dX10_scenesNotOf_20 ⟨Nat.le_of_ble_eq_true rfl, Nat.le_of_ble_eq_true rfl⟩
        · exact va_runV (As := [.int v4]) (rest := [.int v1, .ref v0, .int v3]) ⟨hx, hb, hml, hown, hts⟩ (c_X5_sceneAt (l := l) (D := D) (b := b) (cI := cI) (cL := cL) hc20) (cwV 1 hts gX10_scenesNotOf_X5_sceneAt rfl rfl rfl (by decide +kernel) ⟨Nat.le_of_ble_eq_true rfl, Nat.le_of_ble_eq_true rfl⟩) (gp_preV hKn hG (cp_obj hcg) rfl) rfl rfl hl.1 rfl (lv_room (Nat.le_of_ble_eq_true rfl)) dX10_scenesNotOf_20 ⟨Nat.le_of_ble_eq_true rfl, Nat.le_of_ble_eq_true rfl⟩
        · exact va_runU (As := [.int v4]) (rest := [.int v1, .ref v0, .int v3]) ⟨hx, hb, hml, hown, hts⟩ (c_X5_sceneAt (l := l) (D := D) (b := b) (cI := cI) (cL := cL) hc20) (va_cwU 1 hts gX10_scenesNotOf_X5_sceneAt_u134X7 rfl rfl rfl rfl (by decide +kernel) ⟨Nat.le_of_ble_eq_true rfl, Nat.le_of_ble_eq_true rfl⟩) (gp_preV hKn hG (cp_obj hcg) rfl) rfl rfl hl.1 rfl (lv_room (Nat.le_of_ble_eq_true rfl)) dX10_scenesNotOf_20 ⟨Nat.le_of_ble_eq_true rfl, Nat.le_of_ble_eq_true rfl⟩
        · exact va_runU (As := [.int v4]) (rest := [.int v1, .ref v0, .int v3]) ⟨hx, hb, hml, hown, hts⟩ (c_X5_sceneAt (l := l) (D := D) (b := b) (cI := cI) (cL := cL) hc20) (va_cwU 1 hts gX10_scenesNotOf_X5_sceneAt_u134X8 rfl rfl rfl rfl (by decide +kernel) ⟨Nat.le_of_ble_eq_true rfl, Nat.le_of_ble_eq_true rfl⟩) (gp_preV hKn hG (cp_obj hcg) rfl) rfl rfl hl.1 rfl (lv_room (Nat.le_of_ble_eq_true rfl)) dX10_scenesNotOf_20 ⟨Nat.le_of_ble_eq_true rfl, Nat.le_of_ble_eq_true rfl⟩
      refine gp_callI hrun20 hS (fun H locs hG hS => ?_)
      obtain ⟨o23, hc23, hf⟩ := gb_b hf
      obtain ⟨oc23, hcO23, hc23⟩ := gb_b hc23
      obtain ⟨hcg23, hci23⟩ := gfO_s hcO23
      have hci23 := List.mem_singleton.mp hci23
      obtain ⟨kc23, fc23⟩ := oc23
      dsimp only at hci23 hcg23
      subst hci23
      refine gp_callI (va_runV (As := [.int v1, .int o20]) (rest := [.int v3]) ⟨hx, hb, hml, hown, hts⟩ (c_X10_anyHas (l := l) (D := D) (b := b) (cI := cI) (cL := cL) hc23) (cwV 2 hts gX10_scenesNotOf_X10_anyHas rfl rfl rfl (by decide +kernel) ⟨Nat.le_of_ble_eq_true rfl, Nat.le_of_ble_eq_true rfl⟩) (gp_preV hKn hG (cp_obj hcg23) rfl) rfl rfl hl.1 rfl (lv_room (Nat.le_of_ble_eq_true rfl)) dX10_scenesNotOf_23 ⟨Nat.le_of_ble_eq_true rfl, Nat.le_of_ble_eq_true rfl⟩) hS (fun H locs hG hS => ?_)
      have hJ26 : ∀ Z : Int32, Z = (if o23 = 0 then 1 else 0) → W p l e rm_X10_scenesNotOf s m args below meth c H locs 0 0 Q (F0 m 34 ls (.int Z :: [.int v3])) := by
        intro Z hZ
        subst hZ
        obtain ⟨o34, hc34, hf⟩ := gb_b hf
        refine gp_callI (va_runSN (As := [.int (if o23 = 0 then 1 else 0)]) (rest := [.int v3]) ⟨hx, hb, hml, hown, hts⟩ (c_X11_yes (l := l) (D := D) (b := b) (cI := cI) (cL := cL) hc34) ⟨va_cnB 1 hts gX10_scenesNotOf_X11_yes_n82 rfl rfl rfl (hKn.2.1 _ (List.mem_of_getElem? (i := 14) rfl)) (hts _ (List.mem_of_getElem? (i := 59) rfl)) (by decide +kernel) ⟨Nat.le_of_ble_eq_true rfl, Nat.le_of_ble_eq_true rfl⟩, (hts _ (List.mem_of_getElem? (i := 58) rfl)), trivial⟩ (gp_preS hKn hG) rfl rfl hl.1 rfl (lv_room (Nat.le_of_ble_eq_true rfl)) dX10_scenesNotOf_34 ⟨Nat.le_of_ble_eq_true rfl, Nat.le_of_ble_eq_true rfl⟩) hS (fun H locs hG hS => ?_)
        refine lv_iadd hx hb dX10_scenesNotOf_37 ?_
        refine lv_istore_n (lv' := [(3, .int (v3 + o34)), (0, .ref v0), (1, .int v1), (2, .ref q8), (4, .int v4)]) hx hb dX10_scenesNotOf_38 rfl hl (by decide) rfl (fun ls hl => ?_)
        refine lv_iinc (v := v4 + 1) (lv' := [(4, .int (v4 + 1)), (3, .int (v3 + o34)), (0, .ref v0), (1, .int v1), (2, .ref q8)]) hx hb dX10_scenesNotOf_39 hl (k := 4) rfl rfl (by decide) rfl (fun ls hl => ?_)
        refine lv_goto (tgt := 5) hx hb dX10_scenesNotOf_42 (by decide) ?_
        have hl : lv_has ls 5 [(4, .int (v4 + 1)), (3, .int (v3 + o34)), (0, .ref v0), (1, .int v1), (2, va_rf v2)] := by rw [hq8]; exact hl
        exact ih _ _ hf hk45 _ _ _ hG hS (lv_sub hl [2, 3, 4, 1, 0] rfl)
      refine lv_if_ne (tgt := 33) hx hb dX10_scenesNotOf_26 (by decide) (fun c26 => ?_) (fun c26 => ?_)
      · rw [if_neg c26] at hJ26
        refine lv_iconst (v := 0) hx hb dX10_scenesNotOf_33 (by decide) ?_
        exact hJ26 _ rfl
      · rw [if_pos c26] at hJ26
        refine lv_iconst (v := 1) hx hb dX10_scenesNotOf_29 (by decide) ?_
        refine lv_goto (tgt := 34) hx hb dX10_scenesNotOf_30 (by decide) ?_
        exact hJ26 _ rfl
set_option maxHeartbeats 4000000 in
set_option maxRecDepth 100000 in
theorem c_X10_scenesNotOf {v1 : Int32} {v2 : Option Nat} {R : Int32} (hf : f_X10_scenesNotOf gv h0 v1 v2 = some R) : Met l yX10_scenesNotOf wsX10_scenesNotOf rm_X10_scenesNotOf (va_Pc [.ref h0, .int v1, va_rf v2] (gPre D b M (gW cI cL gv) (gTy cI cL))) (gQ D b (some (.int R)) M (gW cI cL gv)) 0 0 (gA b) := by
  refine gp_met (cc := cX10_scenesNotOf) (maxL := 5) (ret := (some .int)) (by decide) rfl (by simp [lg_sl, gcat_rf, gcat_ref, gcat_int, gcat_long]) ?_
  intro p e s m below meth c X ls hG hl
  obtain ⟨H, hH0⟩ : ∃ H : Heap, H = s.heap := ⟨_, rfl⟩
  rw [← hH0] at hG ⊢
  have hS : va_S (gA b) s.heap H [] := by rw [hH0]; exact va_S.rf
  obtain ⟨locs, hlo⟩ : ∃ z : List Loc, z = [] := ⟨_, rfl⟩
  rw [← hlo] at hS ⊢
  unfold f_X10_scenesNotOf at hf
  obtain ⟨hx, hb, hr, hml, hown, hts, hlocks, hKn, hBs⟩ := id X
  have hK := hKn.1
  have gclL : gcl gLC TX5 5 wsX10_scenesNotOf := gcl_L (fun _ h => List.mem_cons_of_mem _ (List.mem_append_left _ (List.mem_append_left _ (List.mem_append_left _ (List.mem_append_left _ (List.mem_append_left _ (List.mem_append_left _ (List.mem_append_left _ (List.mem_append_right _ h))))))))) (fun _ h => List.mem_cons_of_mem _ (List.mem_append_left _ (List.mem_append_left _ (List.mem_append_left _ (List.mem_append_left _ (List.mem_append_left _ (List.mem_append_left _ (List.mem_append_right _ h)))))))) (fun _ h => List.mem_cons_of_mem _ (List.mem_append_left _ (List.mem_append_left _ (List.mem_append_left _ (List.mem_append_left _ (List.mem_append_left _ (List.mem_append_right _ h))))))) (fun _ h => List.mem_cons_of_mem _ (List.mem_append_left _ (List.mem_append_left _ (List.mem_append_left _ (List.mem_append_left _ (List.mem_append_right _ h)))))) (fun _ h => List.mem_cons_of_mem _ (List.mem_append_left _ (List.mem_append_left _ (List.mem_append_left _ (List.mem_append_right _ h))))) (fun _ h => List.mem_cons_of_mem _ (List.mem_append_left _ (List.mem_append_left _ (List.mem_append_right _ h)))) (fun _ h => List.mem_cons_of_mem _ (List.mem_append_left _ (List.mem_append_right _ h)))
  have hl : lv_has ls 5 [(0, .ref h0), (1, .int v1), (2, va_rf v2)] := by simpa [lv_args, gcat_rf, gcat_ref, gcat_int, gcat_long] using hl
  refine lv_iconst (v := 0) hx hb dX10_scenesNotOf_0 (by decide) ?_
  refine lv_istore_n (lv' := [(3, .int 0), (0, .ref h0), (1, .int v1), (2, va_rf v2)]) hx hb dX10_scenesNotOf_1 rfl hl (by decide) (by generalize v2 = zz; cases zz <;> rfl) (fun ls hl => ?_)
  refine lv_iconst (v := 0) hx hb dX10_scenesNotOf_2 (by decide) ?_
  refine lv_istore (lv' := [(4, .int 0), (3, .int 0), (0, .ref h0), (1, .int v1), (2, va_rf v2)]) hx hb dX10_scenesNotOf_3 hl (by decide) rfl (fun ls hl => ?_)
  refine w_X10_scenesNotOf_5 X _ _ _ hf (fun x5_45 hf H locs ls hG hS hl => ?_) _ _ _ hG hS (lv_sub hl [2, 3, 4, 1, 0] rfl)
  · refine lv_iload_n hx hb dX10_scenesNotOf_45 rfl (lv_at hl 0 rfl) ?_
    have hf := Option.some.inj hf
    subst hf
    exact gp_retI hx hb hr hlocks hG hS (Nat.le_of_ble_eq_true rfl) (Nat.le_of_ble_eq_true rfl) dX10_scenesNotOf_46
-- X10_unlikeScenesShownTo
abbrev rm_X10_unlikeScenesShownTo : Room := { frames := 5, cells := 0, slots := 0, locals := 113 }
set_option maxHeartbeats 4000000 in
set_option maxRecDepth 100000 in
theorem w_X10_unlikeScenesShownTo_8 {α : Type} {R : α} {K69 : Int32 → Option α} {v0 : Nat} {v1 : Int64} (X : gC p s m args meth c cX10_unlikeScenesShownTo 7 (some .int) wsX10_unlikeScenesShownTo RX10 D b (gTy cI cL)) : ∀ (n : Nat) (v3 : Int32) (v4 : Int32) (v5 : Int32), L_X10_unlikeScenesShownTo_8 K69 gv v0 v1 n v3 v4 v5 = some R → (∀ (x : Int32), K69 x = some R → ∀ (H : Heap) (locs : List Loc) (ls : Array Slot), GP D b M (gW cI cL gv) H → va_S (gA b) s.heap H locs → lv_has ls 7 [(3, .int x)] → W p l e rm_X10_unlikeScenesShownTo s m args below meth c H locs 0 0 Q (F0 m 69 ls [])) → ∀ (H : Heap) (locs : List Loc) (ls : Array Slot), GP D b M (gW cI cL gv) H → va_S (gA b) s.heap H locs → lv_has ls 7 [(0, .ref v0), (1, .long v1), (3, .int v3), (4, .int v4), (5, .int v5)] → W p l e rm_X10_unlikeScenesShownTo s m args below meth c H locs 0 0 Q (F0 m 8 ls []) := by
  obtain ⟨hx, hb, hr, hml, hown, hts, hlocks, hKn, hBs⟩ := id X
  have hK := hKn.1
  have gclX10 : gcl [8] TX10 6 wsX10_unlikeScenesShownTo := gcl_1 rfl (fun _ h => List.mem_cons_of_mem _ (List.mem_append_left _ (List.mem_append_left _ (List.mem_append_left _ (List.mem_append_left _ (List.mem_append_left _ (List.mem_append_left _ (List.mem_append_left _ (List.mem_append_right _ h)))))))))
  intro n
  induction n with
  | zero =>
    intro v3 v4 v5 hf
    cases hf
  | succ n ih =>
    intro v3 v4 v5 hf hk69 H locs ls hG hS hl
    rw [L_X10_unlikeScenesShownTo_8.eq_2] at hf
    refine lv_iload hx hb dX10_unlikeScenesShownTo_8 (lv_at hl 4 rfl) ?_
    refine lv_aload_n hx hb dX10_unlikeScenesShownTo_10 rfl (lv_at hl 0 rfl) ?_
    obtain ⟨t11, ht11, hf⟩ := gb_b hf
    refine cp_get (v := .int t11) hx hb hts gclX10 hown hK hG 3 (gfI_s ht11) (by decide) (hts _ (List.mem_of_getElem? (i := 1) rfl)) (fun _ h9 => h9) dX10_unlikeScenesShownTo_11 ?_
    refine lv_icmp_ge (tgt := 69) hx hb dX10_unlikeScenesShownTo_14 (by decide) (fun c14 => ?_) (fun c14 => ?_)
    · have hf := gb_t c14 hf
      exact (hk69 _ hf _ _ _ hG hS (lv_sub hl [2] rfl))
    · have hf := gb_f c14 hf
      refine lv_aload_n hx hb dX10_unlikeScenesShownTo_17 rfl (lv_at hl 0 rfl) ?_
      refine lv_iload hx hb dX10_unlikeScenesShownTo_18 (lv_at hl 4 rfl) ?_
      obtain ⟨o20, hc20, hf⟩ := gb_b hf
      obtain ⟨oc20, hcO20, hc20⟩ := gb_b hc20
      obtain ⟨hcg20, hci20⟩ := gfO_s hcO20
      have hci20 := List.mem_singleton.mp hci20
      obtain ⟨kc20, fc20⟩ := oc20
      dsimp only at hci20 hcg20
      subst hci20
      refine gp_callR (va_runV (As := [.int v5]) (rest := []) ⟨hx, hb, hml, hown, hts⟩ (c_X10_lampAt (l := l) (D := D) (b := b) (cI := cI) (cL := cL) hc20) (cwV 1 hts gX10_unlikeScenesShownTo_X10_lampAt rfl rfl rfl (by decide +kernel) ⟨Nat.le_of_ble_eq_true rfl, Nat.le_of_ble_eq_true rfl⟩) (gp_preV hKn hG (cp_obj hcg20) rfl) rfl rfl hl.1 rfl (lv_room (Nat.le_of_ble_eq_true rfl)) dX10_unlikeScenesShownTo_20 ⟨Nat.le_of_ble_eq_true rfl, Nat.le_of_ble_eq_true rfl⟩) hS (fun H locs hG hS => ?_)
      refine gp_astore (lv' := [(6, va_rf o20), (0, .ref v0), (1, .long v1), (3, .int v3), (4, .int v4), (5, .int v5)]) hx hb dX10_unlikeScenesShownTo_23 hl (by decide) rfl (fun ls hl => ?_)
      refine gp_aload (x := o20) hx hb dX10_unlikeScenesShownTo_25 (lv_at hl 0 rfl) ?_
      obtain ⟨j27, hj27, hf⟩ := gb_b hf
      have hJ27 : ∀ (H : Heap) (locs : List Loc) (ls : Array Slot), GP D b M (gW cI cL gv) H → va_S (gA b) s.heap H locs → lv_has ls 7 [(0, .ref v0), (1, .long v1), (3, .int j27.1), (4, .int j27.2), (5, .int v5)] → W p l e rm_X10_unlikeScenesShownTo s m args below meth c H locs 0 0 Q (F0 m 63 ls []) := by
        intro H locs ls hG hS hl
        refine lv_iinc (v := v5 + 1) (lv' := [(5, .int (v5 + 1)), (0, .ref v0), (1, .long v1), (3, .int j27.1), (4, .int j27.2)]) hx hb dX10_unlikeScenesShownTo_63 hl (k := 4) rfl rfl (by decide) rfl (fun ls hl => ?_)
        refine lv_goto (tgt := 8) hx hb dX10_unlikeScenesShownTo_66 (by decide) ?_
        exact ih _ _ _ hf hk69 _ _ _ hG hS (lv_sub hl [1, 2, 3, 4, 0] rfl)
      refine gp_ifnull (x := o20) (tgt := 63) hx hb dX10_unlikeScenesShownTo_27 (by decide) ?_ ?_
      · intro e27
        rw [e27] at hl
        rw [e27] at hj27
        dsimp only at hj27
        have hj27 := Option.some.inj hj27
        subst hj27
        exact (hJ27 H locs ls hG hS (lv_sub hl [1, 2, 3, 4, 5] rfl))
      · intro n27 e27
        rw [e27] at hl
        rw [e27] at hj27
        dsimp only at hj27
        refine lv_aload hx hb dX10_unlikeScenesShownTo_30 (lv_at hl 0 rfl) ?_
        refine lv_aload_n hx hb dX10_unlikeScenesShownTo_32 rfl (lv_at hl 1 rfl) ?_
        obtain ⟨o33, hc33, hj27⟩ := gb_b hj27
        have hrun33 : va_Run p l e rm_X10_unlikeScenesShownTo s m args below meth c H locs 0 0 0 0 (F0 m 33 ls ([.ref v0].reverse ++ .ref n27 :: [])) [] (gQ D b (some (.long o33)) M (gW cI cL gv) (Value.ref n27 :: [.ref v0]).toArray) (gA b) := by
          obtain ⟨oc, hcO, hc33⟩ := gb_b hc33
          obtain ⟨hcg, hci⟩ := gfO_s hcO
          obtain ⟨kc, fc⟩ := oc
          dsimp only at hci hcg hc33
          rcases gLC_7 hci with rfl | rfl | rfl | rfl | rfl | rfl | rfl
          · exact va_runU (As := [.ref v0]) (rest := []) ⟨hx, hb, hml, hown, hts⟩ (c_X5_glow (l := l) (D := D) (b := b) (cI := cI) (cL := cL) hc33) (va_cwU 1 hts gX10_unlikeScenesShownTo_X5_glow_u112X0 rfl rfl rfl rfl (by decide +kernel) ⟨Nat.le_of_ble_eq_true rfl, Nat.le_of_ble_eq_true rfl⟩) (gp_preV hKn hG (cp_obj hcg) rfl) rfl rfl hl.1 rfl (lv_room (Nat.le_of_ble_eq_true rfl)) dX10_unlikeScenesShownTo_33 ⟨Nat.le_of_ble_eq_true rfl, Nat.le_of_ble_eq_true rfl⟩
          · exact va_runU (As := [.ref v0]) (rest := []) ⟨hx, hb, hml, hown, hts⟩ (c_X5_glow (l := l) (D := D) (b := b) (cI := cI) (cL := cL) hc33) (va_cwU 1 hts gX10_unlikeScenesShownTo_X5_glow_u112X1 rfl rfl rfl rfl (by decide +kernel) ⟨Nat.le_of_ble_eq_true rfl, Nat.le_of_ble_eq_true rfl⟩) (gp_preV hKn hG (cp_obj hcg) rfl) rfl rfl hl.1 rfl (lv_room (Nat.le_of_ble_eq_true rfl)) dX10_unlikeScenesShownTo_33 ⟨Nat.le_of_ble_eq_true rfl, Nat.le_of_ble_eq_true rfl⟩
          · exact va_runU (As := [.ref v0]) (rest := []) ⟨hx, hb, hml, hown, hts⟩ (c_X5_glow (l := l) (D := D) (b := b) (cI := cI) (cL := cL) hc33) (va_cwU 1 hts gX10_unlikeScenesShownTo_X5_glow_u112X3 rfl rfl rfl rfl (by decide +kernel) ⟨Nat.le_of_ble_eq_true rfl, Nat.le_of_ble_eq_true rfl⟩) (gp_preV hKn hG (cp_obj hcg) rfl) rfl rfl hl.1 rfl (lv_room (Nat.le_of_ble_eq_true rfl)) dX10_unlikeScenesShownTo_33 ⟨Nat.le_of_ble_eq_true rfl, Nat.le_of_ble_eq_true rfl⟩
          · exact va_runU (As := [.ref v0]) (rest := []) ⟨hx, hb, hml, hown, hts⟩ (c_X5_glow (l := l) (D := D) (b := b) (cI := cI) (cL := cL) hc33) (va_cwU 1 hts gX10_unlikeScenesShownTo_X5_glow_u112X4 rfl rfl rfl rfl (by decide +kernel) ⟨Nat.le_of_ble_eq_true rfl, Nat.le_of_ble_eq_true rfl⟩) (gp_preV hKn hG (cp_obj hcg) rfl) rfl rfl hl.1 rfl (lv_room (Nat.le_of_ble_eq_true rfl)) dX10_unlikeScenesShownTo_33 ⟨Nat.le_of_ble_eq_true rfl, Nat.le_of_ble_eq_true rfl⟩
          · exact va_runV (As := [.ref v0]) (rest := []) ⟨hx, hb, hml, hown, hts⟩ (c_X5_glow (l := l) (D := D) (b := b) (cI := cI) (cL := cL) hc33) (cwV 1 hts gX10_unlikeScenesShownTo_X5_glow rfl rfl rfl (by decide +kernel) ⟨Nat.le_of_ble_eq_true rfl, Nat.le_of_ble_eq_true rfl⟩) (gp_preV hKn hG (cp_obj hcg) rfl) rfl rfl hl.1 rfl (lv_room (Nat.le_of_ble_eq_true rfl)) dX10_unlikeScenesShownTo_33 ⟨Nat.le_of_ble_eq_true rfl, Nat.le_of_ble_eq_true rfl⟩
          · exact va_runU (As := [.ref v0]) (rest := []) ⟨hx, hb, hml, hown, hts⟩ (c_X5_glow (l := l) (D := D) (b := b) (cI := cI) (cL := cL) hc33) (va_cwU 1 hts gX10_unlikeScenesShownTo_X5_glow_u112X7 rfl rfl rfl rfl (by decide +kernel) ⟨Nat.le_of_ble_eq_true rfl, Nat.le_of_ble_eq_true rfl⟩) (gp_preV hKn hG (cp_obj hcg) rfl) rfl rfl hl.1 rfl (lv_room (Nat.le_of_ble_eq_true rfl)) dX10_unlikeScenesShownTo_33 ⟨Nat.le_of_ble_eq_true rfl, Nat.le_of_ble_eq_true rfl⟩
          · exact va_runU (As := [.ref v0]) (rest := []) ⟨hx, hb, hml, hown, hts⟩ (c_X5_glow (l := l) (D := D) (b := b) (cI := cI) (cL := cL) hc33) (va_cwU 1 hts gX10_unlikeScenesShownTo_X5_glow_u112X8 rfl rfl rfl rfl (by decide +kernel) ⟨Nat.le_of_ble_eq_true rfl, Nat.le_of_ble_eq_true rfl⟩) (gp_preV hKn hG (cp_obj hcg) rfl) rfl rfl hl.1 rfl (lv_room (Nat.le_of_ble_eq_true rfl)) dX10_unlikeScenesShownTo_33 ⟨Nat.le_of_ble_eq_true rfl, Nat.le_of_ble_eq_true rfl⟩
        refine gp_callL hrun33 hS (fun H locs hG hS => ?_)
        refine lv_lload_n hx hb dX10_unlikeScenesShownTo_36 rfl (lv_at hl 2 rfl) ?_
        refine lv_land hx hb dX10_unlikeScenesShownTo_37 ?_
        refine lv_lconst (v := (0 : Int64)) hx hb dX10_unlikeScenesShownTo_38 (by decide) ?_
        refine W.lcmp hx hb dX10_unlikeScenesShownTo_39 ?_
        refine lv_if_eq (tgt := 63) hx hb dX10_unlikeScenesShownTo_40 (by decide) (fun c40 => ?_) (fun c40 => ?_)
        · have hj27 := gb_t c40 hj27
          have hj27 := Option.some.inj hj27
          subst hj27
          exact (hJ27 H locs ls hG hS (lv_sub hl [1, 2, 3, 4, 5] rfl))
        · have hj27 := gb_f c40 hj27
          refine lv_iload_n hx hb dX10_unlikeScenesShownTo_43 rfl (lv_at hl 3 rfl) ?_
          refine lv_aload_n hx hb dX10_unlikeScenesShownTo_44 rfl (lv_at hl 1 rfl) ?_
          refine lv_iload hx hb dX10_unlikeScenesShownTo_45 (lv_at hl 4 rfl) ?_
          refine lv_aload hx hb dX10_unlikeScenesShownTo_47 (lv_at hl 0 rfl) ?_
          obtain ⟨o49, hc49, hj27⟩ := gb_b hj27
          obtain ⟨oc49, hcO49, hc49⟩ := gb_b hc49
          obtain ⟨hcg49, hci49⟩ := gfO_s hcO49
          have hci49 := List.mem_singleton.mp hci49
          obtain ⟨kc49, fc49⟩ := oc49
          dsimp only at hci49 hcg49
          subst hci49
          refine gp_callI (va_runV (As := [.int v4, .ref n27]) (rest := [.int v3]) ⟨hx, hb, hml, hown, hts⟩ (c_X10_scenesNotOf (l := l) (D := D) (b := b) (cI := cI) (cL := cL) hc49) (cwV 2 hts gX10_unlikeScenesShownTo_X10_scenesNotOf rfl rfl rfl (by decide +kernel) ⟨Nat.le_of_ble_eq_true rfl, Nat.le_of_ble_eq_true rfl⟩) (gp_preV hKn hG (cp_obj hcg49) rfl) rfl rfl hl.1 rfl (lv_room (Nat.le_of_ble_eq_true rfl)) dX10_unlikeScenesShownTo_49 ⟨Nat.le_of_ble_eq_true rfl, Nat.le_of_ble_eq_true rfl⟩) hS (fun H locs hG hS => ?_)
          refine lv_iadd hx hb dX10_unlikeScenesShownTo_52 ?_
          refine lv_istore_n (lv' := [(3, .int (v3 + o49)), (6, .ref n27), (0, .ref v0), (1, .long v1), (4, .int v4), (5, .int v5)]) hx hb dX10_unlikeScenesShownTo_53 rfl hl (by decide) rfl (fun ls hl => ?_)
          refine lv_iload hx hb dX10_unlikeScenesShownTo_54 (lv_at hl 4 rfl) ?_
          refine lv_iconst (v := 1) hx hb dX10_unlikeScenesShownTo_56 (by decide) ?_
          refine lv_iload hx hb dX10_unlikeScenesShownTo_57 (lv_at hl 5 rfl) ?_
          refine lv_ishl hx hb dX10_unlikeScenesShownTo_59 ?_
          refine lv_ior hx hb dX10_unlikeScenesShownTo_60 ?_
          refine lv_istore (lv' := [(4, .int (v4 ||| ((1 : Int32) <<< (v5 &&& 31)))), (3, .int (v3 + o49)), (6, .ref n27), (0, .ref v0), (1, .long v1), (5, .int v5)]) hx hb dX10_unlikeScenesShownTo_61 hl (by decide) rfl (fun ls hl => ?_)
          have hj27 := Option.some.inj hj27
          subst hj27
          exact (hJ27 H locs ls hG hS (lv_sub hl [3, 4, 1, 0, 5] rfl))
set_option maxHeartbeats 4000000 in
set_option maxRecDepth 100000 in
theorem c_X10_unlikeScenesShownTo {v1 : Int64} {R : Int32} (hf : f_X10_unlikeScenesShownTo gv h0 v1 = some R) : Met l yX10_unlikeScenesShownTo wsX10_unlikeScenesShownTo rm_X10_unlikeScenesShownTo (va_Pc [.ref h0, .long v1] (gPre D b M (gW cI cL gv) (gTy cI cL))) (gQ D b (some (.int R)) M (gW cI cL gv)) 0 0 (gA b) := by
  refine gp_met (cc := cX10_unlikeScenesShownTo) (maxL := 7) (ret := (some .int)) (by decide) rfl (Nat.le_of_ble_eq_true rfl) ?_
  intro p e s m below meth c X ls hG hl
  obtain ⟨H, hH0⟩ : ∃ H : Heap, H = s.heap := ⟨_, rfl⟩
  rw [← hH0] at hG ⊢
  have hS : va_S (gA b) s.heap H [] := by rw [hH0]; exact va_S.rf
  obtain ⟨locs, hlo⟩ : ∃ z : List Loc, z = [] := ⟨_, rfl⟩
  rw [← hlo] at hS ⊢
  unfold f_X10_unlikeScenesShownTo at hf
  obtain ⟨hx, hb, hr, hml, hown, hts, hlocks, hKn, hBs⟩ := id X
  have hK := hKn.1
  have gclX10 : gcl [8] TX10 6 wsX10_unlikeScenesShownTo := gcl_1 rfl (fun _ h => List.mem_cons_of_mem _ (List.mem_append_left _ (List.mem_append_left _ (List.mem_append_left _ (List.mem_append_left _ (List.mem_append_left _ (List.mem_append_left _ (List.mem_append_left _ (List.mem_append_right _ h)))))))))
  have hl : lv_has ls 7 [(0, .ref h0), (1, .long v1)] := hl
  refine lv_iconst (v := 0) hx hb dX10_unlikeScenesShownTo_0 (by decide) ?_
  refine lv_istore_n (lv' := [(3, .int 0), (0, .ref h0), (1, .long v1)]) hx hb dX10_unlikeScenesShownTo_1 rfl hl (by decide) rfl (fun ls hl => ?_)
  refine lv_iconst (v := 0) hx hb dX10_unlikeScenesShownTo_2 (by decide) ?_
  refine lv_istore (lv' := [(4, .int 0), (3, .int 0), (0, .ref h0), (1, .long v1)]) hx hb dX10_unlikeScenesShownTo_3 hl (by decide) rfl (fun ls hl => ?_)
  refine lv_iconst (v := 0) hx hb dX10_unlikeScenesShownTo_5 (by decide) ?_
  refine lv_istore (lv' := [(5, .int 0), (4, .int 0), (3, .int 0), (0, .ref h0), (1, .long v1)]) hx hb dX10_unlikeScenesShownTo_6 hl (by decide) rfl (fun ls hl => ?_)
  refine w_X10_unlikeScenesShownTo_8 X _ _ _ _ hf (fun x8_69 hf H locs ls hG hS hl => ?_) _ _ _ hG hS (lv_sub hl [3, 4, 2, 1, 0] rfl)
  · refine lv_iload_n hx hb dX10_unlikeScenesShownTo_69 rfl (lv_at hl 0 rfl) ?_
    have hf := Option.some.inj hf
    subst hf
    exact gp_retI hx hb hr hlocks hG hS (Nat.le_of_ble_eq_true rfl) (Nat.le_of_ble_eq_true rfl) dX10_unlikeScenesShownTo_70
-- X10_whereabouts
abbrev rm_X10_whereabouts : Room := { frames := 4, cells := 0, slots := 0, locals := 88 }
set_option maxHeartbeats 4000000 in
set_option maxRecDepth 100000 in
theorem w_X10_whereabouts_8 {α : Type} {R : α} {K79 : Int64 → Option α} {v0 : Nat} {v1 : Int32} {v2 : Int32} (X : gC p s m args meth c cX10_whereabouts 7 (some .long) wsX10_whereabouts RX10 D b (gTy cI cL)) : ∀ (n : Nat) (v3 : Int64) (v5 : Int32), L_X10_whereabouts_8 K79 gv v0 v1 v2 n v3 v5 = some R → (∀ (x : Int64), K79 x = some R → ∀ (H : Heap) (locs : List Loc) (ls : Array Slot), GP D b M (gW cI cL gv) H → va_S (gA b) s.heap H locs → lv_has ls 7 [(3, .long x)] → W p l e rm_X10_whereabouts s m args below meth c H locs 0 0 Q (F0 m 79 ls [])) → ∀ (H : Heap) (locs : List Loc) (ls : Array Slot), GP D b M (gW cI cL gv) H → va_S (gA b) s.heap H locs → lv_has ls 7 [(0, .ref v0), (1, .int v1), (2, .int v2), (3, .long v3), (5, .int v5)] → W p l e rm_X10_whereabouts s m args below meth c H locs 0 0 Q (F0 m 8 ls []) := by
  obtain ⟨hx, hb, hr, hml, hown, hts, hlocks, hKn, hBs⟩ := id X
  have hK := hKn.1
  have gclX10 : gcl [8] TX10 6 wsX10_whereabouts := gcl_1 rfl (fun _ h => List.mem_cons_of_mem _ (List.mem_append_left _ (List.mem_append_left _ (List.mem_append_left _ (List.mem_append_left _ (List.mem_append_left _ (List.mem_append_left _ (List.mem_append_left _ (List.mem_append_right _ h)))))))))
  intro n
  induction n with
  | zero =>
    intro v3 v5 hf
    cases hf
  | succ n ih =>
    intro v3 v5 hf hk79 H locs ls hG hS hl
    rw [L_X10_whereabouts_8.eq_2] at hf
    refine lv_iload hx hb dX10_whereabouts_8 (lv_at hl 4 rfl) ?_
    refine lv_aload_n hx hb dX10_whereabouts_10 rfl (lv_at hl 0 rfl) ?_
    obtain ⟨t11, ht11, hf⟩ := gb_b hf
    refine cp_get (v := .int t11) hx hb hts gclX10 hown hK hG 3 (gfI_s ht11) (by decide) (hts _ (List.mem_of_getElem? (i := 1) rfl)) (fun _ h9 => h9) dX10_whereabouts_11 ?_
    refine lv_icmp_ge (tgt := 79) hx hb dX10_whereabouts_14 (by decide) (fun c14 => ?_) (fun c14 => ?_)
    · have hf := gb_t c14 hf
      exact (hk79 _ hf _ _ _ hG hS (lv_sub hl [3] rfl))
    · have hf := gb_f c14 hf
      refine lv_aload_n hx hb dX10_whereabouts_17 rfl (lv_at hl 0 rfl) ?_
      refine lv_iload hx hb dX10_whereabouts_18 (lv_at hl 4 rfl) ?_
      obtain ⟨o20, hc20, hf⟩ := gb_b hf
      obtain ⟨oc20, hcO20, hc20⟩ := gb_b hc20
      obtain ⟨hcg20, hci20⟩ := gfO_s hcO20
      have hci20 := List.mem_singleton.mp hci20
      obtain ⟨kc20, fc20⟩ := oc20
      dsimp only at hci20 hcg20
      subst hci20
      refine gp_callR (va_runV (As := [.int v5]) (rest := []) ⟨hx, hb, hml, hown, hts⟩ (c_X10_lampAt (l := l) (D := D) (b := b) (cI := cI) (cL := cL) hc20) (cwV 1 hts gX10_whereabouts_X10_lampAt rfl rfl rfl (by decide +kernel) ⟨Nat.le_of_ble_eq_true rfl, Nat.le_of_ble_eq_true rfl⟩) (gp_preV hKn hG (cp_obj hcg20) rfl) rfl rfl hl.1 rfl (lv_room (Nat.le_of_ble_eq_true rfl)) dX10_whereabouts_20 ⟨Nat.le_of_ble_eq_true rfl, Nat.le_of_ble_eq_true rfl⟩) hS (fun H locs hG hS => ?_)
      refine gp_astore (lv' := [(6, va_rf o20), (0, .ref v0), (1, .int v1), (2, .int v2), (3, .long v3), (5, .int v5)]) hx hb dX10_whereabouts_23 hl (by decide) rfl (fun ls hl => ?_)
      refine gp_aload (x := o20) hx hb dX10_whereabouts_25 (lv_at hl 0 rfl) ?_
      obtain ⟨j27, hj27, hf⟩ := gb_b hf
      have hJ27 : ∀ (H : Heap) (locs : List Loc) (ls : Array Slot), GP D b M (gW cI cL gv) H → va_S (gA b) s.heap H locs → lv_has ls 7 [(0, .ref v0), (1, .int v1), (2, .int v2), (3, .long j27), (5, .int v5)] → W p l e rm_X10_whereabouts s m args below meth c H locs 0 0 Q (F0 m 73 ls []) := by
        intro H locs ls hG hS hl
        refine lv_iinc (v := v5 + 1) (lv' := [(5, .int (v5 + 1)), (0, .ref v0), (1, .int v1), (2, .int v2), (3, .long j27)]) hx hb dX10_whereabouts_73 hl (k := 4) rfl rfl (by decide) rfl (fun ls hl => ?_)
        refine lv_goto (tgt := 8) hx hb dX10_whereabouts_76 (by decide) ?_
        exact ih _ _ hf hk79 _ _ _ hG hS (lv_sub hl [1, 2, 3, 4, 0] rfl)
      refine gp_ifnull (x := o20) (tgt := 73) hx hb dX10_whereabouts_27 (by decide) ?_ ?_
      · intro e27
        rw [e27] at hl
        rw [e27] at hj27
        dsimp only at hj27
        have hj27 := Option.some.inj hj27
        subst hj27
        exact (hJ27 H locs ls hG hS (lv_sub hl [1, 2, 3, 4, 5] rfl))
      · intro n27 e27
        rw [e27] at hl
        rw [e27] at hj27
        dsimp only at hj27
        refine lv_lload_n hx hb dX10_whereabouts_30 rfl (lv_at hl 4 rfl) ?_
        refine lv_aload hx hb dX10_whereabouts_31 (lv_at hl 0 rfl) ?_
        refine lv_iload_n hx hb dX10_whereabouts_33 rfl (lv_at hl 2 rfl) ?_
        refine lv_iload_n hx hb dX10_whereabouts_34 rfl (lv_at hl 3 rfl) ?_
        refine lv_aload_n hx hb dX10_whereabouts_35 rfl (lv_at hl 1 rfl) ?_
        obtain ⟨o36, hc36, hj27⟩ := gb_b hj27
        obtain ⟨oc36, hcO36, hc36⟩ := gb_b hc36
        obtain ⟨hcg36, hci36⟩ := gfO_s hcO36
        have hci36 := List.mem_singleton.mp hci36
        obtain ⟨kc36, fc36⟩ := oc36
        dsimp only at hci36 hcg36
        subst hci36
        refine gp_callL (va_runV (As := []) (rest := [.int v2, .int v1, .ref n27, .long v3]) ⟨hx, hb, hml, hown, hts⟩ (c_X10_free (l := l) (D := D) (b := b) (cI := cI) (cL := cL) hc36) (cwV 0 hts gX10_whereabouts_X10_free rfl rfl rfl (by decide +kernel) ⟨Nat.le_of_ble_eq_true rfl, Nat.le_of_ble_eq_true rfl⟩) (gp_preV hKn hG (cp_obj hcg36) rfl) rfl rfl hl.1 rfl (lv_room (Nat.le_of_ble_eq_true rfl)) dX10_whereabouts_36 ⟨Nat.le_of_ble_eq_true rfl, Nat.le_of_ble_eq_true rfl⟩) hS (fun H locs hG hS => ?_)
        obtain ⟨o39, hc39, hj27⟩ := gb_b hj27
        have hrun39 : va_Run p l e rm_X10_whereabouts s m args below meth c H locs 0 0 0 0 (F0 m 39 ls ([.int v1, .int v2, .long o36].reverse ++ .ref n27 :: [.long v3])) [.long v3] (gQ D b (some (.long o39)) M (gW cI cL gv) (Value.ref n27 :: [.int v1, .int v2, .long o36]).toArray) (gA b) := by
          obtain ⟨oc, hcO, hc39⟩ := gb_b hc39
          obtain ⟨hcg, hci⟩ := gfO_s hcO
          obtain ⟨kc, fc⟩ := oc
          dsimp only at hci hcg hc39
          rcases gLC_7 hci with rfl | rfl | rfl | rfl | rfl | rfl | rfl
          · exact va_runU (As := [.int v1, .int v2, .long o36]) (rest := [.long v3]) ⟨hx, hb, hml, hown, hts⟩ (c_X5_leftByScenes (l := l) (D := D) (b := b) (cI := cI) (cL := cL) hc39) (va_cwU 3 hts gX10_whereabouts_X5_leftByScenes_u144X0 rfl rfl rfl rfl (by decide +kernel) ⟨Nat.le_of_ble_eq_true rfl, Nat.le_of_ble_eq_true rfl⟩) (gp_preV hKn hG (cp_obj hcg) rfl) rfl rfl hl.1 rfl (lv_room (Nat.le_of_ble_eq_true rfl)) dX10_whereabouts_39 ⟨Nat.le_of_ble_eq_true rfl, Nat.le_of_ble_eq_true rfl⟩
          · exact va_runU (As := [.int v1, .int v2, .long o36]) (rest := [.long v3]) ⟨hx, hb, hml, hown, hts⟩ (c_X5_leftByScenes (l := l) (D := D) (b := b) (cI := cI) (cL := cL) hc39) (va_cwU 3 hts gX10_whereabouts_X5_leftByScenes_u144X1 rfl rfl rfl rfl (by decide +kernel) ⟨Nat.le_of_ble_eq_true rfl, Nat.le_of_ble_eq_true rfl⟩) (gp_preV hKn hG (cp_obj hcg) rfl) rfl rfl hl.1 rfl (lv_room (Nat.le_of_ble_eq_true rfl)) dX10_whereabouts_39 ⟨Nat.le_of_ble_eq_true rfl, Nat.le_of_ble_eq_true rfl⟩
          · exact va_runU (As := [.int v1, .int v2, .long o36]) (rest := [.long v3]) ⟨hx, hb, hml, hown, hts⟩ (c_X5_leftByScenes (l := l) (D := D) (b := b) (cI := cI) (cL := cL) hc39) (va_cwU 3 hts gX10_whereabouts_X5_leftByScenes_u144X3 rfl rfl rfl rfl (by decide +kernel) ⟨Nat.le_of_ble_eq_true rfl, Nat.le_of_ble_eq_true rfl⟩) (gp_preV hKn hG (cp_obj hcg) rfl) rfl rfl hl.1 rfl (lv_room (Nat.le_of_ble_eq_true rfl)) dX10_whereabouts_39 ⟨Nat.le_of_ble_eq_true rfl, Nat.le_of_ble_eq_true rfl⟩
          · exact va_runU (As := [.int v1, .int v2, .long o36]) (rest := [.long v3]) ⟨hx, hb, hml, hown, hts⟩ (c_X5_leftByScenes (l := l) (D := D) (b := b) (cI := cI) (cL := cL) hc39) (va_cwU 3 hts gX10_whereabouts_X5_leftByScenes_u144X4 rfl rfl rfl rfl (by decide +kernel) ⟨Nat.le_of_ble_eq_true rfl, Nat.le_of_ble_eq_true rfl⟩) (gp_preV hKn hG (cp_obj hcg) rfl) rfl rfl hl.1 rfl (lv_room (Nat.le_of_ble_eq_true rfl)) dX10_whereabouts_39 ⟨Nat.le_of_ble_eq_true rfl, Nat.le_of_ble_eq_true rfl⟩
          · exact va_runV (As := [.int v1, .int v2, .long o36]) (rest := [.long v3]) ⟨hx, hb, hml, hown, hts⟩ (c_X5_leftByScenes (l := l) (D := D) (b := b) (cI := cI) (cL := cL) hc39) (cwV 3 hts gX10_whereabouts_X5_leftByScenes rfl rfl rfl (by decide +kernel) ⟨Nat.le_of_ble_eq_true rfl, Nat.le_of_ble_eq_true rfl⟩) (gp_preV hKn hG (cp_obj hcg) rfl) rfl rfl hl.1 rfl (lv_room (Nat.le_of_ble_eq_true rfl)) dX10_whereabouts_39 ⟨Nat.le_of_ble_eq_true rfl, Nat.le_of_ble_eq_true rfl⟩
          · exact va_runU (As := [.int v1, .int v2, .long o36]) (rest := [.long v3]) ⟨hx, hb, hml, hown, hts⟩ (c_X5_leftByScenes (l := l) (D := D) (b := b) (cI := cI) (cL := cL) hc39) (va_cwU 3 hts gX10_whereabouts_X5_leftByScenes_u144X7 rfl rfl rfl rfl (by decide +kernel) ⟨Nat.le_of_ble_eq_true rfl, Nat.le_of_ble_eq_true rfl⟩) (gp_preV hKn hG (cp_obj hcg) rfl) rfl rfl hl.1 rfl (lv_room (Nat.le_of_ble_eq_true rfl)) dX10_whereabouts_39 ⟨Nat.le_of_ble_eq_true rfl, Nat.le_of_ble_eq_true rfl⟩
          · exact va_runU (As := [.int v1, .int v2, .long o36]) (rest := [.long v3]) ⟨hx, hb, hml, hown, hts⟩ (c_X5_leftByScenes (l := l) (D := D) (b := b) (cI := cI) (cL := cL) hc39) (va_cwU 3 hts gX10_whereabouts_X5_leftByScenes_u144X8 rfl rfl rfl rfl (by decide +kernel) ⟨Nat.le_of_ble_eq_true rfl, Nat.le_of_ble_eq_true rfl⟩) (gp_preV hKn hG (cp_obj hcg) rfl) rfl rfl hl.1 rfl (lv_room (Nat.le_of_ble_eq_true rfl)) dX10_whereabouts_39 ⟨Nat.le_of_ble_eq_true rfl, Nat.le_of_ble_eq_true rfl⟩
        refine gp_callL hrun39 hS (fun H locs hG hS => ?_)
        refine lv_land hx hb dX10_whereabouts_42 ?_
        refine lv_lstore_n (lv' := [(3, .long (v3 &&& o39)), (6, .ref n27), (0, .ref v0), (1, .int v1), (2, .int v2), (5, .int v5)]) hx hb dX10_whereabouts_43 rfl hl (by decide) rfl (fun ls hl => ?_)
        refine lv_lload_n hx hb dX10_whereabouts_44 rfl (lv_at hl 0 rfl) ?_
        refine lv_aload hx hb dX10_whereabouts_45 (lv_at hl 1 rfl) ?_
        refine lv_iload_n hx hb dX10_whereabouts_47 rfl (lv_at hl 3 rfl) ?_
        refine lv_iload_n hx hb dX10_whereabouts_48 rfl (lv_at hl 4 rfl) ?_
        obtain ⟨o49, hc49, hj27⟩ := gb_b hj27
        have hrun49 : va_Run p l e rm_X10_whereabouts s m args below meth c H locs 0 0 0 0 (F0 m 49 ls ([.int v1, .int v2].reverse ++ .ref n27 :: [.long (v3 &&& o39)])) [.long (v3 &&& o39)] (gQ D b (some (.int o49)) M (gW cI cL gv) (Value.ref n27 :: [.int v1, .int v2]).toArray) (gA b) := by
          obtain ⟨oc, hcO, hc49⟩ := gb_b hc49
          obtain ⟨hcg, hci⟩ := gfO_s hcO
          obtain ⟨kc, fc⟩ := oc
          dsimp only at hci hcg hc49
          rcases gLC_7 hci with rfl | rfl | rfl | rfl | rfl | rfl | rfl
          · exact va_runU (As := [.int v1, .int v2]) (rest := [.long (v3 &&& o39)]) ⟨hx, hb, hml, hown, hts⟩ (c_X5_missed (l := l) (D := D) (b := b) (cI := cI) (cL := cL) hc49) (va_cwU 2 hts gX10_whereabouts_X5_missed_u147X0 rfl rfl rfl rfl (by decide +kernel) ⟨Nat.le_of_ble_eq_true rfl, Nat.le_of_ble_eq_true rfl⟩) (gp_preV hKn hG (cp_obj hcg) rfl) rfl rfl hl.1 rfl (lv_room (Nat.le_of_ble_eq_true rfl)) dX10_whereabouts_49 ⟨Nat.le_of_ble_eq_true rfl, Nat.le_of_ble_eq_true rfl⟩
          · exact va_runU (As := [.int v1, .int v2]) (rest := [.long (v3 &&& o39)]) ⟨hx, hb, hml, hown, hts⟩ (c_X5_missed (l := l) (D := D) (b := b) (cI := cI) (cL := cL) hc49) (va_cwU 2 hts gX10_whereabouts_X5_missed_u147X1 rfl rfl rfl rfl (by decide +kernel) ⟨Nat.le_of_ble_eq_true rfl, Nat.le_of_ble_eq_true rfl⟩) (gp_preV hKn hG (cp_obj hcg) rfl) rfl rfl hl.1 rfl (lv_room (Nat.le_of_ble_eq_true rfl)) dX10_whereabouts_49 ⟨Nat.le_of_ble_eq_true rfl, Nat.le_of_ble_eq_true rfl⟩
          · exact va_runU (As := [.int v1, .int v2]) (rest := [.long (v3 &&& o39)]) ⟨hx, hb, hml, hown, hts⟩ (c_X5_missed (l := l) (D := D) (b := b) (cI := cI) (cL := cL) hc49) (va_cwU 2 hts gX10_whereabouts_X5_missed_u147X3 rfl rfl rfl rfl (by decide +kernel) ⟨Nat.le_of_ble_eq_true rfl, Nat.le_of_ble_eq_true rfl⟩) (gp_preV hKn hG (cp_obj hcg) rfl) rfl rfl hl.1 rfl (lv_room (Nat.le_of_ble_eq_true rfl)) dX10_whereabouts_49 ⟨Nat.le_of_ble_eq_true rfl, Nat.le_of_ble_eq_true rfl⟩
          · exact va_runU (As := [.int v1, .int v2]) (rest := [.long (v3 &&& o39)]) ⟨hx, hb, hml, hown, hts⟩ (c_X5_missed (l := l) (D := D) (b := b) (cI := cI) (cL := cL) hc49) (va_cwU 2 hts gX10_whereabouts_X5_missed_u147X4 rfl rfl rfl rfl (by decide +kernel) ⟨Nat.le_of_ble_eq_true rfl, Nat.le_of_ble_eq_true rfl⟩) (gp_preV hKn hG (cp_obj hcg) rfl) rfl rfl hl.1 rfl (lv_room (Nat.le_of_ble_eq_true rfl)) dX10_whereabouts_49 ⟨Nat.le_of_ble_eq_true rfl, Nat.le_of_ble_eq_true rfl⟩
          · exact va_runV (As := [.int v1, .int v2]) (rest := [.long (v3 &&& o39)]) ⟨hx, hb, hml, hown, hts⟩ (c_X5_missed (l := l) (D := D) (b := b) (cI := cI) (cL := cL) hc49) (cwV 2 hts gX10_whereabouts_X5_missed rfl rfl rfl (by decide +kernel) ⟨Nat.le_of_ble_eq_true rfl, Nat.le_of_ble_eq_true rfl⟩) (gp_preV hKn hG (cp_obj hcg) rfl) rfl rfl hl.1 rfl (lv_room (Nat.le_of_ble_eq_true rfl)) dX10_whereabouts_49 ⟨Nat.le_of_ble_eq_true rfl, Nat.le_of_ble_eq_true rfl⟩
          · exact va_runU (As := [.int v1, .int v2]) (rest := [.long (v3 &&& o39)]) ⟨hx, hb, hml, hown, hts⟩ (c_X5_missed (l := l) (D := D) (b := b) (cI := cI) (cL := cL) hc49) (va_cwU 2 hts gX10_whereabouts_X5_missed_u147X7 rfl rfl rfl rfl (by decide +kernel) ⟨Nat.le_of_ble_eq_true rfl, Nat.le_of_ble_eq_true rfl⟩) (gp_preV hKn hG (cp_obj hcg) rfl) rfl rfl hl.1 rfl (lv_room (Nat.le_of_ble_eq_true rfl)) dX10_whereabouts_49 ⟨Nat.le_of_ble_eq_true rfl, Nat.le_of_ble_eq_true rfl⟩
          · exact va_runU (As := [.int v1, .int v2]) (rest := [.long (v3 &&& o39)]) ⟨hx, hb, hml, hown, hts⟩ (c_X5_missed (l := l) (D := D) (b := b) (cI := cI) (cL := cL) hc49) (va_cwU 2 hts gX10_whereabouts_X5_missed_u147X8 rfl rfl rfl rfl (by decide +kernel) ⟨Nat.le_of_ble_eq_true rfl, Nat.le_of_ble_eq_true rfl⟩) (gp_preV hKn hG (cp_obj hcg) rfl) rfl rfl hl.1 rfl (lv_room (Nat.le_of_ble_eq_true rfl)) dX10_whereabouts_49 ⟨Nat.le_of_ble_eq_true rfl, Nat.le_of_ble_eq_true rfl⟩
        refine gp_callI hrun49 hS (fun H locs hG hS => ?_)
        obtain ⟨j52, hj52, hj27⟩ := gb_b hj27
        have hJ52 : ∀ (H : Heap) (locs : List Loc) (ls : Array Slot), GP D b M (gW cI cL gv) H → va_S (gA b) s.heap H locs → lv_has ls 7 [(0, .ref v0), (1, .int v1), (2, .int v2), (5, .int v5)] → W p l e rm_X10_whereabouts s m args below meth c H locs 0 0 Q (F0 m 71 ls [.long j52, .long (v3 &&& o39)]) := by
          intro H locs ls hG hS hl
          refine lv_land hx hb dX10_whereabouts_71 ?_
          refine lv_lstore_n (lv' := [(3, .long ((v3 &&& o39) &&& j52)), (0, .ref v0), (1, .int v1), (2, .int v2), (5, .int v5)]) hx hb dX10_whereabouts_72 rfl hl (by decide) rfl (fun ls hl => ?_)
          have hj27 := Option.some.inj hj27
          subst hj27
          exact (hJ27 H locs ls hG hS (lv_sub hl [1, 2, 3, 0, 4] rfl))
        refine lv_if_eq (tgt := 68) hx hb dX10_whereabouts_52 (by decide) (fun c52 => ?_) (fun c52 => ?_)
        · have hj52 := gb_t c52 hj52
          refine lv_ldc2 (v := (68719476735 : Int64)) hx hb hown (hts _ (List.mem_of_getElem? (i := 3) rfl)) dX10_whereabouts_68 ?_
          have hj52 := Option.some.inj hj52
          subst hj52
          exact (hJ52 H locs ls hG hS (lv_sub hl [2, 3, 4, 5] rfl))
        · have hj52 := gb_f c52 hj52
          refine lv_aload hx hb dX10_whereabouts_55 (lv_at hl 1 rfl) ?_
          refine lv_aload_n hx hb dX10_whereabouts_57 rfl (lv_at hl 2 rfl) ?_
          obtain ⟨o58, hc58, hj52⟩ := gb_b hj52
          have hrun58 : va_Run p l e rm_X10_whereabouts s m args below meth c H locs 0 0 0 0 (F0 m 58 ls ([.ref v0].reverse ++ .ref n27 :: [.long (v3 &&& o39)])) [.long (v3 &&& o39)] (gQ D b (some (.long o58)) M (gW cI cL gv) (Value.ref n27 :: [.ref v0]).toArray) (gA b) := by
            obtain ⟨oc, hcO, hc58⟩ := gb_b hc58
            obtain ⟨hcg, hci⟩ := gfO_s hcO
            obtain ⟨kc, fc⟩ := oc
            dsimp only at hci hcg hc58
            rcases gLC_7 hci with rfl | rfl | rfl | rfl | rfl | rfl | rfl
            · exact va_runU (As := [.ref v0]) (rest := [.long (v3 &&& o39)]) ⟨hx, hb, hml, hown, hts⟩ (c_X5_glow (l := l) (D := D) (b := b) (cI := cI) (cL := cL) hc58) (va_cwU 1 hts gX10_whereabouts_X5_glow_u112X0 rfl rfl rfl rfl (by decide +kernel) ⟨Nat.le_of_ble_eq_true rfl, Nat.le_of_ble_eq_true rfl⟩) (gp_preV hKn hG (cp_obj hcg) rfl) rfl rfl hl.1 rfl (lv_room (Nat.le_of_ble_eq_true rfl)) dX10_whereabouts_58 ⟨Nat.le_of_ble_eq_true rfl, Nat.le_of_ble_eq_true rfl⟩
            · exact va_runU (As := [.ref v0]) (rest := [.long (v3 &&& o39)]) ⟨hx, hb, hml, hown, hts⟩ (c_X5_glow (l := l) (D := D) (b := b) (cI := cI) (cL := cL) hc58) (va_cwU 1 hts gX10_whereabouts_X5_glow_u112X1 rfl rfl rfl rfl (by decide +kernel) ⟨Nat.le_of_ble_eq_true rfl, Nat.le_of_ble_eq_true rfl⟩) (gp_preV hKn hG (cp_obj hcg) rfl) rfl rfl hl.1 rfl (lv_room (Nat.le_of_ble_eq_true rfl)) dX10_whereabouts_58 ⟨Nat.le_of_ble_eq_true rfl, Nat.le_of_ble_eq_true rfl⟩
            · exact va_runU (As := [.ref v0]) (rest := [.long (v3 &&& o39)]) ⟨hx, hb, hml, hown, hts⟩ (c_X5_glow (l := l) (D := D) (b := b) (cI := cI) (cL := cL) hc58) (va_cwU 1 hts gX10_whereabouts_X5_glow_u112X3 rfl rfl rfl rfl (by decide +kernel) ⟨Nat.le_of_ble_eq_true rfl, Nat.le_of_ble_eq_true rfl⟩) (gp_preV hKn hG (cp_obj hcg) rfl) rfl rfl hl.1 rfl (lv_room (Nat.le_of_ble_eq_true rfl)) dX10_whereabouts_58 ⟨Nat.le_of_ble_eq_true rfl, Nat.le_of_ble_eq_true rfl⟩
            · exact va_runU (As := [.ref v0]) (rest := [.long (v3 &&& o39)]) ⟨hx, hb, hml, hown, hts⟩ (c_X5_glow (l := l) (D := D) (b := b) (cI := cI) (cL := cL) hc58) (va_cwU 1 hts gX10_whereabouts_X5_glow_u112X4 rfl rfl rfl rfl (by decide +kernel) ⟨Nat.le_of_ble_eq_true rfl, Nat.le_of_ble_eq_true rfl⟩) (gp_preV hKn hG (cp_obj hcg) rfl) rfl rfl hl.1 rfl (lv_room (Nat.le_of_ble_eq_true rfl)) dX10_whereabouts_58 ⟨Nat.le_of_ble_eq_true rfl, Nat.le_of_ble_eq_true rfl⟩
            · exact va_runV (As := [.ref v0]) (rest := [.long (v3 &&& o39)]) ⟨hx, hb, hml, hown, hts⟩ (c_X5_glow (l := l) (D := D) (b := b) (cI := cI) (cL := cL) hc58) (cwV 1 hts gX10_whereabouts_X5_glow rfl rfl rfl (by decide +kernel) ⟨Nat.le_of_ble_eq_true rfl, Nat.le_of_ble_eq_true rfl⟩) (gp_preV hKn hG (cp_obj hcg) rfl) rfl rfl hl.1 rfl (lv_room (Nat.le_of_ble_eq_true rfl)) dX10_whereabouts_58 ⟨Nat.le_of_ble_eq_true rfl, Nat.le_of_ble_eq_true rfl⟩
            · exact va_runU (As := [.ref v0]) (rest := [.long (v3 &&& o39)]) ⟨hx, hb, hml, hown, hts⟩ (c_X5_glow (l := l) (D := D) (b := b) (cI := cI) (cL := cL) hc58) (va_cwU 1 hts gX10_whereabouts_X5_glow_u112X7 rfl rfl rfl rfl (by decide +kernel) ⟨Nat.le_of_ble_eq_true rfl, Nat.le_of_ble_eq_true rfl⟩) (gp_preV hKn hG (cp_obj hcg) rfl) rfl rfl hl.1 rfl (lv_room (Nat.le_of_ble_eq_true rfl)) dX10_whereabouts_58 ⟨Nat.le_of_ble_eq_true rfl, Nat.le_of_ble_eq_true rfl⟩
            · exact va_runU (As := [.ref v0]) (rest := [.long (v3 &&& o39)]) ⟨hx, hb, hml, hown, hts⟩ (c_X5_glow (l := l) (D := D) (b := b) (cI := cI) (cL := cL) hc58) (va_cwU 1 hts gX10_whereabouts_X5_glow_u112X8 rfl rfl rfl rfl (by decide +kernel) ⟨Nat.le_of_ble_eq_true rfl, Nat.le_of_ble_eq_true rfl⟩) (gp_preV hKn hG (cp_obj hcg) rfl) rfl rfl hl.1 rfl (lv_room (Nat.le_of_ble_eq_true rfl)) dX10_whereabouts_58 ⟨Nat.le_of_ble_eq_true rfl, Nat.le_of_ble_eq_true rfl⟩
          refine gp_callL hrun58 hS (fun H locs hG hS => ?_)
          refine lv_ldc2 (v := (-1 : Int64)) hx hb hown (hts _ (List.mem_of_getElem? (i := 2) rfl)) dX10_whereabouts_61 ?_
          refine lv_lxor hx hb dX10_whereabouts_64 ?_
          refine lv_goto (tgt := 71) hx hb dX10_whereabouts_65 (by decide) ?_
          have hj52 := Option.some.inj hj52
          subst hj52
          exact (hJ52 H locs ls hG hS (lv_sub hl [2, 3, 4, 5] rfl))
set_option maxHeartbeats 4000000 in
set_option maxRecDepth 100000 in
theorem c_X10_whereabouts {v1 : Int32} {v2 : Int32} {R : Int64} (hf : f_X10_whereabouts gv h0 v1 v2 = some R) : Met l yX10_whereabouts wsX10_whereabouts rm_X10_whereabouts (va_Pc [.ref h0, .int v1, .int v2] (gPre D b M (gW cI cL gv) (gTy cI cL))) (gQ D b (some (.long R)) M (gW cI cL gv)) 0 0 (gA b) := by
  refine gp_met (cc := cX10_whereabouts) (maxL := 7) (ret := (some .long)) (by decide) rfl (Nat.le_of_ble_eq_true rfl) ?_
  intro p e s m below meth c X ls hG hl
  obtain ⟨H, hH0⟩ : ∃ H : Heap, H = s.heap := ⟨_, rfl⟩
  rw [← hH0] at hG ⊢
  have hS : va_S (gA b) s.heap H [] := by rw [hH0]; exact va_S.rf
  obtain ⟨locs, hlo⟩ : ∃ z : List Loc, z = [] := ⟨_, rfl⟩
  rw [← hlo] at hS ⊢
  unfold f_X10_whereabouts at hf
  obtain ⟨hx, hb, hr, hml, hown, hts, hlocks, hKn, hBs⟩ := id X
  have hK := hKn.1
  have gclX10 : gcl [8] TX10 6 wsX10_whereabouts := gcl_1 rfl (fun _ h => List.mem_cons_of_mem _ (List.mem_append_left _ (List.mem_append_left _ (List.mem_append_left _ (List.mem_append_left _ (List.mem_append_left _ (List.mem_append_left _ (List.mem_append_left _ (List.mem_append_right _ h)))))))))
  have hl : lv_has ls 7 [(0, .ref h0), (1, .int v1), (2, .int v2)] := hl
  refine lv_aload_n hx hb dX10_whereabouts_0 rfl (lv_at hl 0 rfl) ?_
  obtain ⟨o1, hc1, hf⟩ := gb_b hf
  obtain ⟨oc1, hcO1, hc1⟩ := gb_b hc1
  obtain ⟨hcg1, hci1⟩ := gfO_s hcO1
  have hci1 := List.mem_singleton.mp hci1
  obtain ⟨kc1, fc1⟩ := oc1
  dsimp only at hci1 hcg1
  subst hci1
  refine gp_callL (va_runV (As := []) (rest := []) ⟨hx, hb, hml, hown, hts⟩ (c_X10_free (l := l) (D := D) (b := b) (cI := cI) (cL := cL) hc1) (cwV 0 hts gX10_whereabouts_X10_free rfl rfl rfl (by decide +kernel) ⟨Nat.le_of_ble_eq_true rfl, Nat.le_of_ble_eq_true rfl⟩) (gp_preV hKn hG (cp_obj hcg1) rfl) rfl rfl hl.1 rfl (lv_room (Nat.le_of_ble_eq_true rfl)) dX10_whereabouts_1 ⟨Nat.le_of_ble_eq_true rfl, Nat.le_of_ble_eq_true rfl⟩) hS (fun H locs hG hS => ?_)
  refine lv_lstore_n (lv' := [(3, .long o1), (0, .ref h0), (1, .int v1), (2, .int v2)]) hx hb dX10_whereabouts_4 rfl hl (by decide) rfl (fun ls hl => ?_)
  refine lv_iconst (v := 0) hx hb dX10_whereabouts_5 (by decide) ?_
  refine lv_istore (lv' := [(5, .int 0), (3, .long o1), (0, .ref h0), (1, .int v1), (2, .int v2)]) hx hb dX10_whereabouts_6 hl (by decide) rfl (fun ls hl => ?_)
  refine w_X10_whereabouts_8 X _ _ _ hf (fun x8_79 hf H locs ls hG hS hl => ?_) _ _ _ hG hS (lv_sub hl [2, 3, 4, 1, 0] rfl)
  · refine lv_lload_n hx hb dX10_whereabouts_79 rfl (lv_at hl 0 rfl) ?_
    have hf := Option.some.inj hf
    subst hf
    exact gp_retL hx hb hr hlocks hG hS (Nat.le_of_ble_eq_true rfl) (Nat.le_of_ble_eq_true rfl) dX10_whereabouts_80
-- X11_allKnow
abbrev rm_X11_allKnow : Room := { frames := 6, cells := 0, slots := 0, locals := 139 }
set_option maxHeartbeats 4000000 in
set_option maxRecDepth 100000 in
theorem c_X11_allKnow {R : Int32} (hf : f_X11_allKnow gv h0 = some R) : Met l yX11_allKnow wsX11_allKnow rm_X11_allKnow (va_Pc [.ref h0] (gPre D b M (gW cI cL gv) (gTy cI cL))) (gQ D b (some (.int R)) M (gW cI cL gv)) 0 0 (gA b) := by
  refine gp_met (cc := cX11_allKnow) (maxL := 1) (ret := (some .int)) (by decide) rfl (Nat.le_of_ble_eq_true rfl) ?_
  intro p e s m below meth c X ls hG hl
  obtain ⟨H, hH0⟩ : ∃ H : Heap, H = s.heap := ⟨_, rfl⟩
  rw [← hH0] at hG ⊢
  have hS : va_S (gA b) s.heap H [] := by rw [hH0]; exact va_S.rf
  obtain ⟨locs, hlo⟩ : ∃ z : List Loc, z = [] := ⟨_, rfl⟩
  rw [← hlo] at hS ⊢
  unfold f_X11_allKnow at hf
  obtain ⟨hx, hb, hr, hml, hown, hts, hlocks, hKn, hBs⟩ := id X
  have hK := hKn.1
  have gclX11 : gcl [9] TX11 8 wsX11_allKnow := gcl_1 rfl (fun _ h => List.mem_cons_of_mem _ (List.mem_append_left _ (List.mem_append_left _ (List.mem_append_left _ (List.mem_append_left _ (List.mem_append_left _ (List.mem_append_left _ (List.mem_append_left _ (List.mem_append_left _ (List.mem_append_right _ h))))))))))
  have hl : lv_has ls 1 [(0, .ref h0)] := hl
  refine lv_aload_n hx hb dX11_allKnow_0 rfl (lv_at hl 0 rfl) ?_
  obtain ⟨t1, ht1, hf⟩ := gb_b hf
  refine cp_get (v := va_rf t1) hx hb hts gclX11 hown hK hG 4 (gfR_s ht1) (by decide) (hts _ (List.mem_of_getElem? (i := 1) rfl)) (fun _ h9 => h9) dX11_allKnow_1 ?_
  refine lv_aload_n hx hb dX11_allKnow_4 rfl (lv_at hl 0 rfl) ?_
  obtain ⟨t5, ht5, hf⟩ := gb_b hf
  refine cp_get (v := va_rf t5) hx hb hts gclX11 hown hK hG 4 (gfR_s ht5) (by decide) (hts _ (List.mem_of_getElem? (i := 1) rfl)) (fun _ h9 => h9) dX11_allKnow_5 ?_
  obtain ⟨q8, hq8, hf⟩ := gb_b hf
  refine W.eq (g2 := F0 m 8 ls [.ref q8, va_rf t1]) (congrArg (fun z => F0 m 8 ls [va_rf z, va_rf t1]) hq8) ?_
  obtain ⟨o8, hc8, hf⟩ := gb_b hf
  obtain ⟨oc8, hcO8, hc8⟩ := gb_b hc8
  obtain ⟨hcg8, hci8⟩ := gfO_s hcO8
  have hci8 := List.mem_singleton.mp hci8
  obtain ⟨kc8, fc8⟩ := oc8
  dsimp only at hci8 hcg8
  subst hci8
  refine gp_callL (va_runV (As := []) (rest := [va_rf t1]) ⟨hx, hb, hml, hown, hts⟩ (c_X10_peopled (l := l) (D := D) (b := b) (cI := cI) (cL := cL) hc8) (cwV 0 hts gX11_allKnow_X10_peopled rfl rfl rfl (by decide +kernel) ⟨Nat.le_of_ble_eq_true rfl, Nat.le_of_ble_eq_true rfl⟩) (gp_preV hKn hG (cp_obj hcg8) rfl) rfl rfl hl.1 rfl (lv_room (by simp [gcat_rf, gcat_ref, gcat_int, gcat_long, gcat_null])) dX11_allKnow_8 ⟨Nat.le_of_ble_eq_true rfl, Nat.le_of_ble_eq_true rfl⟩) hS (fun H locs hG hS => ?_)
  obtain ⟨q11, hq11, hf⟩ := gb_b hf
  refine W.eq (g2 := F0 m 11 ls [.long o8, .ref q11]) (congrArg (fun z => F0 m 11 ls [.long o8, va_rf z]) hq11) ?_
  obtain ⟨o11, hc11, hf⟩ := gb_b hf
  obtain ⟨oc11, hcO11, hc11⟩ := gb_b hc11
  obtain ⟨hcg11, hci11⟩ := gfO_s hcO11
  have hci11 := List.mem_singleton.mp hci11
  obtain ⟨kc11, fc11⟩ := oc11
  dsimp only at hci11 hcg11
  subst hci11
  refine gp_callI (va_runV (As := [.long o8]) (rest := []) ⟨hx, hb, hml, hown, hts⟩ (c_X10_unlikeScenesShownTo (l := l) (D := D) (b := b) (cI := cI) (cL := cL) hc11) (cwV 1 hts gX11_allKnow_X10_unlikeScenesShownTo rfl rfl rfl (by decide +kernel) ⟨Nat.le_of_ble_eq_true rfl, Nat.le_of_ble_eq_true rfl⟩) (gp_preV hKn hG (cp_obj hcg11) rfl) rfl rfl hl.1 rfl (lv_room (Nat.le_of_ble_eq_true rfl)) dX11_allKnow_11 ⟨Nat.le_of_ble_eq_true rfl, Nat.le_of_ble_eq_true rfl⟩) hS (fun H locs hG hS => ?_)
  have hf := Option.some.inj hf
  subst hf
  exact gp_retI hx hb hr hlocks hG hS (Nat.le_of_ble_eq_true rfl) (Nat.le_of_ble_eq_true rfl) dX11_allKnow_14
-- X11_outside
abbrev rm_X11_outside : Room := { frames := 0, cells := 0, slots := 0, locals := 0 }
set_option maxHeartbeats 4000000 in
set_option maxRecDepth 100000 in
theorem c_X11_outside {v0 : Int32} {v1 : Int32} {v2 : Int32} {R : Int32} (hf : f_X11_outside v0 v1 v2 = some R) : Met l yX11_outside wsX11_outside rm_X11_outside (va_Pc [.int v0, .int v1, .int v2] (gPre D b M (gh) (gTy cI cL))) (gQ D b (some (.int R)) M (gh)) 0 0 (gA b) := by
  refine gp_met (cc := cX11_outside) (maxL := 3) (ret := (some .int)) (by decide) rfl (Nat.le_of_ble_eq_true rfl) ?_
  intro p e s m below meth c X ls hG hl
  obtain ⟨H, hH0⟩ : ∃ H : Heap, H = s.heap := ⟨_, rfl⟩
  rw [← hH0] at hG ⊢
  have hS : va_S (gA b) s.heap H [] := by rw [hH0]; exact va_S.rf
  obtain ⟨locs, hlo⟩ : ∃ z : List Loc, z = [] := ⟨_, rfl⟩
  rw [← hlo] at hS ⊢
  unfold f_X11_outside at hf
  obtain ⟨hx, hb, hr, hml, hown, hts, hlocks, hKn, hBs⟩ := id X
  have hK := hKn.1
  have hl : lv_has ls 3 [(0, .int v0), (1, .int v1), (2, .int v2)] := hl
  refine lv_iload_n hx hb dX11_outside_0 rfl (lv_at hl 0 rfl) ?_
  refine lv_iload_n hx hb dX11_outside_1 rfl (lv_at hl 1 rfl) ?_
  refine lv_icmp_ge (tgt := 8) hx hb dX11_outside_2 (by decide) (fun c2 => ?_) (fun c2 => ?_)
  · have hf := gb_t c2 hf
    refine lv_iload_n hx hb dX11_outside_8 rfl (lv_at hl 0 rfl) ?_
    refine lv_iload_n hx hb dX11_outside_9 rfl (lv_at hl 2 rfl) ?_
    have hJ10 : ∀ Z : Int32, Z = (if v0 ≤ v2 then 0 else (-6 : Int32)) → W p l e rm_X11_outside s m [.int v0, .int v1, .int v2].toArray below meth c H locs 0 0 (MQ below (gQ D b (some (.int R)) M (gh)) [.int v0, .int v1, .int v2].toArray s 0 0 (gA b)) (F0 m 19 ls (.int Z :: [])) := by
      intro Z hZ
      subst hZ
      have hf := Option.some.inj hf
      subst hf
      exact gp_retI hx hb hr hlocks hG hS (Nat.le_of_ble_eq_true rfl) (Nat.le_of_ble_eq_true rfl) dX11_outside_19
    refine lv_icmp_le (tgt := 18) hx hb dX11_outside_10 (by decide) (fun c10 => ?_) (fun c10 => ?_)
    · rw [if_pos c10] at hJ10
      refine lv_iconst (v := 0) hx hb dX11_outside_18 (by decide) ?_
      exact hJ10 _ rfl
    · rw [if_neg c10] at hJ10
      refine lv_bipush (v := (-6 : Int32)) hx hb dX11_outside_13 (by decide) ?_
      refine lv_goto (tgt := 19) hx hb dX11_outside_15 (by decide) ?_
      exact hJ10 _ rfl
  · have hf := gb_f c2 hf
    refine lv_bipush (v := (-4 : Int32)) hx hb dX11_outside_5 (by decide) ?_
    have hf := Option.some.inj hf
    subst hf
    exact gp_retI hx hb hr hlocks hG hS (Nat.le_of_ble_eq_true rfl) (Nat.le_of_ble_eq_true rfl) dX11_outside_7
end
