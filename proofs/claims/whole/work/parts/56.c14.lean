section
variable {p : Program} {l : Launch} {e : Env} {s : State} {m : MethodId} {args : Array Value} {below : List Frame} {meth : Method} {c : Code} {D : va_G} {b : GB} {M : Nat} {cI cL : ClassId} {h0 : Nat} {gv : Nat → GV} {gh : Nat → va_E} {Q : State → Prop}
-- X11_fewest
abbrev rm_X11_fewest : Room := { frames := 4, cells := 0, slots := 0, locals := 99 }
set_option maxHeartbeats 4000000 in
set_option maxRecDepth 100000 in
theorem w_X11_fewest_4 {α : Type} {R : α} {K23 : Unit → Option α} {K47 : Int64 → Option α} {v0 : Nat} (X : gC p s m args meth c cX11_fewest 6 (some .int) wsX11_fewest RX11 D b (gTy cI cL)) : ∀ (n : Nat) (v1 : Int64) (v3 : Int32), L_X11_fewest_4 K23 K47 gv v0 n v1 v3 = some R → (∀ (x : Unit), K23 x = some R → ∀ (H : Heap) (locs : List Loc) (ls : Array Slot), GP D b M (gW cI cL gv) H → va_S (gA b) s.heap H locs → lv_has ls 6 [(0, .ref v0)] → W p l e rm_X11_fewest s m args below meth c H locs 0 0 Q (F0 m 23 ls [])) → (∀ (x : Int64), K47 x = some R → ∀ (H : Heap) (locs : List Loc) (ls : Array Slot), GP D b M (gW cI cL gv) H → va_S (gA b) s.heap H locs → lv_has ls 6 [(0, .ref v0), (1, .long x)] → W p l e rm_X11_fewest s m args below meth c H locs 0 0 Q (F0 m 47 ls [])) → ∀ (H : Heap) (locs : List Loc) (ls : Array Slot), GP D b M (gW cI cL gv) H → va_S (gA b) s.heap H locs → lv_has ls 6 [(0, .ref v0), (1, .long v1), (3, .int v3)] → W p l e rm_X11_fewest s m args below meth c H locs 0 0 Q (F0 m 4 ls []) := by
  obtain ⟨hx, hb, hr, hml, hown, hts, hlocks, hKn, hBs⟩ := id X
  have hK := hKn.1
  have gclX10 : gcl [8] TX10 6 wsX11_fewest := gcl_1 rfl (fun _ h => List.mem_cons_of_mem _ (List.mem_append_left _ (List.mem_append_left _ (List.mem_append_left _ (List.mem_append_left _ (List.mem_append_left _ (List.mem_append_left _ (List.mem_append_left _ (List.mem_append_right _ h)))))))))
  have gclX11 : gcl [9] TX11 8 wsX11_fewest := gcl_1 rfl (fun _ h => List.mem_cons_of_mem _ (List.mem_append_left _ (List.mem_append_left _ (List.mem_append_left _ (List.mem_append_left _ (List.mem_append_left _ (List.mem_append_left _ (List.mem_append_left _ (List.mem_append_left _ (List.mem_append_right _ h))))))))))
  intro n
  induction n with
  | zero =>
    intro v1 v3 hf
    cases hf
  | succ n ih =>
    intro v1 v3 hf hk23 hk47 H locs ls hG hS hl
    rw [L_X11_fewest_4.eq_2] at hf
    refine lv_iload_n hx hb dX11_fewest_4 rfl (lv_at hl 2 rfl) ?_
    refine lv_aload_n hx hb dX11_fewest_5 rfl (lv_at hl 0 rfl) ?_
    obtain ⟨t6, ht6, hf⟩ := gb_b hf
    refine cp_get (v := .int t6) hx hb hts gclX11 hown hK hG 6 (gfI_s ht6) (by decide) (hts _ (List.mem_of_getElem? (i := 1) rfl)) (fun _ h9 => h9) dX11_fewest_6 ?_
    refine lv_icmp_ge (tgt := 47) hx hb dX11_fewest_9 (by decide) (fun c9 => ?_) (fun c9 => ?_)
    · have hf := gb_t c9 hf
      exact (hk47 _ hf _ _ _ hG hS (lv_sub hl [0, 1] rfl))
    · have hf := gb_f c9 hf
      refine lv_aload_n hx hb dX11_fewest_12 rfl (lv_at hl 0 rfl) ?_
      refine lv_iload_n hx hb dX11_fewest_13 rfl (lv_at hl 2 rfl) ?_
      obtain ⟨o14, hc14, hf⟩ := gb_b hf
      obtain ⟨oc14, hcO14, hc14⟩ := gb_b hc14
      obtain ⟨hcg14, hci14⟩ := gfO_s hcO14
      have hci14 := List.mem_singleton.mp hci14
      obtain ⟨kc14, fc14⟩ := oc14
      dsimp only at hci14 hcg14
      subst hci14
      refine gp_callI (va_runV (As := [.int v3]) (rest := []) ⟨hx, hb, hml, hown, hts⟩ (c_X11_inRowAt (l := l) (D := D) (b := b) (cI := cI) (cL := cL) hc14) (cwV 1 hts gX11_fewest_X11_inRowAt rfl rfl rfl (by decide +kernel) ⟨Nat.le_of_ble_eq_true rfl, Nat.le_of_ble_eq_true rfl⟩) (gp_preV hKn hG (cp_obj hcg14) rfl) rfl rfl hl.1 rfl (lv_room (Nat.le_of_ble_eq_true rfl)) dX11_fewest_14 ⟨Nat.le_of_ble_eq_true rfl, Nat.le_of_ble_eq_true rfl⟩) hS (fun H locs hG hS => ?_)
      obtain ⟨o17, hc17, hf⟩ := gb_b hf
      refine gp_callI (va_runS (As := [.int o14]) (rest := []) ⟨hx, hb, hml, hown, hts⟩ (c_X2_isOne (l := l) (D := D) (b := b) (cI := cI) (cL := cL) hc17) (va_cwS 1 hts gX11_fewest_X2_isOne rfl rfl rfl (by decide +kernel) ⟨Nat.le_of_ble_eq_true rfl, Nat.le_of_ble_eq_true rfl⟩) (gp_preS hKn hG) rfl rfl hl.1 rfl (lv_room (Nat.le_of_ble_eq_true rfl)) dX11_fewest_17 ⟨Nat.le_of_ble_eq_true rfl, Nat.le_of_ble_eq_true rfl⟩) hS (fun H locs hG hS => ?_)
      refine lv_if_ne (tgt := 30) hx hb dX11_fewest_20 (by decide) (fun c20 => ?_) (fun c20 => ?_)
      · have hf := gb_f c20 hf
        refine lv_lload_n hx hb dX11_fewest_30 rfl (lv_at hl 1 rfl) ?_
        refine lv_aload_n hx hb dX11_fewest_31 rfl (lv_at hl 0 rfl) ?_
        refine lv_iload_n hx hb dX11_fewest_32 rfl (lv_at hl 2 rfl) ?_
        obtain ⟨o33, hc33, hf⟩ := gb_b hf
        obtain ⟨oc33, hcO33, hc33⟩ := gb_b hc33
        obtain ⟨hcg33, hci33⟩ := gfO_s hcO33
        have hci33 := List.mem_singleton.mp hci33
        obtain ⟨kc33, fc33⟩ := oc33
        dsimp only at hci33 hcg33
        subst hci33
        refine gp_callI (va_runV (As := [.int v3]) (rest := [.long v1]) ⟨hx, hb, hml, hown, hts⟩ (c_X11_inRowAt (l := l) (D := D) (b := b) (cI := cI) (cL := cL) hc33) (cwV 1 hts gX11_fewest_X11_inRowAt rfl rfl rfl (by decide +kernel) ⟨Nat.le_of_ble_eq_true rfl, Nat.le_of_ble_eq_true rfl⟩) (gp_preV hKn hG (cp_obj hcg33) rfl) rfl rfl hl.1 rfl (lv_room (Nat.le_of_ble_eq_true rfl)) dX11_fewest_33 ⟨Nat.le_of_ble_eq_true rfl, Nat.le_of_ble_eq_true rfl⟩) hS (fun H locs hG hS => ?_)
        obtain ⟨o36, hc36, hf⟩ := gb_b hf
        refine gp_callL (va_runS (As := [.int o33]) (rest := [.long v1]) ⟨hx, hb, hml, hown, hts⟩ (c_X2_only (l := l) (D := D) (b := b) (cI := cI) (cL := cL) hc36) (va_cwS 1 hts gX11_fewest_X2_only rfl rfl rfl (by decide +kernel) ⟨Nat.le_of_ble_eq_true rfl, Nat.le_of_ble_eq_true rfl⟩) (gp_preS hKn hG) rfl rfl hl.1 rfl (lv_room (Nat.le_of_ble_eq_true rfl)) dX11_fewest_36 ⟨Nat.le_of_ble_eq_true rfl, Nat.le_of_ble_eq_true rfl⟩) hS (fun H locs hG hS => ?_)
        refine lv_lor hx hb dX11_fewest_39 ?_
        refine lv_lstore_n (lv' := [(1, .long (v1 ||| o36)), (0, .ref v0), (3, .int v3)]) hx hb dX11_fewest_40 rfl hl (by decide) rfl (fun ls hl => ?_)
        refine lv_iinc (v := v3 + 1) (lv' := [(3, .int (v3 + 1)), (1, .long (v1 ||| o36)), (0, .ref v0)]) hx hb dX11_fewest_41 hl (k := 2) rfl rfl (by decide) rfl (fun ls hl => ?_)
        refine lv_goto (tgt := 4) hx hb dX11_fewest_44 (by decide) ?_
        exact ih _ _ hf hk23 hk47 _ _ _ hG hS (lv_sub hl [2, 1, 0] rfl)
      · have hf := gb_t c20 hf
        exact (hk23 _ hf _ _ _ hG hS (lv_sub hl [0] rfl))
set_option maxHeartbeats 4000000 in
set_option maxRecDepth 100000 in
theorem w_X11_fewest_53 {α : Type} {R : α} {K124 : Int32 → Option α} {v0 : Nat} {v1 : Int64} (X : gC p s m args meth c cX11_fewest 6 (some .int) wsX11_fewest RX11 D b (gTy cI cL)) : ∀ (n : Nat) (v3 : Int32) (v4 : Int32), L_X11_fewest_53 K124 gv v0 v1 n v3 v4 = some R → (∀ (x : Int32), K124 x = some R → ∀ (H : Heap) (locs : List Loc) (ls : Array Slot), GP D b M (gW cI cL gv) H → va_S (gA b) s.heap H locs → lv_has ls 6 [(3, .int x)] → W p l e rm_X11_fewest s m args below meth c H locs 0 0 Q (F0 m 124 ls [])) → ∀ (H : Heap) (locs : List Loc) (ls : Array Slot), GP D b M (gW cI cL gv) H → va_S (gA b) s.heap H locs → lv_has ls 6 [(0, .ref v0), (1, .long v1), (3, .int v3), (4, .int v4)] → W p l e rm_X11_fewest s m args below meth c H locs 0 0 Q (F0 m 53 ls []) := by
  obtain ⟨hx, hb, hr, hml, hown, hts, hlocks, hKn, hBs⟩ := id X
  have hK := hKn.1
  have gclX10 : gcl [8] TX10 6 wsX11_fewest := gcl_1 rfl (fun _ h => List.mem_cons_of_mem _ (List.mem_append_left _ (List.mem_append_left _ (List.mem_append_left _ (List.mem_append_left _ (List.mem_append_left _ (List.mem_append_left _ (List.mem_append_left _ (List.mem_append_right _ h)))))))))
  have gclX11 : gcl [9] TX11 8 wsX11_fewest := gcl_1 rfl (fun _ h => List.mem_cons_of_mem _ (List.mem_append_left _ (List.mem_append_left _ (List.mem_append_left _ (List.mem_append_left _ (List.mem_append_left _ (List.mem_append_left _ (List.mem_append_left _ (List.mem_append_left _ (List.mem_append_right _ h))))))))))
  intro n
  induction n with
  | zero =>
    intro v3 v4 hf
    cases hf
  | succ n ih =>
    intro v3 v4 hf hk124 H locs ls hG hS hl
    rw [L_X11_fewest_53.eq_2] at hf
    refine lv_iload hx hb dX11_fewest_53 (lv_at hl 3 rfl) ?_
    refine lv_iconst (v := 1) hx hb dX11_fewest_55 (by decide) ?_
    refine lv_aload_n hx hb dX11_fewest_56 rfl (lv_at hl 0 rfl) ?_
    obtain ⟨t57, ht57, hf⟩ := gb_b hf
    refine cp_get (v := va_rf t57) hx hb hts gclX11 hown hK hG 4 (gfR_s ht57) (by decide) (hts _ (List.mem_of_getElem? (i := 2) rfl)) (fun _ h9 => h9) dX11_fewest_57 ?_
    obtain ⟨q60, hq60, hf⟩ := gb_b hf
    refine W.eq (g2 := F0 m 60 ls [.ref q60, .int 1, .int v4]) (congrArg (fun z => F0 m 60 ls [va_rf z, .int 1, .int v4]) hq60) ?_
    obtain ⟨t60, ht60, hf⟩ := gb_b hf
    refine cp_get (v := .int t60) hx hb hts gclX10 hown hK hG 3 (gfI_s ht60) (by decide) (hts _ (List.mem_of_getElem? (i := 3) rfl)) (fun _ h9 => h9) dX11_fewest_60 ?_
    refine lv_ishl hx hb dX11_fewest_63 ?_
    refine lv_icmp_ge (tgt := 124) hx hb dX11_fewest_64 (by decide) (fun c64 => ?_) (fun c64 => ?_)
    · have hf := gb_t c64 hf
      exact (hk124 _ hf _ _ _ hG hS (lv_sub hl [2] rfl))
    · have hf := gb_f c64 hf
      refine lv_iload_n hx hb dX11_fewest_67 rfl (lv_at hl 2 rfl) ?_
      obtain ⟨j68, hj68, hf⟩ := gb_b hf
      have hJ68 : ∀ (H : Heap) (locs : List Loc) (ls : Array Slot), GP D b M (gW cI cL gv) H → va_S (gA b) s.heap H locs → lv_has ls 6 [(0, .ref v0), (1, .long v1), (3, .int v3), (4, .int v4)] → W p l e rm_X11_fewest s m args below meth c H locs 0 0 Q (F0 m 88 ls [.int j68]) := by
        intro H locs ls hG hS hl
        refine lv_istore (lv' := [(5, .int j68), (0, .ref v0), (1, .long v1), (3, .int v3), (4, .int v4)]) hx hb dX11_fewest_88 hl (by decide) rfl (fun ls hl => ?_)
        refine lv_iload hx hb dX11_fewest_90 (lv_at hl 0 rfl) ?_
        obtain ⟨j92, hj92, hf⟩ := gb_b hf
        have hJ92 : ∀ (H : Heap) (locs : List Loc) (ls : Array Slot), GP D b M (gW cI cL gv) H → va_S (gA b) s.heap H locs → lv_has ls 6 [(0, .ref v0), (1, .long v1), (3, .int j92), (4, .int v4)] → W p l e rm_X11_fewest s m args below meth c H locs 0 0 Q (F0 m 118 ls []) := by
          intro H locs ls hG hS hl
          refine lv_iinc (v := v4 + 1) (lv' := [(4, .int (v4 + 1)), (0, .ref v0), (1, .long v1), (3, .int j92)]) hx hb dX11_fewest_118 hl (k := 3) rfl rfl (by decide) rfl (fun ls hl => ?_)
          refine lv_goto (tgt := 53) hx hb dX11_fewest_121 (by decide) ?_
          exact ih _ _ hf hk124 _ _ _ hG hS (lv_sub hl [1, 2, 3, 0] rfl)
        refine lv_if_eq (tgt := 118) hx hb dX11_fewest_92 (by decide) (fun c92 => ?_) (fun c92 => ?_)
        · have hj92 := gb_t c92 hj92
          have hj92 := Option.some.inj hj92
          subst hj92
          exact (hJ92 H locs ls hG hS (lv_sub hl [1, 2, 3, 4] rfl))
        · have hj92 := gb_f c92 hj92
          refine lv_lload_n hx hb dX11_fewest_95 rfl (lv_at hl 2 rfl) ?_
          refine lv_aload_n hx hb dX11_fewest_96 rfl (lv_at hl 1 rfl) ?_
          obtain ⟨t97, ht97, hj92⟩ := gb_b hj92
          refine cp_get (v := va_rf t97) hx hb hts gclX11 hown hK hG 4 (gfR_s ht97) (by decide) (hts _ (List.mem_of_getElem? (i := 2) rfl)) (fun _ h9 => h9) dX11_fewest_97 ?_
          refine lv_iload hx hb dX11_fewest_100 (lv_at hl 4 rfl) ?_
          obtain ⟨q102, hq102, hj92⟩ := gb_b hj92
          refine W.eq (g2 := F0 m 102 ls [.int v4, .ref q102, .long v1]) (congrArg (fun z => F0 m 102 ls [.int v4, va_rf z, .long v1]) hq102) ?_
          obtain ⟨o102, hc102, hj92⟩ := gb_b hj92
          obtain ⟨oc102, hcO102, hc102⟩ := gb_b hc102
          obtain ⟨hcg102, hci102⟩ := gfO_s hcO102
          have hci102 := List.mem_singleton.mp hci102
          obtain ⟨kc102, fc102⟩ := oc102
          dsimp only at hci102 hcg102
          subst hci102
          refine gp_callL (va_runV (As := [.int v4]) (rest := [.long v1]) ⟨hx, hb, hml, hown, hts⟩ (c_X10_glowOf (l := l) (D := D) (b := b) (cI := cI) (cL := cL) hc102) (cwV 1 hts gX11_fewest_X10_glowOf rfl rfl rfl (by decide +kernel) ⟨Nat.le_of_ble_eq_true rfl, Nat.le_of_ble_eq_true rfl⟩) (gp_preV hKn hG (cp_obj hcg102) rfl) rfl rfl hl.1 rfl (lv_room (Nat.le_of_ble_eq_true rfl)) dX11_fewest_102 ⟨Nat.le_of_ble_eq_true rfl, Nat.le_of_ble_eq_true rfl⟩) hS (fun H locs hG hS => ?_)
          refine lv_ldc2 (v := (-1 : Int64)) hx hb hown (hts _ (List.mem_of_getElem? (i := 4) rfl)) dX11_fewest_105 ?_
          refine lv_lxor hx hb dX11_fewest_108 ?_
          refine lv_land hx hb dX11_fewest_109 ?_
          refine lv_lconst (v := (0 : Int64)) hx hb dX11_fewest_110 (by decide) ?_
          refine W.lcmp hx hb dX11_fewest_111 ?_
          refine lv_if_ne (tgt := 118) hx hb dX11_fewest_112 (by decide) (fun c112 => ?_) (fun c112 => ?_)
          · have hj92 := gb_f c112 hj92
            have hj92 := Option.some.inj hj92
            subst hj92
            exact (hJ92 H locs ls hG hS (lv_sub hl [1, 2, 3, 4] rfl))
          · have hj92 := gb_t c112 hj92
            refine lv_iload hx hb dX11_fewest_115 (lv_at hl 4 rfl) ?_
            refine lv_istore_n (lv' := [(3, .int v4), (5, .int j68), (0, .ref v0), (1, .long v1), (4, .int v4)]) hx hb dX11_fewest_117 rfl hl (by decide) rfl (fun ls hl => ?_)
            have hj92 := Option.some.inj hj92
            subst hj92
            exact (hJ92 H locs ls hG hS (lv_sub hl [2, 3, 0, 4] rfl))
      refine lv_if_lt (tgt := 83) hx hb dX11_fewest_68 (by decide) (fun c68 => ?_) (fun c68 => ?_)
      · have hj68 := gb_t c68 hj68
        refine lv_iconst (v := 1) hx hb dX11_fewest_83 (by decide) ?_
        refine lv_goto (tgt := 88) hx hb dX11_fewest_84 (by decide) ?_
        have hj68 := Option.some.inj hj68
        subst hj68
        exact (hJ68 H locs ls hG hS (lv_sub hl [0, 1, 2, 3] rfl))
      · have hj68 := gb_f c68 hj68
        refine lv_iload hx hb dX11_fewest_71 (lv_at hl 3 rfl) ?_
        obtain ⟨o73, hc73, hj68⟩ := gb_b hj68
        refine gp_callI (va_runS (As := [.int v4]) (rest := []) ⟨hx, hb, hml, hown, hts⟩ (c_J6_bitCount_0f7a4 (l := l) (D := D) (b := b) (cI := cI) (cL := cL) hc73) (va_cwS 1 hts gX11_fewest_J6_bitCount_0f7a4 rfl rfl rfl (by decide +kernel) ⟨Nat.le_of_ble_eq_true rfl, Nat.le_of_ble_eq_true rfl⟩) (gp_preS hKn hG) rfl rfl hl.1 rfl (lv_room (Nat.le_of_ble_eq_true rfl)) dX11_fewest_73 ⟨Nat.le_of_ble_eq_true rfl, Nat.le_of_ble_eq_true rfl⟩) hS (fun H locs hG hS => ?_)
        refine lv_iload_n hx hb dX11_fewest_76 rfl (lv_at hl 2 rfl) ?_
        obtain ⟨o77, hc77, hj68⟩ := gb_b hj68
        refine gp_callI (va_runS (As := [.int v3]) (rest := [.int o73]) ⟨hx, hb, hml, hown, hts⟩ (c_J6_bitCount_0f7a4 (l := l) (D := D) (b := b) (cI := cI) (cL := cL) hc77) (va_cwS 1 hts gX11_fewest_J6_bitCount_0f7a4 rfl rfl rfl (by decide +kernel) ⟨Nat.le_of_ble_eq_true rfl, Nat.le_of_ble_eq_true rfl⟩) (gp_preS hKn hG) rfl rfl hl.1 rfl (lv_room (Nat.le_of_ble_eq_true rfl)) dX11_fewest_77 ⟨Nat.le_of_ble_eq_true rfl, Nat.le_of_ble_eq_true rfl⟩) hS (fun H locs hG hS => ?_)
        refine lv_icmp_ge (tgt := 87) hx hb dX11_fewest_80 (by decide) (fun c80 => ?_) (fun c80 => ?_)
        · have hj68 := gb_t c80 hj68
          refine lv_iconst (v := 0) hx hb dX11_fewest_87 (by decide) ?_
          have hj68 := Option.some.inj hj68
          subst hj68
          exact (hJ68 H locs ls hG hS (lv_sub hl [0, 1, 2, 3] rfl))
        · have hj68 := gb_f c80 hj68
          refine lv_iconst (v := 1) hx hb dX11_fewest_83 (by decide) ?_
          refine lv_goto (tgt := 88) hx hb dX11_fewest_84 (by decide) ?_
          have hj68 := Option.some.inj hj68
          subst hj68
          exact (hJ68 H locs ls hG hS (lv_sub hl [0, 1, 2, 3] rfl))
set_option maxHeartbeats 4000000 in
set_option maxRecDepth 100000 in
theorem c_X11_fewest {R : Int32 × (Nat → GV)} (hf : f_X11_fewest gv h0 = some R) : Met l yX11_fewest wsX11_fewest rm_X11_fewest (va_Pc [.ref h0] (gPre D b M (gW cI cL gv) (gTy cI cL))) (gQ D b (some (.int R.1)) M (gW cI cL R.2)) 0 0 (gA b) := by
  refine gp_met (cc := cX11_fewest) (maxL := 6) (ret := (some .int)) (by decide) rfl (Nat.le_of_ble_eq_true rfl) ?_
  intro p e s m below meth c X ls hG hl
  obtain ⟨H, hH0⟩ : ∃ H : Heap, H = s.heap := ⟨_, rfl⟩
  rw [← hH0] at hG ⊢
  have hS : va_S (gA b) s.heap H [] := by rw [hH0]; exact va_S.rf
  obtain ⟨locs, hlo⟩ : ∃ z : List Loc, z = [] := ⟨_, rfl⟩
  rw [← hlo] at hS ⊢
  unfold f_X11_fewest at hf
  obtain ⟨hx, hb, hr, hml, hown, hts, hlocks, hKn, hBs⟩ := id X
  have hK := hKn.1
  have gclX10 : gcl [8] TX10 6 wsX11_fewest := gcl_1 rfl (fun _ h => List.mem_cons_of_mem _ (List.mem_append_left _ (List.mem_append_left _ (List.mem_append_left _ (List.mem_append_left _ (List.mem_append_left _ (List.mem_append_left _ (List.mem_append_left _ (List.mem_append_right _ h)))))))))
  have gclX11 : gcl [9] TX11 8 wsX11_fewest := gcl_1 rfl (fun _ h => List.mem_cons_of_mem _ (List.mem_append_left _ (List.mem_append_left _ (List.mem_append_left _ (List.mem_append_left _ (List.mem_append_left _ (List.mem_append_left _ (List.mem_append_left _ (List.mem_append_left _ (List.mem_append_right _ h))))))))))
  have hl : lv_has ls 6 [(0, .ref h0)] := hl
  refine lv_lconst (v := (0 : Int64)) hx hb dX11_fewest_0 (by decide) ?_
  refine lv_lstore_n (lv' := [(1, .long (0 : Int64)), (0, .ref h0)]) hx hb dX11_fewest_1 rfl hl (by decide) rfl (fun ls hl => ?_)
  refine lv_iconst (v := 0) hx hb dX11_fewest_2 (by decide) ?_
  refine lv_istore_n (lv' := [(3, .int 0), (1, .long (0 : Int64)), (0, .ref h0)]) hx hb dX11_fewest_3 rfl hl (by decide) rfl (fun ls hl => ?_)
  refine w_X11_fewest_4 X _ _ _ hf (fun x4_23 hf H locs ls hG hS hl => ?_) (fun x4_47 hf H locs ls hG hS hl => ?_) _ _ _ hG hS (lv_sub hl [2, 1, 0] rfl)
  · refine lv_aload_n hx hb dX11_fewest_23 rfl (lv_at hl 0 rfl) ?_
    refine lv_bipush (v := (-3 : Int32)) hx hb dX11_fewest_24 (by decide) ?_
    obtain ⟨o26, hc26, hf⟩ := gb_b hf
    obtain ⟨oc26, hcO26, hc26⟩ := gb_b hc26
    obtain ⟨hcg26, hci26⟩ := gfO_s hcO26
    have hci26 := List.mem_singleton.mp hci26
    obtain ⟨kc26, fc26⟩ := oc26
    dsimp only at hci26 hcg26
    subst hci26
    refine gp_callI (va_runV (As := [.int (-3 : Int32)]) (rest := []) ⟨hx, hb, hml, hown, hts⟩ (c_X11_refuse (l := l) (D := D) (b := b) (cI := cI) (cL := cL) hc26) (cwV 1 hts gX11_fewest_X11_refuse rfl rfl rfl (by decide +kernel) ⟨Nat.le_of_ble_eq_true rfl, Nat.le_of_ble_eq_true rfl⟩) (gp_preV hKn hG (cp_obj hcg26) rfl) rfl rfl hl.1 rfl (lv_room (Nat.le_of_ble_eq_true rfl)) dX11_fewest_26 ⟨Nat.le_of_ble_eq_true rfl, Nat.le_of_ble_eq_true rfl⟩) hS (fun H locs hG hS => ?_)
    have hf := Option.some.inj hf
    subst hf
    exact gp_retI hx hb hr hlocks hG hS (Nat.le_of_ble_eq_true rfl) (Nat.le_of_ble_eq_true rfl) dX11_fewest_29
  · refine lv_bipush (v := (-9 : Int32)) hx hb dX11_fewest_47 (by decide) ?_
    refine lv_istore_n (lv' := [(3, .int (-9 : Int32)), (0, .ref h0), (1, .long x4_47)]) hx hb dX11_fewest_49 rfl hl (by decide) rfl (fun ls hl => ?_)
    refine lv_iconst (v := 0) hx hb dX11_fewest_50 (by decide) ?_
    refine lv_istore (lv' := [(4, .int 0), (3, .int (-9 : Int32)), (0, .ref h0), (1, .long x4_47)]) hx hb dX11_fewest_51 hl (by decide) rfl (fun ls hl => ?_)
    refine w_X11_fewest_53 X _ _ _ hf (fun x53_124 hf H locs ls hG hS hl => ?_) _ _ _ hG hS (lv_sub hl [2, 3, 1, 0] rfl)
    · refine lv_iload_n hx hb dX11_fewest_124 rfl (lv_at hl 0 rfl) ?_
      have hf := Option.some.inj hf
      subst hf
      exact gp_retI hx hb hr hlocks hG hS (Nat.le_of_ble_eq_true rfl) (Nat.le_of_ble_eq_true rfl) dX11_fewest_125
-- X11_forget
abbrev rm_X11_forget : Room := { frames := 2, cells := 0, slots := 0, locals := 43 }
set_option maxHeartbeats 4000000 in
set_option maxRecDepth 100000 in
theorem c_X11_forget {v1 : Int32} {v2 : Int32} {R : Int32 × (Nat → GV)} (hf : f_X11_forget gv h0 v1 v2 = some R) : Met l yX11_forget wsX11_forget rm_X11_forget (va_Pc [.ref h0, .int v1, .int v2] (gPre D b M (gW cI cL gv) (gTy cI cL))) (gQ D b (some (.int R.1)) M (gW cI cL R.2)) 0 0 (gA b) := by
  refine gp_met (cc := cX11_forget) (maxL := 6) (ret := (some .int)) (by decide) rfl (Nat.le_of_ble_eq_true rfl) ?_
  intro p e s m below meth c X ls hG hl
  obtain ⟨H, hH0⟩ : ∃ H : Heap, H = s.heap := ⟨_, rfl⟩
  rw [← hH0] at hG ⊢
  have hS : va_S (gA b) s.heap H [] := by rw [hH0]; exact va_S.rf
  obtain ⟨locs, hlo⟩ : ∃ z : List Loc, z = [] := ⟨_, rfl⟩
  rw [← hlo] at hS ⊢
  unfold f_X11_forget at hf
  obtain ⟨hx, hb, hr, hml, hown, hts, hlocks, hKn, hBs⟩ := id X
  have hK := hKn.1
  have gclL : gcl gLC TX5 5 wsX11_forget := gcl_L (fun _ h => List.mem_cons_of_mem _ (List.mem_append_left _ (List.mem_append_left _ (List.mem_append_left _ (List.mem_append_left _ (List.mem_append_left _ (List.mem_append_left _ (List.mem_append_left _ (List.mem_append_right _ h))))))))) (fun _ h => List.mem_cons_of_mem _ (List.mem_append_left _ (List.mem_append_left _ (List.mem_append_left _ (List.mem_append_left _ (List.mem_append_left _ (List.mem_append_left _ (List.mem_append_right _ h)))))))) (fun _ h => List.mem_cons_of_mem _ (List.mem_append_left _ (List.mem_append_left _ (List.mem_append_left _ (List.mem_append_left _ (List.mem_append_left _ (List.mem_append_right _ h))))))) (fun _ h => List.mem_cons_of_mem _ (List.mem_append_left _ (List.mem_append_left _ (List.mem_append_left _ (List.mem_append_left _ (List.mem_append_right _ h)))))) (fun _ h => List.mem_cons_of_mem _ (List.mem_append_left _ (List.mem_append_left _ (List.mem_append_left _ (List.mem_append_right _ h))))) (fun _ h => List.mem_cons_of_mem _ (List.mem_append_left _ (List.mem_append_left _ (List.mem_append_right _ h)))) (fun _ h => List.mem_cons_of_mem _ (List.mem_append_left _ (List.mem_append_right _ h)))
  have gclX11 : gcl [9] TX11 8 wsX11_forget := gcl_1 rfl (fun _ h => List.mem_cons_of_mem _ (List.mem_append_left _ (List.mem_append_left _ (List.mem_append_left _ (List.mem_append_left _ (List.mem_append_left _ (List.mem_append_left _ (List.mem_append_left _ (List.mem_append_left _ (List.mem_append_right _ h))))))))))
  have hl : lv_has ls 6 [(0, .ref h0), (1, .int v1), (2, .int v2)] := hl
  refine lv_aload_n hx hb dX11_forget_0 rfl (lv_at hl 0 rfl) ?_
  obtain ⟨t1, ht1, hf⟩ := gb_b hf
  refine cp_get (v := va_rf t1) hx hb hts gclX11 hown hK hG 4 (gfR_s ht1) (by decide) (hts _ (List.mem_of_getElem? (i := 1) rfl)) (fun _ h9 => h9) dX11_forget_1 ?_
  refine lv_iload_n hx hb dX11_forget_4 rfl (lv_at hl 1 rfl) ?_
  obtain ⟨q5, hq5, hf⟩ := gb_b hf
  refine W.eq (g2 := F0 m 5 ls [.int v1, .ref q5]) (congrArg (fun z => F0 m 5 ls [.int v1, va_rf z]) hq5) ?_
  obtain ⟨o5, hc5, hf⟩ := gb_b hf
  obtain ⟨oc5, hcO5, hc5⟩ := gb_b hc5
  obtain ⟨hcg5, hci5⟩ := gfO_s hcO5
  have hci5 := List.mem_singleton.mp hci5
  obtain ⟨kc5, fc5⟩ := oc5
  dsimp only at hci5 hcg5
  subst hci5
  refine gp_callR (va_runV (As := [.int v1]) (rest := []) ⟨hx, hb, hml, hown, hts⟩ (c_X10_lampAt (l := l) (D := D) (b := b) (cI := cI) (cL := cL) hc5) (cwV 1 hts gX11_forget_X10_lampAt rfl rfl rfl (by decide +kernel) ⟨Nat.le_of_ble_eq_true rfl, Nat.le_of_ble_eq_true rfl⟩) (gp_preV hKn hG (cp_obj hcg5) rfl) rfl rfl hl.1 rfl (lv_room (Nat.le_of_ble_eq_true rfl)) dX11_forget_5 ⟨Nat.le_of_ble_eq_true rfl, Nat.le_of_ble_eq_true rfl⟩) hS (fun H locs hG hS => ?_)
  refine gp_astore_n (lv' := [(3, va_rf o5), (0, .ref h0), (1, .int v1), (2, .int v2)]) hx hb dX11_forget_8 rfl hl (by decide) rfl (fun ls hl => ?_)
  refine gp_aload_n (x := o5) hx hb dX11_forget_9 rfl (lv_at hl 0 rfl) ?_
  refine gp_ifnonnull (x := o5) (tgt := 19) hx hb dX11_forget_10 (by decide) ?_ ?_
  · intro n10 e10
    rw [e10] at hl
    rw [e10] at hf
    dsimp only at hf
    refine lv_iload_n hx hb dX11_forget_19 rfl (lv_at hl 3 rfl) ?_
    refine lv_iconst (v := 0) hx hb dX11_forget_20 (by decide) ?_
    refine lv_sipush (v := 9999) hx hb dX11_forget_21 (by decide) ?_
    obtain ⟨o24, hc24, hf⟩ := gb_b hf
    refine gp_callI (va_runS (As := [.int v2, .int 0, .int 9999]) (rest := []) ⟨hx, hb, hml, hown, hts⟩ (c_X11_outside (l := l) (D := D) (b := b) (cI := cI) (cL := cL) hc24) (va_cwS 3 hts gX11_forget_X11_outside rfl rfl rfl (by decide +kernel) ⟨Nat.le_of_ble_eq_true rfl, Nat.le_of_ble_eq_true rfl⟩) (gp_preS hKn hG) rfl rfl hl.1 rfl (lv_room (Nat.le_of_ble_eq_true rfl)) dX11_forget_24 ⟨Nat.le_of_ble_eq_true rfl, Nat.le_of_ble_eq_true rfl⟩) hS (fun H locs hG hS => ?_)
    refine lv_istore (lv' := [(4, .int o24), (3, .ref n10), (0, .ref h0), (1, .int v1), (2, .int v2)]) hx hb dX11_forget_27 hl (by decide) rfl (fun ls hl => ?_)
    refine lv_iload hx hb dX11_forget_29 (lv_at hl 0 rfl) ?_
    refine lv_if_ge (tgt := 41) hx hb dX11_forget_31 (by decide) (fun c31 => ?_) (fun c31 => ?_)
    · have hf := gb_t c31 hf
      refine lv_aload_n hx hb dX11_forget_41 rfl (lv_at hl 1 rfl) ?_
      refine lv_iload_n hx hb dX11_forget_42 rfl (lv_at hl 4 rfl) ?_
      obtain ⟨o43, hc43, hf⟩ := gb_b hf
      have hrun43 : va_Run p l e rm_X11_forget s m [.ref h0, .int v1, .int v2].toArray below meth c H locs 0 0 0 0 (F0 m 43 ls ([.int v2].reverse ++ .ref n10 :: [])) [] (gQ D b (some (.int o43)) M (gW cI cL gv) (Value.ref n10 :: [.int v2]).toArray) (gA b) := by
        obtain ⟨oc, hcO, hc43⟩ := gb_b hc43
        obtain ⟨hcg, hci⟩ := gfO_s hcO
        obtain ⟨kc, fc⟩ := oc
        dsimp only at hci hcg hc43
        rcases gLC_7 hci with rfl | rfl | rfl | rfl | rfl | rfl | rfl
        · exact va_runU (As := [.int v2]) (rest := []) ⟨hx, hb, hml, hown, hts⟩ (c_X5_placeOfMinute (l := l) (D := D) (b := b) (cI := cI) (cL := cL) hc43) (va_cwU 1 hts gX11_forget_X5_placeOfMinute_u147X0 rfl rfl rfl rfl (by decide +kernel) ⟨Nat.le_of_ble_eq_true rfl, Nat.le_of_ble_eq_true rfl⟩) (gp_preV hKn hG (cp_obj hcg) rfl) rfl rfl hl.1 rfl (lv_room (Nat.le_of_ble_eq_true rfl)) dX11_forget_43 ⟨Nat.le_of_ble_eq_true rfl, Nat.le_of_ble_eq_true rfl⟩
        · exact va_runU (As := [.int v2]) (rest := []) ⟨hx, hb, hml, hown, hts⟩ (c_X5_placeOfMinute (l := l) (D := D) (b := b) (cI := cI) (cL := cL) hc43) (va_cwU 1 hts gX11_forget_X5_placeOfMinute_u147X1 rfl rfl rfl rfl (by decide +kernel) ⟨Nat.le_of_ble_eq_true rfl, Nat.le_of_ble_eq_true rfl⟩) (gp_preV hKn hG (cp_obj hcg) rfl) rfl rfl hl.1 rfl (lv_room (Nat.le_of_ble_eq_true rfl)) dX11_forget_43 ⟨Nat.le_of_ble_eq_true rfl, Nat.le_of_ble_eq_true rfl⟩
        · exact va_runU (As := [.int v2]) (rest := []) ⟨hx, hb, hml, hown, hts⟩ (c_X5_placeOfMinute (l := l) (D := D) (b := b) (cI := cI) (cL := cL) hc43) (va_cwU 1 hts gX11_forget_X5_placeOfMinute_u147X3 rfl rfl rfl rfl (by decide +kernel) ⟨Nat.le_of_ble_eq_true rfl, Nat.le_of_ble_eq_true rfl⟩) (gp_preV hKn hG (cp_obj hcg) rfl) rfl rfl hl.1 rfl (lv_room (Nat.le_of_ble_eq_true rfl)) dX11_forget_43 ⟨Nat.le_of_ble_eq_true rfl, Nat.le_of_ble_eq_true rfl⟩
        · exact va_runU (As := [.int v2]) (rest := []) ⟨hx, hb, hml, hown, hts⟩ (c_X5_placeOfMinute (l := l) (D := D) (b := b) (cI := cI) (cL := cL) hc43) (va_cwU 1 hts gX11_forget_X5_placeOfMinute_u147X4 rfl rfl rfl rfl (by decide +kernel) ⟨Nat.le_of_ble_eq_true rfl, Nat.le_of_ble_eq_true rfl⟩) (gp_preV hKn hG (cp_obj hcg) rfl) rfl rfl hl.1 rfl (lv_room (Nat.le_of_ble_eq_true rfl)) dX11_forget_43 ⟨Nat.le_of_ble_eq_true rfl, Nat.le_of_ble_eq_true rfl⟩
        · exact va_runV (As := [.int v2]) (rest := []) ⟨hx, hb, hml, hown, hts⟩ (c_X5_placeOfMinute (l := l) (D := D) (b := b) (cI := cI) (cL := cL) hc43) (cwV 1 hts gX11_forget_X5_placeOfMinute rfl rfl rfl (by decide +kernel) ⟨Nat.le_of_ble_eq_true rfl, Nat.le_of_ble_eq_true rfl⟩) (gp_preV hKn hG (cp_obj hcg) rfl) rfl rfl hl.1 rfl (lv_room (Nat.le_of_ble_eq_true rfl)) dX11_forget_43 ⟨Nat.le_of_ble_eq_true rfl, Nat.le_of_ble_eq_true rfl⟩
        · exact va_runU (As := [.int v2]) (rest := []) ⟨hx, hb, hml, hown, hts⟩ (c_X5_placeOfMinute (l := l) (D := D) (b := b) (cI := cI) (cL := cL) hc43) (va_cwU 1 hts gX11_forget_X5_placeOfMinute_u147X7 rfl rfl rfl rfl (by decide +kernel) ⟨Nat.le_of_ble_eq_true rfl, Nat.le_of_ble_eq_true rfl⟩) (gp_preV hKn hG (cp_obj hcg) rfl) rfl rfl hl.1 rfl (lv_room (Nat.le_of_ble_eq_true rfl)) dX11_forget_43 ⟨Nat.le_of_ble_eq_true rfl, Nat.le_of_ble_eq_true rfl⟩
        · exact va_runU (As := [.int v2]) (rest := []) ⟨hx, hb, hml, hown, hts⟩ (c_X5_placeOfMinute (l := l) (D := D) (b := b) (cI := cI) (cL := cL) hc43) (va_cwU 1 hts gX11_forget_X5_placeOfMinute_u147X8 rfl rfl rfl rfl (by decide +kernel) ⟨Nat.le_of_ble_eq_true rfl, Nat.le_of_ble_eq_true rfl⟩) (gp_preV hKn hG (cp_obj hcg) rfl) rfl rfl hl.1 rfl (lv_room (Nat.le_of_ble_eq_true rfl)) dX11_forget_43 ⟨Nat.le_of_ble_eq_true rfl, Nat.le_of_ble_eq_true rfl⟩
      refine gp_callI hrun43 hS (fun H locs hG hS => ?_)
      refine lv_istore (lv' := [(5, .int o43), (4, .int o24), (3, .ref n10), (0, .ref h0), (1, .int v1), (2, .int v2)]) hx hb dX11_forget_46 hl (by decide) rfl (fun ls hl => ?_)
      refine lv_iload hx hb dX11_forget_48 (lv_at hl 0 rfl) ?_
      obtain ⟨j50, hj50, hf⟩ := gb_b hf
      have hJ50 : ∀ (H : Heap) (locs : List Loc) (ls : Array Slot), GP D b M (gW cI cL gv) H → va_S (gA b) s.heap H locs → lv_has ls 6 [] → W p l e rm_X11_forget s m [.ref h0, .int v1, .int v2].toArray below meth c H locs 0 0 (MQ below (gQ D b (some (.int R.1)) M (gW cI cL R.2)) [.ref h0, .int v1, .int v2].toArray s 0 0 (gA b)) (F0 m 72 ls [.int j50]) := by
        intro H locs ls hG hS hl
        have hf := Option.some.inj hf
        subst hf
        exact gp_retI hx hb hr hlocks hG hS (Nat.le_of_ble_eq_true rfl) (Nat.le_of_ble_eq_true rfl) dX11_forget_72
      refine lv_if_ge (tgt := 58) hx hb dX11_forget_50 (by decide) (fun c50 => ?_) (fun c50 => ?_)
      · have hj50 := gb_t c50 hj50
        refine lv_aload_n hx hb dX11_forget_58 rfl (lv_at hl 2 rfl) ?_
        obtain ⟨o59, hc59, hj50⟩ := gb_b hj50
        have hrun59 : va_Run p l e rm_X11_forget s m [.ref h0, .int v1, .int v2].toArray below meth c H locs 0 0 0 0 (F0 m 59 ls ([].reverse ++ .ref n10 :: [])) [] (gQ D b (some (.int o59)) M (gW cI cL gv) (Value.ref n10 :: []).toArray) (gA b) := by
          obtain ⟨oc, hcO, hc59⟩ := gb_b hc59
          obtain ⟨hcg, hci⟩ := gfO_s hcO
          obtain ⟨kc, fc⟩ := oc
          dsimp only at hci hcg hc59
          rcases gLC_7 hci with rfl | rfl | rfl | rfl | rfl | rfl | rfl
          · have hc59 : f_X0_room n10 = some o59 := hc59
            exact va_runU (As := []) (rest := []) ⟨hx, hb, hml, hown, hts⟩ (c_X0_room (l := l) (D := D) (b := b) (cI := cI) (cL := cL) hc59) (va_cwO 0 hts gX11_forget_X0_room_u150X0 rfl rfl rfl (List.mem_of_getElem? (i := 57) rfl) (by decide +kernel) ⟨Nat.le_of_ble_eq_true rfl, Nat.le_of_ble_eq_true rfl⟩) (gp_preV hKn hG (cp_obj hcg) rfl) rfl rfl hl.1 rfl (lv_room (Nat.le_of_ble_eq_true rfl)) dX11_forget_59 ⟨Nat.le_of_ble_eq_true rfl, Nat.le_of_ble_eq_true rfl⟩
          · have hc59 : f_X5_room n10 = some o59 := hc59
            exact va_runU (As := []) (rest := []) ⟨hx, hb, hml, hown, hts⟩ (c_X5_room (l := l) (D := D) (b := b) (cI := cI) (cL := cL) hc59) (va_cwU 0 hts gX11_forget_X5_room_u150X1 rfl rfl rfl rfl (by decide +kernel) ⟨Nat.le_of_ble_eq_true rfl, Nat.le_of_ble_eq_true rfl⟩) (gp_preV hKn hG (cp_obj hcg) rfl) rfl rfl hl.1 rfl (lv_room (Nat.le_of_ble_eq_true rfl)) dX11_forget_59 ⟨Nat.le_of_ble_eq_true rfl, Nat.le_of_ble_eq_true rfl⟩
          · have hc59 : f_X5_room n10 = some o59 := hc59
            exact va_runU (As := []) (rest := []) ⟨hx, hb, hml, hown, hts⟩ (c_X5_room (l := l) (D := D) (b := b) (cI := cI) (cL := cL) hc59) (va_cwU 0 hts gX11_forget_X5_room_u150X3 rfl rfl rfl rfl (by decide +kernel) ⟨Nat.le_of_ble_eq_true rfl, Nat.le_of_ble_eq_true rfl⟩) (gp_preV hKn hG (cp_obj hcg) rfl) rfl rfl hl.1 rfl (lv_room (Nat.le_of_ble_eq_true rfl)) dX11_forget_59 ⟨Nat.le_of_ble_eq_true rfl, Nat.le_of_ble_eq_true rfl⟩
          · have hc59 : f_X5_room n10 = some o59 := hc59
            exact va_runU (As := []) (rest := []) ⟨hx, hb, hml, hown, hts⟩ (c_X5_room (l := l) (D := D) (b := b) (cI := cI) (cL := cL) hc59) (va_cwU 0 hts gX11_forget_X5_room_u150X4 rfl rfl rfl rfl (by decide +kernel) ⟨Nat.le_of_ble_eq_true rfl, Nat.le_of_ble_eq_true rfl⟩) (gp_preV hKn hG (cp_obj hcg) rfl) rfl rfl hl.1 rfl (lv_room (Nat.le_of_ble_eq_true rfl)) dX11_forget_59 ⟨Nat.le_of_ble_eq_true rfl, Nat.le_of_ble_eq_true rfl⟩
          · have hc59 : f_X5_room n10 = some o59 := hc59
            exact va_runV (As := []) (rest := []) ⟨hx, hb, hml, hown, hts⟩ (c_X5_room (l := l) (D := D) (b := b) (cI := cI) (cL := cL) hc59) (cwV 0 hts gX11_forget_X5_room rfl rfl rfl (by decide +kernel) ⟨Nat.le_of_ble_eq_true rfl, Nat.le_of_ble_eq_true rfl⟩) (gp_preV hKn hG (cp_obj hcg) rfl) rfl rfl hl.1 rfl (lv_room (Nat.le_of_ble_eq_true rfl)) dX11_forget_59 ⟨Nat.le_of_ble_eq_true rfl, Nat.le_of_ble_eq_true rfl⟩
          · have hc59 : f_X7_room n10 = some o59 := hc59
            exact va_runU (As := []) (rest := []) ⟨hx, hb, hml, hown, hts⟩ (c_X7_room (l := l) (D := D) (b := b) (cI := cI) (cL := cL) hc59) (va_cwO 0 hts gX11_forget_X7_room_u150X7 rfl rfl rfl (List.mem_of_getElem? (i := 57) rfl) (by decide +kernel) ⟨Nat.le_of_ble_eq_true rfl, Nat.le_of_ble_eq_true rfl⟩) (gp_preV hKn hG (cp_obj hcg) rfl) rfl rfl hl.1 rfl (lv_room (Nat.le_of_ble_eq_true rfl)) dX11_forget_59 ⟨Nat.le_of_ble_eq_true rfl, Nat.le_of_ble_eq_true rfl⟩
          · have hc59 : f_X5_room n10 = some o59 := hc59
            exact va_runU (As := []) (rest := []) ⟨hx, hb, hml, hown, hts⟩ (c_X5_room (l := l) (D := D) (b := b) (cI := cI) (cL := cL) hc59) (va_cwU 0 hts gX11_forget_X5_room_u150X8 rfl rfl rfl rfl (by decide +kernel) ⟨Nat.le_of_ble_eq_true rfl, Nat.le_of_ble_eq_true rfl⟩) (gp_preV hKn hG (cp_obj hcg) rfl) rfl rfl hl.1 rfl (lv_room (Nat.le_of_ble_eq_true rfl)) dX11_forget_59 ⟨Nat.le_of_ble_eq_true rfl, Nat.le_of_ble_eq_true rfl⟩
        refine gp_callI hrun59 hS (fun H locs hG hS => ?_)
        refine lv_aload_n hx hb dX11_forget_62 rfl (lv_at hl 2 rfl) ?_
        obtain ⟨t63, ht63, hj50⟩ := gb_b hj50
        refine cp_get (v := .int t63) hx hb hts gclL hown hK hG 3 (gfI_s ht63) (by decide) (hts _ (List.mem_of_getElem? (i := 2) rfl)) (fun _ h9 => h9) dX11_forget_63 ?_
        refine lv_isub hx hb dX11_forget_66 ?_
        refine lv_iload hx hb dX11_forget_67 (lv_at hl 0 rfl) ?_
        refine lv_iadd hx hb dX11_forget_69 ?_
        refine lv_iconst (v := 1) hx hb dX11_forget_70 (by decide) ?_
        refine lv_iadd hx hb dX11_forget_71 ?_
        have hj50 := Option.some.inj hj50
        subst hj50
        exact (hJ50 H locs ls hG hS (lv_sub hl [] rfl))
      · have hj50 := gb_f c50 hj50
        refine lv_bipush (v := (-9 : Int32)) hx hb dX11_forget_53 (by decide) ?_
        refine lv_goto (tgt := 72) hx hb dX11_forget_55 (by decide) ?_
        have hj50 := Option.some.inj hj50
        subst hj50
        exact (hJ50 H locs ls hG hS (lv_sub hl [] rfl))
    · have hf := gb_f c31 hf
      refine lv_aload_n hx hb dX11_forget_34 rfl (lv_at hl 2 rfl) ?_
      refine lv_iload hx hb dX11_forget_35 (lv_at hl 0 rfl) ?_
      obtain ⟨o37, hc37, hf⟩ := gb_b hf
      obtain ⟨oc37, hcO37, hc37⟩ := gb_b hc37
      obtain ⟨hcg37, hci37⟩ := gfO_s hcO37
      have hci37 := List.mem_singleton.mp hci37
      obtain ⟨kc37, fc37⟩ := oc37
      dsimp only at hci37 hcg37
      subst hci37
      refine gp_callI (va_runV (As := [.int o24]) (rest := []) ⟨hx, hb, hml, hown, hts⟩ (c_X11_refuse (l := l) (D := D) (b := b) (cI := cI) (cL := cL) hc37) (cwV 1 hts gX11_forget_X11_refuse rfl rfl rfl (by decide +kernel) ⟨Nat.le_of_ble_eq_true rfl, Nat.le_of_ble_eq_true rfl⟩) (gp_preV hKn hG (cp_obj hcg37) rfl) rfl rfl hl.1 rfl (lv_room (Nat.le_of_ble_eq_true rfl)) dX11_forget_37 ⟨Nat.le_of_ble_eq_true rfl, Nat.le_of_ble_eq_true rfl⟩) hS (fun H locs hG hS => ?_)
      have hf := Option.some.inj hf
      subst hf
      exact gp_retI hx hb hr hlocks hG hS (Nat.le_of_ble_eq_true rfl) (Nat.le_of_ble_eq_true rfl) dX11_forget_40
  · intro e10
    rw [e10] at hl
    rw [e10] at hf
    dsimp only at hf
    refine lv_aload_n hx hb dX11_forget_13 rfl (lv_at hl 1 rfl) ?_
    refine lv_iconst (v := (-1 : Int32)) hx hb dX11_forget_14 (by decide) ?_
    obtain ⟨o15, hc15, hf⟩ := gb_b hf
    obtain ⟨oc15, hcO15, hc15⟩ := gb_b hc15
    obtain ⟨hcg15, hci15⟩ := gfO_s hcO15
    have hci15 := List.mem_singleton.mp hci15
    obtain ⟨kc15, fc15⟩ := oc15
    dsimp only at hci15 hcg15
    subst hci15
    refine gp_callI (va_runV (As := [.int (-1 : Int32)]) (rest := []) ⟨hx, hb, hml, hown, hts⟩ (c_X11_refuse (l := l) (D := D) (b := b) (cI := cI) (cL := cL) hc15) (cwV 1 hts gX11_forget_X11_refuse rfl rfl rfl (by decide +kernel) ⟨Nat.le_of_ble_eq_true rfl, Nat.le_of_ble_eq_true rfl⟩) (gp_preV hKn hG (cp_obj hcg15) rfl) rfl rfl hl.1 rfl (lv_room (Nat.le_of_ble_eq_true rfl)) dX11_forget_15 ⟨Nat.le_of_ble_eq_true rfl, Nat.le_of_ble_eq_true rfl⟩) hS (fun H locs hG hS => ?_)
    have hf := Option.some.inj hf
    subst hf
    exact gp_retI hx hb hr hlocks hG hS (Nat.le_of_ble_eq_true rfl) (Nat.le_of_ble_eq_true rfl) dX11_forget_18
-- X11_go
abbrev rm_X11_go : Room := { frames := 5, cells := 0, slots := 0, locals := 124 }
set_option maxHeartbeats 4000000 in
set_option maxRecDepth 100000 in
theorem c_X11_go {v1 : Int32} {v2 : Int32} {R : Int32 × (Nat → GV)} (hf : f_X11_go gv h0 v1 v2 = some R) : Met l yX11_go wsX11_go rm_X11_go (va_Pc [.ref h0, .int v1, .int v2] (gPre D b M (gW cI cL gv) (gTy cI cL))) (gQ D b (some (.int R.1)) M (gW cI cL R.2)) 0 0 (gA b) := by
  refine gp_met (cc := cX11_go) (maxL := 3) (ret := (some .int)) (by decide) rfl (Nat.le_of_ble_eq_true rfl) ?_
  intro p e s m below meth c X ls hG hl
  obtain ⟨H, hH0⟩ : ∃ H : Heap, H = s.heap := ⟨_, rfl⟩
  rw [← hH0] at hG ⊢
  have hS : va_S (gA b) s.heap H [] := by rw [hH0]; exact va_S.rf
  obtain ⟨locs, hlo⟩ : ∃ z : List Loc, z = [] := ⟨_, rfl⟩
  rw [← hlo] at hS ⊢
  unfold f_X11_go at hf
  obtain ⟨hx, hb, hr, hml, hown, hts, hlocks, hKn, hBs⟩ := id X
  have hK := hKn.1
  have gclX11 : gcl [9] TX11 8 wsX11_go := gcl_1 rfl (fun _ h => List.mem_cons_of_mem _ (List.mem_append_left _ (List.mem_append_left _ (List.mem_append_left _ (List.mem_append_left _ (List.mem_append_left _ (List.mem_append_left _ (List.mem_append_left _ (List.mem_append_left _ (List.mem_append_right _ h))))))))))
  have hl : lv_has ls 3 [(0, .ref h0), (1, .int v1), (2, .int v2)] := hl
  refine lv_aload_n hx hb dX11_go_0 rfl (lv_at hl 0 rfl) ?_
  refine lv_aload_n hx hb dX11_go_1 rfl (lv_at hl 0 rfl) ?_
  obtain ⟨t2, ht2, hf⟩ := gb_b hf
  refine cp_get (v := va_rf t2) hx hb hts gclX11 hown hK hG 4 (gfR_s ht2) (by decide) (hts _ (List.mem_of_getElem? (i := 1) rfl)) (fun _ h9 => h9) dX11_go_2 ?_
  refine lv_iload_n hx hb dX11_go_5 rfl (lv_at hl 1 rfl) ?_
  refine lv_iload_n hx hb dX11_go_6 rfl (lv_at hl 2 rfl) ?_
  obtain ⟨q7, hq7, hf⟩ := gb_b hf
  refine W.eq (g2 := F0 m 7 ls [.int v2, .int v1, .ref q7, .ref h0]) (congrArg (fun z => F0 m 7 ls [.int v2, .int v1, va_rf z, .ref h0]) hq7) ?_
  obtain ⟨o7, hc7, hf⟩ := gb_b hf
  obtain ⟨oc7, hcO7, hc7⟩ := gb_b hc7
  obtain ⟨hcg7, hci7⟩ := gfO_s hcO7
  have hci7 := List.mem_singleton.mp hci7
  obtain ⟨kc7, fc7⟩ := oc7
  dsimp only at hci7 hcg7
  subst hci7
  refine gp_callI (va_runV (As := [.int v1, .int v2]) (rest := [.ref h0]) ⟨hx, hb, hml, hown, hts⟩ (c_X10_walk (l := l) (D := D) (b := b) (cI := cI) (cL := cL) hc7) (cwV 2 hts gX11_go_X10_walk rfl rfl rfl (by decide +kernel) ⟨Nat.le_of_ble_eq_true rfl, Nat.le_of_ble_eq_true rfl⟩) (gp_preV hKn hG (cp_obj hcg7) rfl) rfl rfl hl.1 rfl (lv_room (Nat.le_of_ble_eq_true rfl)) dX11_go_7 ⟨Nat.le_of_ble_eq_true rfl, Nat.le_of_ble_eq_true rfl⟩) hS (fun H locs hG hS => ?_)
  obtain ⟨o10, hc10, hf⟩ := gb_b hf
  obtain ⟨oc10, hcO10, hc10⟩ := gb_b hc10
  obtain ⟨hcg10, hci10⟩ := gfO_s hcO10
  have hci10 := List.mem_singleton.mp hci10
  obtain ⟨kc10, fc10⟩ := oc10
  dsimp only at hci10 hcg10
  subst hci10
  refine gp_callI (va_runV (As := [.int o7.1]) (rest := []) ⟨hx, hb, hml, hown, hts⟩ (c_X11_counted (l := l) (D := D) (b := b) (cI := cI) (cL := cL) hc10) (cwV 1 hts gX11_go_X11_counted rfl rfl rfl (by decide +kernel) ⟨Nat.le_of_ble_eq_true rfl, Nat.le_of_ble_eq_true rfl⟩) (gp_preV hKn hG (cp_obj hcg10) rfl) rfl rfl hl.1 rfl (lv_room (Nat.le_of_ble_eq_true rfl)) dX11_go_10 ⟨Nat.le_of_ble_eq_true rfl, Nat.le_of_ble_eq_true rfl⟩) hS (fun H locs hG hS => ?_)
  have hf := Option.some.inj hf
  subst hf
  exact gp_retI hx hb hr hlocks hG hS (Nat.le_of_ble_eq_true rfl) (Nat.le_of_ble_eq_true rfl) dX11_go_13
-- X11_image
abbrev rm_X11_image : Room := { frames := 7, cells := 14, slots := 98, locals := 153 }
set_option maxHeartbeats 4000000 in
set_option maxRecDepth 100000 in
theorem c_X11_image {R : Int32 × (Nat → GV) × Nat} (hf : f_X11_image gv M h0 = some R) : Met l yX11_image wsX11_image rm_X11_image (va_Pc [.ref h0] (gPre D b M (gW cI cL gv) (gTy cI cL))) (gQ D b (some (.int R.1)) R.2.2 (gW cI cL R.2.1)) 14 98 (gA b) := by
  refine gp_met (cc := cX11_image) (maxL := 1) (ret := (some .int)) (by decide) rfl (Nat.le_of_ble_eq_true rfl) ?_
  intro p e s m below meth c X ls hG hl
  obtain ⟨H, hH0⟩ : ∃ H : Heap, H = s.heap := ⟨_, rfl⟩
  rw [← hH0] at hG ⊢
  have hS : va_S (gA b) s.heap H [] := by rw [hH0]; exact va_S.rf
  obtain ⟨locs, hlo⟩ : ∃ z : List Loc, z = [] := ⟨_, rfl⟩
  rw [← hlo] at hS ⊢
  unfold f_X11_image at hf
  obtain ⟨hx, hb, hr, hml, hown, hts, hlocks, hKn, hBs⟩ := id X
  have hK := hKn.1
  have gclX10 : gcl [8] TX10 6 wsX11_image := gcl_1 rfl (fun _ h => List.mem_cons_of_mem _ (List.mem_append_left _ (List.mem_append_left _ (List.mem_append_left _ (List.mem_append_left _ (List.mem_append_left _ (List.mem_append_left _ (List.mem_append_left _ (List.mem_append_right _ h)))))))))
  have gclX11 : gcl [9] TX11 8 wsX11_image := gcl_1 rfl (fun _ h => List.mem_cons_of_mem _ (List.mem_append_left _ (List.mem_append_left _ (List.mem_append_left _ (List.mem_append_left _ (List.mem_append_left _ (List.mem_append_left _ (List.mem_append_left _ (List.mem_append_left _ (List.mem_append_right _ h))))))))))
  have hl : lv_has ls 1 [(0, .ref h0)] := hl
  refine lv_aload_n hx hb dX11_image_0 rfl (lv_at hl 0 rfl) ?_
  obtain ⟨t1, ht1, hf⟩ := gb_b hf
  refine cp_get (v := va_rf t1) hx hb hts gclX11 hown hK hG 3 (gfR_s ht1) (by decide) (hts _ (List.mem_of_getElem? (i := 1) rfl)) (fun _ h9 => h9) dX11_image_1 ?_
  refine lv_aload_n hx hb dX11_image_4 rfl (lv_at hl 0 rfl) ?_
  obtain ⟨t5, ht5, hf⟩ := gb_b hf
  refine cp_get (v := va_rf t5) hx hb hts gclX11 hown hK hG 4 (gfR_s ht5) (by decide) (hts _ (List.mem_of_getElem? (i := 2) rfl)) (fun _ h9 => h9) dX11_image_5 ?_
  obtain ⟨q8, hq8, hf⟩ := gb_b hf
  refine W.eq (g2 := F0 m 8 ls [va_rf t5, .ref q8]) (congrArg (fun z => F0 m 8 ls [va_rf t5, va_rf z]) hq8) ?_
  obtain ⟨o8, hc8, hf⟩ := gb_b hf
  obtain ⟨oc8, hcO8, hc8⟩ := gb_b hc8
  obtain ⟨hcg8, hci8⟩ := gfO_s hcO8
  have hci8 := List.mem_singleton.mp hci8
  obtain ⟨kc8, fc8⟩ := oc8
  dsimp only at hci8 hcg8
  subst hci8
  refine gp_callV (va_runV (As := [va_rf t5]) (rest := []) ⟨hx, hb, hml, hown, hts⟩ (c_X10_become (l := l) (D := D) (b := b) (cI := cI) (cL := cL) hc8) (cwV 1 hts gX11_image_X10_become rfl rfl rfl (by decide +kernel) ⟨Nat.le_of_ble_eq_true rfl, Nat.le_of_ble_eq_true rfl⟩) (gp_preV hKn hG (cp_obj hcg8) rfl) rfl rfl hl.1 rfl (lv_room (Nat.le_of_ble_eq_true rfl)) dX11_image_8 ⟨Nat.le_of_ble_eq_true rfl, Nat.le_of_ble_eq_true rfl⟩) hS (fun H locs hG hS => ?_)
  refine lv_aload_n hx hb dX11_image_11 rfl (lv_at hl 0 rfl) ?_
  refine lv_iconst (v := 1) hx hb dX11_image_12 (by decide) ?_
  obtain ⟨g13, ht13, hf⟩ := gb_b hf
  refine cp_put (tyk := .boolean) hx hb hts gclX11 tyX11 tyX11_ok nmX11 hown hK hG hS 7 ht13 (by decide) (hts _ (List.mem_of_getElem? (i := 3) rfl)) (fun _ h9 => h9) rfl (by decide +kernel) (by decide) (by decide) dX11_image_13 (fun H locs hG hS => ?_)
  refine lv_aload_n hx hb dX11_image_16 rfl (lv_at hl 0 rfl) ?_
  obtain ⟨t17, ht17, hf⟩ := gb_b hf
  refine cp_get (v := va_rf t17) hx hb hts gclX11 hown hK hG 4 (gfR_s ht17) (by decide) (hts _ (List.mem_of_getElem? (i := 2) rfl)) (fun _ h9 => h9) dX11_image_17 ?_
  obtain ⟨q20, hq20, hf⟩ := gb_b hf
  refine W.eq (g2 := F0 m 20 ls [.ref q20]) (congrArg (fun z => F0 m 20 ls [va_rf z]) hq20) ?_
  obtain ⟨t20, ht20, hf⟩ := gb_b hf
  refine cp_get (v := .int t20) hx hb hts gclX10 hown hK hG 5 (gfI_s ht20) (by decide) (hts _ (List.mem_of_getElem? (i := 4) rfl)) (fun _ h9 => h9) dX11_image_20 ?_
  have hf := Option.some.inj hf
  subst hf
  exact gp_retI hx hb hr hlocks hG hS (Nat.le_of_ble_eq_true rfl) (Nat.le_of_ble_eq_true rfl) dX11_image_23
-- X11_init
abbrev rm_X11_init : Room := { frames := 2, cells := 13, slots := 165, locals := 48 }
set_option maxHeartbeats 4000000 in
set_option maxRecDepth 100000 in
theorem c_X11_init {R : (Nat → GV) × Nat} (hf : f_X11_init gv M h0 = some R) : Met l yX11_init wsX11_init rm_X11_init (va_Pc [.ref h0] (gPre D b M (gW cI cL gv) (gTy cI cL))) (gQ D b none R.2 (gW cI cL R.1)) 13 165 (gA b) := by
  refine gp_metI (cc := cX11_init) (maxL := 1) (ret := none) (by decide) rfl (Nat.le_of_ble_eq_true rfl) ?_
  intro p e s m below meth c X hin0 ls hG hl
  obtain ⟨H, hH0⟩ : ∃ H : Heap, H = s.heap := ⟨_, rfl⟩
  rw [← hH0] at hG ⊢
  have hS : va_S (gA b) s.heap H [] := by rw [hH0]; exact va_S.rf
  obtain ⟨locs, hlo⟩ : ∃ z : List Loc, z = [] := ⟨_, rfl⟩
  rw [← hlo] at hS ⊢
  unfold f_X11_init at hf
  obtain ⟨hx, hb, hr, hml, hown, hts, hlocks, hKn, hBs⟩ := id X
  have hK := hKn.1
  have gclX11 : gcl [9] TX11 8 wsX11_init := gcl_1 rfl (fun _ h => List.mem_cons_of_mem _ (List.mem_append_left _ (List.mem_append_right _ h)))
  have hl : lv_has ls 1 [(0, .ref h0)] := hl
  refine lv_aload_n hx hb dX11_init_0 rfl (lv_at hl 0 rfl) ?_
  refine W.objInit hx hb hown (hts _ (List.mem_of_getElem? (i := 1) rfl)) (hts _ (List.mem_of_getElem? (i := 2) rfl)) (hts _ (List.mem_of_getElem? (i := 3) rfl)) rfl (by rw [hml]; exact hl.1) rfl dX11_init_1 (Nat.le_of_ble_eq_true rfl) (Nat.le_of_ble_eq_true rfl) ?_
  refine W.eq (g2 := F0 m 4 ls []) rfl ?_
  refine lv_aload_n hx hb dX11_init_4 rfl (lv_at hl 0 rfl) ?_
  refine gp_new (ci := 5) (fs := [.null, .int 0]) (C := RX6) (T := TX6) (N := 2) (g1 := gW cI cL (va_up gv M (.inl (5, [.null, .int 0])))) hx hb hts (fun _ h => List.mem_cons_of_mem _ (List.mem_append_left _ (List.mem_append_left _ (List.mem_append_right _ h)))) tyX6 tyX6_ok hown (hts _ (List.mem_of_getElem? (i := 4) rfl)) (hts _ (List.mem_of_getElem? (i := 5) rfl)) (hts _ (List.mem_of_getElem? (i := 6) rfl)) hK hG hS rfl (by intro j hj; rcases (show j = 0 ∨ j = 1 by omega) with rfl | rfl <;> rfl) (Nat.le_of_ble_eq_true rfl) (Nat.le_of_ble_eq_true rfl) (gW_up (e := .inl (5, [.null, .int 0]))) dX11_init_5 (fun H hG hS => ?_)
  refine lv_dup hx hb dX11_init_8 rfl ?_
  obtain ⟨o9, hc9, hf⟩ := gb_b hf
  refine gp_callV (va_runIN (As := []) (rest := [.ref M, .ref h0]) ⟨hx, hb, hml, hown, hts⟩ (c_X6_init (l := l) (D := D) (b := b) (cI := cI) (cL := cL) hc9) ⟨va_cnB 0 hts gX11_init_X6_init_n9 rfl rfl rfl (hKn.2.1 _ (List.mem_of_getElem? (i := 0) rfl)) (hts _ (List.mem_of_getElem? (i := 6) rfl)) (by decide +kernel) ⟨Nat.le_of_ble_eq_true rfl, Nat.le_of_ble_eq_true rfl⟩, rfl, (hts _ (List.mem_of_getElem? (i := 17) rfl))⟩ (gp_preS hKn hG) rfl rfl hl.1 rfl (lv_room (Nat.le_of_ble_eq_true rfl)) dX11_init_9 ⟨Nat.le_of_ble_eq_true rfl, Nat.le_of_ble_eq_true rfl⟩) hS (fun H locs hG hS => ?_)
  obtain ⟨g12, ht12, hf⟩ := gb_b hf
  refine cp_putF (tyk := (.object "LampsThatRemember$Letters")) hx hb hts gclX11 tyX11 tyX11_ok nmX11 hown hK hG hS 0 ht12 (by decide) (hts _ (List.mem_of_getElem? (i := 7) rfl)) (fun _ h9 => h9) rfl hin0 rfl (by decide +kernel) rfl rfl dX11_init_12 (fun H locs hG hS => ?_)
  refine lv_aload_n hx hb dX11_init_15 rfl (lv_at hl 0 rfl) ?_
  refine lv_bipush (v := 12) hx hb dX11_init_16 (by decide) ?_
  refine gp_newa (N' := 12) (g1 := gW cI cL (va_up g12 o9.2 (.inr (.inl (12, fun _ => 0))))) hx hb (hts _ (List.mem_of_getElem? (i := 8) rfl)) hK hG hS (by decide) (by decide) (by decide) (Nat.le_of_ble_eq_true rfl) (Nat.le_of_ble_eq_true rfl) (gW_up (e := .inr (.inl (12, fun _ => 0)))) dX11_init_18 (fun H hG hS => ?_)
  obtain ⟨g20, ht20, hf⟩ := gb_b hf
  refine cp_putF (tyk := .array .int) hx hb hts gclX11 tyX11 tyX11_ok nmX11 hown hK hG hS 1 ht20 (by decide) (hts _ (List.mem_of_getElem? (i := 9) rfl)) (fun _ h9 => h9) rfl hin0 rfl (by decide +kernel) rfl rfl dX11_init_20 (fun H locs hG hS => ?_)
  refine lv_aload_n hx hb dX11_init_23 rfl (lv_at hl 0 rfl) ?_
  refine lv_bipush (v := 7) hx hb dX11_init_24 (by decide) ?_
  refine gp_newa (N' := 7) (g1 := gW cI cL (va_up g20 (o9.2 + 1) (.inr (.inl (7, fun _ => 0))))) hx hb (hts _ (List.mem_of_getElem? (i := 8) rfl)) hK hG hS (by decide) (by decide) (by decide) (Nat.le_of_ble_eq_true rfl) (Nat.le_of_ble_eq_true rfl) (gW_up (e := .inr (.inl (7, fun _ => 0)))) dX11_init_26 (fun H hG hS => ?_)
  obtain ⟨g28, ht28, hf⟩ := gb_b hf
  refine cp_putF (tyk := .array .int) hx hb hts gclX11 tyX11 tyX11_ok nmX11 hown hK hG hS 2 ht28 (by decide) (hts _ (List.mem_of_getElem? (i := 10) rfl)) (fun _ h9 => h9) rfl hin0 rfl (by decide +kernel) rfl rfl dX11_init_28 (fun H locs hG hS => ?_)
  refine lv_aload_n hx hb dX11_init_31 rfl (lv_at hl 0 rfl) ?_
  refine gp_new (ci := 8) (fs := [.null, .null, .long 0, .int 0, .int 0, .int 0]) (C := RX10) (T := TX10) (N := 6) (g1 := gW cI cL (va_up g28 ((o9.2 + 1) + 1) (.inl (8, [.null, .null, .long 0, .int 0, .int 0, .int 0])))) hx hb hts (fun _ h => List.mem_cons_of_mem _ (List.mem_append_right _ h)) tyX10 tyX10_ok hown (hts _ (List.mem_of_getElem? (i := 11) rfl)) (hts _ (List.mem_of_getElem? (i := 12) rfl)) (hts _ (List.mem_of_getElem? (i := 13) rfl)) hK hG hS rfl (by intro j hj; rcases (show j = 0 ∨ j = 1 ∨ j = 2 ∨ j = 3 ∨ j = 4 ∨ j = 5 by omega) with rfl | rfl | rfl | rfl | rfl | rfl <;> rfl) (Nat.le_of_ble_eq_true rfl) (Nat.le_of_ble_eq_true rfl) (gW_up (e := .inl (8, [.null, .null, .long 0, .int 0, .int 0, .int 0]))) dX11_init_32 (fun H hG hS => ?_)
  refine lv_dup hx hb dX11_init_35 rfl ?_
  obtain ⟨o36, hc36, hf⟩ := gb_b hf
  refine gp_callV (va_runIN (As := []) (rest := [.ref ((o9.2 + 1) + 1), .ref h0]) ⟨hx, hb, hml, hown, hts⟩ (c_X10_init (l := l) (D := D) (b := b) (cI := cI) (cL := cL) hc36) ⟨va_cnB 0 hts gX11_init_X10_init_n25 rfl rfl rfl (hKn.2.1 _ (List.mem_of_getElem? (i := 1) rfl)) (hts _ (List.mem_of_getElem? (i := 13) rfl)) (by decide +kernel) ⟨Nat.le_of_ble_eq_true rfl, Nat.le_of_ble_eq_true rfl⟩, rfl, (hts _ (List.mem_of_getElem? (i := 21) rfl))⟩ (gp_preS hKn hG) rfl rfl hl.1 rfl (lv_room (Nat.le_of_ble_eq_true rfl)) dX11_init_36 ⟨Nat.le_of_ble_eq_true rfl, Nat.le_of_ble_eq_true rfl⟩) hS (fun H locs hG hS => ?_)
  obtain ⟨g39, ht39, hf⟩ := gb_b hf
  refine cp_putF (tyk := (.object "LampsThatRemember$Town")) hx hb hts gclX11 tyX11 tyX11_ok nmX11 hown hK hG hS 3 ht39 (by decide) (hts _ (List.mem_of_getElem? (i := 14) rfl)) (fun _ h9 => h9) rfl hin0 rfl (by decide +kernel) rfl rfl dX11_init_39 (fun H locs hG hS => ?_)
  refine lv_aload_n hx hb dX11_init_42 rfl (lv_at hl 0 rfl) ?_
  refine gp_new (ci := 8) (fs := [.null, .null, .long 0, .int 0, .int 0, .int 0]) (C := RX10) (T := TX10) (N := 6) (g1 := gW cI cL (va_up g39 o36.2 (.inl (8, [.null, .null, .long 0, .int 0, .int 0, .int 0])))) hx hb hts (fun _ h => List.mem_cons_of_mem _ (List.mem_append_right _ h)) tyX10 tyX10_ok hown (hts _ (List.mem_of_getElem? (i := 11) rfl)) (hts _ (List.mem_of_getElem? (i := 12) rfl)) (hts _ (List.mem_of_getElem? (i := 13) rfl)) hK hG hS rfl (by intro j hj; rcases (show j = 0 ∨ j = 1 ∨ j = 2 ∨ j = 3 ∨ j = 4 ∨ j = 5 by omega) with rfl | rfl | rfl | rfl | rfl | rfl <;> rfl) (Nat.le_of_ble_eq_true rfl) (Nat.le_of_ble_eq_true rfl) (gW_up (e := .inl (8, [.null, .null, .long 0, .int 0, .int 0, .int 0]))) dX11_init_43 (fun H hG hS => ?_)
  refine lv_dup hx hb dX11_init_46 rfl ?_
  obtain ⟨o47, hc47, hf⟩ := gb_b hf
  refine gp_callV (va_runIN (As := []) (rest := [.ref o36.2, .ref h0]) ⟨hx, hb, hml, hown, hts⟩ (c_X10_init (l := l) (D := D) (b := b) (cI := cI) (cL := cL) hc47) ⟨va_cnB 0 hts gX11_init_X10_init_n25 rfl rfl rfl (hKn.2.1 _ (List.mem_of_getElem? (i := 1) rfl)) (hts _ (List.mem_of_getElem? (i := 13) rfl)) (by decide +kernel) ⟨Nat.le_of_ble_eq_true rfl, Nat.le_of_ble_eq_true rfl⟩, rfl, (hts _ (List.mem_of_getElem? (i := 21) rfl))⟩ (gp_preS hKn hG) rfl rfl hl.1 rfl (lv_room (Nat.le_of_ble_eq_true rfl)) dX11_init_47 ⟨Nat.le_of_ble_eq_true rfl, Nat.le_of_ble_eq_true rfl⟩) hS (fun H locs hG hS => ?_)
  obtain ⟨g50, ht50, hf⟩ := gb_b hf
  refine cp_put (tyk := (.object "LampsThatRemember$Town")) hx hb hts gclX11 tyX11 tyX11_ok nmX11 hown hK hG hS 4 ht50 (by decide) (hts _ (List.mem_of_getElem? (i := 15) rfl)) (fun _ h9 => h9) rfl (by decide +kernel) rfl rfl dX11_init_50 (fun H locs hG hS => ?_)
  refine lv_aload_n hx hb dX11_init_53 rfl (lv_at hl 0 rfl) ?_
  refine gp_new (ci := 8) (fs := [.null, .null, .long 0, .int 0, .int 0, .int 0]) (C := RX10) (T := TX10) (N := 6) (g1 := gW cI cL (va_up g50 o47.2 (.inl (8, [.null, .null, .long 0, .int 0, .int 0, .int 0])))) hx hb hts (fun _ h => List.mem_cons_of_mem _ (List.mem_append_right _ h)) tyX10 tyX10_ok hown (hts _ (List.mem_of_getElem? (i := 11) rfl)) (hts _ (List.mem_of_getElem? (i := 12) rfl)) (hts _ (List.mem_of_getElem? (i := 13) rfl)) hK hG hS rfl (by intro j hj; rcases (show j = 0 ∨ j = 1 ∨ j = 2 ∨ j = 3 ∨ j = 4 ∨ j = 5 by omega) with rfl | rfl | rfl | rfl | rfl | rfl <;> rfl) (Nat.le_of_ble_eq_true rfl) (Nat.le_of_ble_eq_true rfl) (gW_up (e := .inl (8, [.null, .null, .long 0, .int 0, .int 0, .int 0]))) dX11_init_54 (fun H hG hS => ?_)
  refine lv_dup hx hb dX11_init_57 rfl ?_
  obtain ⟨o58, hc58, hf⟩ := gb_b hf
  refine gp_callV (va_runIN (As := []) (rest := [.ref o47.2, .ref h0]) ⟨hx, hb, hml, hown, hts⟩ (c_X10_init (l := l) (D := D) (b := b) (cI := cI) (cL := cL) hc58) ⟨va_cnB 0 hts gX11_init_X10_init_n25 rfl rfl rfl (hKn.2.1 _ (List.mem_of_getElem? (i := 1) rfl)) (hts _ (List.mem_of_getElem? (i := 13) rfl)) (by decide +kernel) ⟨Nat.le_of_ble_eq_true rfl, Nat.le_of_ble_eq_true rfl⟩, rfl, (hts _ (List.mem_of_getElem? (i := 21) rfl))⟩ (gp_preS hKn hG) rfl rfl hl.1 rfl (lv_room (Nat.le_of_ble_eq_true rfl)) dX11_init_58 ⟨Nat.le_of_ble_eq_true rfl, Nat.le_of_ble_eq_true rfl⟩) hS (fun H locs hG hS => ?_)
  obtain ⟨g61, ht61, hf⟩ := gb_b hf
  refine cp_put (tyk := (.object "LampsThatRemember$Town")) hx hb hts gclX11 tyX11 tyX11_ok nmX11 hown hK hG hS 5 ht61 (by decide) (hts _ (List.mem_of_getElem? (i := 16) rfl)) (fun _ h9 => h9) rfl (by decide +kernel) rfl rfl dX11_init_61 (fun H locs hG hS => ?_)
  have hf := Option.some.inj hf
  subst hf
  exact gp_retV hx hb hr hlocks hG hS (Nat.le_of_ble_eq_true rfl) (Nat.le_of_ble_eq_true rfl) dX11_init_64
-- X11_judge
abbrev rm_X11_judge : Room := { frames := 2, cells := 0, slots := 0, locals := 53 }
set_option maxHeartbeats 4000000 in
set_option maxRecDepth 100000 in
theorem w_X11_judge_28 {α : Type} {R : α} {K63 : Int32 → Option α} {K74 : Unit → Option α} {v0 : Nat} (X : gC p s m args meth c cX11_judge 5 (some .int) wsX11_judge RX11 D b (gTy cI cL)) : ∀ (n : Nat) (v2 : Int32) (v3 : Int32), L_X11_judge_28 K63 K74 gv v0 n v2 v3 = some R → (∀ (x : Int32), K63 x = some R → ∀ (H : Heap) (locs : List Loc) (ls : Array Slot), GP D b M (gW cI cL gv) H → va_S (gA b) s.heap H locs → lv_has ls 5 [(3, .int x)] → W p l e rm_X11_judge s m args below meth c H locs 0 0 Q (F0 m 63 ls [])) → (∀ (x : Unit), K74 x = some R → ∀ (H : Heap) (locs : List Loc) (ls : Array Slot), GP D b M (gW cI cL gv) H → va_S (gA b) s.heap H locs → lv_has ls 5 [] → W p l e rm_X11_judge s m args below meth c H locs 0 0 Q (F0 m 74 ls [])) → ∀ (H : Heap) (locs : List Loc) (ls : Array Slot), GP D b M (gW cI cL gv) H → va_S (gA b) s.heap H locs → lv_has ls 5 [(0, .ref v0), (2, .int v2), (3, .int v3)] → W p l e rm_X11_judge s m args below meth c H locs 0 0 Q (F0 m 28 ls []) := by
  obtain ⟨hx, hb, hr, hml, hown, hts, hlocks, hKn, hBs⟩ := id X
  have hK := hKn.1
  have gclX11 : gcl [9] TX11 8 wsX11_judge := gcl_1 rfl (fun _ h => List.mem_cons_of_mem _ (List.mem_append_left _ (List.mem_append_right _ h)))
  intro n
  induction n with
  | zero =>
    intro v2 v3 hf
    cases hf
  | succ n ih =>
    intro v2 v3 hf hk63 hk74 H locs ls hG hS hl
    rw [L_X11_judge_28.eq_2] at hf
    refine lv_iload_n hx hb dX11_judge_28 rfl (lv_at hl 2 rfl) ?_
    refine lv_aload_n hx hb dX11_judge_29 rfl (lv_at hl 0 rfl) ?_
    obtain ⟨t30, ht30, hf⟩ := gb_b hf
    refine cp_get (v := .int t30) hx hb hts gclX11 hown hK hG 6 (gfI_s ht30) (by decide) (hts _ (List.mem_of_getElem? (i := 2) rfl)) (fun _ h9 => h9) dX11_judge_30 ?_
    refine lv_icmp_ge (tgt := 74) hx hb dX11_judge_33 (by decide) (fun c33 => ?_) (fun c33 => ?_)
    · have hf := gb_t c33 hf
      exact (hk74 _ hf _ _ _ hG hS (lv_sub hl [] rfl))
    · have hf := gb_f c33 hf
      refine lv_aload_n hx hb dX11_judge_36 rfl (lv_at hl 0 rfl) ?_
      refine lv_iload_n hx hb dX11_judge_37 rfl (lv_at hl 2 rfl) ?_
      obtain ⟨o38, hc38, hf⟩ := gb_b hf
      obtain ⟨oc38, hcO38, hc38⟩ := gb_b hc38
      obtain ⟨hcg38, hci38⟩ := gfO_s hcO38
      have hci38 := List.mem_singleton.mp hci38
      obtain ⟨kc38, fc38⟩ := oc38
      dsimp only at hci38 hcg38
      subst hci38
      refine gp_callI (va_runV (As := [.int v3]) (rest := []) ⟨hx, hb, hml, hown, hts⟩ (c_X11_inRowAt (l := l) (D := D) (b := b) (cI := cI) (cL := cL) hc38) (cwV 1 hts gX11_judge_X11_inRowAt rfl rfl rfl (by decide +kernel) ⟨Nat.le_of_ble_eq_true rfl, Nat.le_of_ble_eq_true rfl⟩) (gp_preV hKn hG (cp_obj hcg38) rfl) rfl rfl hl.1 rfl (lv_room (Nat.le_of_ble_eq_true rfl)) dX11_judge_38 ⟨Nat.le_of_ble_eq_true rfl, Nat.le_of_ble_eq_true rfl⟩) hS (fun H locs hG hS => ?_)
      refine lv_istore (lv' := [(4, .int o38), (0, .ref v0), (2, .int v2), (3, .int v3)]) hx hb dX11_judge_41 hl (by decide) rfl (fun ls hl => ?_)
      refine lv_iload_n hx hb dX11_judge_43 rfl (lv_at hl 2 rfl) ?_
      refine lv_iconst (v := 1) hx hb dX11_judge_44 (by decide) ?_
      refine lv_aload_n hx hb dX11_judge_45 rfl (lv_at hl 1 rfl) ?_
      obtain ⟨t46, ht46, hf⟩ := gb_b hf
      refine cp_get (v := va_rf t46) hx hb hts gclX11 hown hK hG 4 (gfR_s ht46) (by decide) (hts _ (List.mem_of_getElem? (i := 1) rfl)) (fun _ h9 => h9) dX11_judge_46 ?_
      obtain ⟨q49, hq49, hf⟩ := gb_b hf
      refine W.eq (g2 := F0 m 49 ls [.ref q49, .int 1, .int v2]) (congrArg (fun z => F0 m 49 ls [va_rf z, .int 1, .int v2]) hq49) ?_
      obtain ⟨o49, hc49, hf⟩ := gb_b hf
      obtain ⟨oc49, hcO49, hc49⟩ := gb_b hc49
      obtain ⟨hcg49, hci49⟩ := gfO_s hcO49
      have hci49 := List.mem_singleton.mp hci49
      obtain ⟨kc49, fc49⟩ := oc49
      dsimp only at hci49 hcg49
      subst hci49
      refine gp_callL (va_runV (As := []) (rest := [.int 1, .int v2]) ⟨hx, hb, hml, hown, hts⟩ (c_X10_free (l := l) (D := D) (b := b) (cI := cI) (cL := cL) hc49) (cwV 0 hts gX11_judge_X10_free rfl rfl rfl (by decide +kernel) ⟨Nat.le_of_ble_eq_true rfl, Nat.le_of_ble_eq_true rfl⟩) (gp_preV hKn hG (cp_obj hcg49) rfl) rfl rfl hl.1 rfl (lv_room (Nat.le_of_ble_eq_true rfl)) dX11_judge_49 ⟨Nat.le_of_ble_eq_true rfl, Nat.le_of_ble_eq_true rfl⟩) hS (fun H locs hG hS => ?_)
      obtain ⟨o52, hc52, hf⟩ := gb_b hf
      refine gp_callL (va_runS (As := [.int v2, .int 1, .long o49]) (rest := []) ⟨hx, hb, hml, hown, hts⟩ (c_X2_within (l := l) (D := D) (b := b) (cI := cI) (cL := cL) hc52) (va_cwS 3 hts gX11_judge_X2_within rfl rfl rfl (by decide +kernel) ⟨Nat.le_of_ble_eq_true rfl, Nat.le_of_ble_eq_true rfl⟩) (gp_preS hKn hG) rfl rfl hl.1 rfl (lv_room (Nat.le_of_ble_eq_true rfl)) dX11_judge_52 ⟨Nat.le_of_ble_eq_true rfl, Nat.le_of_ble_eq_true rfl⟩) hS (fun H locs hG hS => ?_)
      refine lv_iload hx hb dX11_judge_55 (lv_at hl 0 rfl) ?_
      obtain ⟨o57, hc57, hf⟩ := gb_b hf
      refine gp_callI (va_runS (As := [.long o52, .int o38]) (rest := []) ⟨hx, hb, hml, hown, hts⟩ (c_X2_has (l := l) (D := D) (b := b) (cI := cI) (cL := cL) hc57) (va_cwS 2 hts gX11_judge_X2_has rfl rfl rfl (by decide +kernel) ⟨Nat.le_of_ble_eq_true rfl, Nat.le_of_ble_eq_true rfl⟩) (gp_preS hKn hG) rfl rfl hl.1 rfl (lv_room (Nat.le_of_ble_eq_true rfl)) dX11_judge_57 ⟨Nat.le_of_ble_eq_true rfl, Nat.le_of_ble_eq_true rfl⟩) hS (fun H locs hG hS => ?_)
      refine lv_if_ne (tgt := 65) hx hb dX11_judge_60 (by decide) (fun c60 => ?_) (fun c60 => ?_)
      · have hf := gb_f c60 hf
        refine lv_iload hx hb dX11_judge_65 (lv_at hl 0 rfl) ?_
        refine lv_istore_n (lv' := [(2, .int o38), (4, .int o38), (0, .ref v0), (3, .int v3)]) hx hb dX11_judge_67 rfl hl (by decide) rfl (fun ls hl => ?_)
        refine lv_iinc (v := v3 + 1) (lv' := [(3, .int (v3 + 1)), (2, .int o38), (4, .int o38), (0, .ref v0)]) hx hb dX11_judge_68 hl (k := 3) rfl rfl (by decide) rfl (fun ls hl => ?_)
        refine lv_goto (tgt := 28) hx hb dX11_judge_71 (by decide) ?_
        exact ih _ _ hf hk63 hk74 _ _ _ hG hS (lv_sub hl [3, 1, 0] rfl)
      · have hf := gb_t c60 hf
        exact (hk63 _ hf _ _ _ hG hS (lv_sub hl [3] rfl))
set_option maxHeartbeats 4000000 in
set_option maxRecDepth 100000 in
theorem c_X11_judge {v1 : Int32} {R : Int32 × (Nat → GV)} (hf : f_X11_judge gv h0 v1 = some R) : Met l yX11_judge wsX11_judge rm_X11_judge (va_Pc [.ref h0, .int v1] (gPre D b M (gW cI cL gv) (gTy cI cL))) (gQ D b (some (.int R.1)) M (gW cI cL R.2)) 0 0 (gA b) := by
  refine gp_met (cc := cX11_judge) (maxL := 5) (ret := (some .int)) (by decide) rfl (Nat.le_of_ble_eq_true rfl) ?_
  intro p e s m below meth c X ls hG hl
  obtain ⟨H, hH0⟩ : ∃ H : Heap, H = s.heap := ⟨_, rfl⟩
  rw [← hH0] at hG ⊢
  have hS : va_S (gA b) s.heap H [] := by rw [hH0]; exact va_S.rf
  obtain ⟨locs, hlo⟩ : ∃ z : List Loc, z = [] := ⟨_, rfl⟩
  rw [← hlo] at hS ⊢
  unfold f_X11_judge at hf
  obtain ⟨hx, hb, hr, hml, hown, hts, hlocks, hKn, hBs⟩ := id X
  have hK := hKn.1
  have gclX11 : gcl [9] TX11 8 wsX11_judge := gcl_1 rfl (fun _ h => List.mem_cons_of_mem _ (List.mem_append_left _ (List.mem_append_right _ h)))
  have hl : lv_has ls 5 [(0, .ref h0), (1, .int v1)] := hl
  refine lv_aload_n hx hb dX11_judge_0 rfl (lv_at hl 0 rfl) ?_
  obtain ⟨t1, ht1, hf⟩ := gb_b hf
  refine cp_get (v := va_rf t1) hx hb hts gclX11 hown hK hG 4 (gfR_s ht1) (by decide) (hts _ (List.mem_of_getElem? (i := 1) rfl)) (fun _ h9 => h9) dX11_judge_1 ?_
  refine lv_iload_n hx hb dX11_judge_4 rfl (lv_at hl 1 rfl) ?_
  obtain ⟨q5, hq5, hf⟩ := gb_b hf
  refine W.eq (g2 := F0 m 5 ls [.int v1, .ref q5]) (congrArg (fun z => F0 m 5 ls [.int v1, va_rf z]) hq5) ?_
  obtain ⟨o5, hc5, hf⟩ := gb_b hf
  obtain ⟨oc5, hcO5, hc5⟩ := gb_b hc5
  obtain ⟨hcg5, hci5⟩ := gfO_s hcO5
  have hci5 := List.mem_singleton.mp hci5
  obtain ⟨kc5, fc5⟩ := oc5
  dsimp only at hci5 hcg5
  subst hci5
  refine gp_callI (va_runV (As := [.int v1]) (rest := []) ⟨hx, hb, hml, hown, hts⟩ (c_X10_isPerson (l := l) (D := D) (b := b) (cI := cI) (cL := cL) hc5) (cwV 1 hts gX11_judge_X10_isPerson rfl rfl rfl (by decide +kernel) ⟨Nat.le_of_ble_eq_true rfl, Nat.le_of_ble_eq_true rfl⟩) (gp_preV hKn hG (cp_obj hcg5) rfl) rfl rfl hl.1 rfl (lv_room (Nat.le_of_ble_eq_true rfl)) dX11_judge_5 ⟨Nat.le_of_ble_eq_true rfl, Nat.le_of_ble_eq_true rfl⟩) hS (fun H locs hG hS => ?_)
  refine lv_if_ne (tgt := 17) hx hb dX11_judge_8 (by decide) (fun c8 => ?_) (fun c8 => ?_)
  · have hf := gb_f c8 hf
    refine lv_aload_n hx hb dX11_judge_17 rfl (lv_at hl 0 rfl) ?_
    obtain ⟨t18, ht18, hf⟩ := gb_b hf
    refine cp_get (v := va_rf t18) hx hb hts gclX11 hown hK hG 4 (gfR_s ht18) (by decide) (hts _ (List.mem_of_getElem? (i := 1) rfl)) (fun _ h9 => h9) dX11_judge_18 ?_
    refine lv_iload_n hx hb dX11_judge_21 rfl (lv_at hl 1 rfl) ?_
    obtain ⟨q22, hq22, hf⟩ := gb_b hf
    refine W.eq (g2 := F0 m 22 ls [.int v1, .ref q22]) (congrArg (fun z => F0 m 22 ls [.int v1, va_rf z]) hq22) ?_
    obtain ⟨o22, hc22, hf⟩ := gb_b hf
    obtain ⟨oc22, hcO22, hc22⟩ := gb_b hc22
    obtain ⟨hcg22, hci22⟩ := gfO_s hcO22
    have hci22 := List.mem_singleton.mp hci22
    obtain ⟨kc22, fc22⟩ := oc22
    dsimp only at hci22 hcg22
    subst hci22
    refine gp_callI (va_runV (As := [.int v1]) (rest := []) ⟨hx, hb, hml, hown, hts⟩ (c_X10_cellOf (l := l) (D := D) (b := b) (cI := cI) (cL := cL) hc22) (cwV 1 hts gX11_judge_X10_cellOf rfl rfl rfl (by decide +kernel) ⟨Nat.le_of_ble_eq_true rfl, Nat.le_of_ble_eq_true rfl⟩) (gp_preV hKn hG (cp_obj hcg22) rfl) rfl rfl hl.1 rfl (lv_room (Nat.le_of_ble_eq_true rfl)) dX11_judge_22 ⟨Nat.le_of_ble_eq_true rfl, Nat.le_of_ble_eq_true rfl⟩) hS (fun H locs hG hS => ?_)
    refine lv_istore_n (lv' := [(2, .int o22), (0, .ref h0), (1, .int v1)]) hx hb dX11_judge_25 rfl hl (by decide) rfl (fun ls hl => ?_)
    refine lv_iconst (v := 0) hx hb dX11_judge_26 (by decide) ?_
    refine lv_istore_n (lv' := [(3, .int 0), (2, .int o22), (0, .ref h0), (1, .int v1)]) hx hb dX11_judge_27 rfl hl (by decide) rfl (fun ls hl => ?_)
    refine w_X11_judge_28 X _ _ _ hf (fun x28_63 hf H locs ls hG hS hl => ?_) (fun x28_74 hf H locs ls hG hS hl => ?_) _ _ _ hG hS (lv_sub hl [2, 1, 0] rfl)
    · refine lv_iload_n hx hb dX11_judge_63 rfl (lv_at hl 0 rfl) ?_
      have hf := Option.some.inj hf
      subst hf
      exact gp_retI hx hb hr hlocks hG hS (Nat.le_of_ble_eq_true rfl) (Nat.le_of_ble_eq_true rfl) dX11_judge_64
    · refine lv_bipush (v := (-9 : Int32)) hx hb dX11_judge_74 (by decide) ?_
      have hf := Option.some.inj hf
      subst hf
      exact gp_retI hx hb hr hlocks hG hS (Nat.le_of_ble_eq_true rfl) (Nat.le_of_ble_eq_true rfl) dX11_judge_76
  · have hf := gb_t c8 hf
    refine lv_aload_n hx hb dX11_judge_11 rfl (lv_at hl 0 rfl) ?_
    refine lv_iconst (v := (-1 : Int32)) hx hb dX11_judge_12 (by decide) ?_
    obtain ⟨o13, hc13, hf⟩ := gb_b hf
    obtain ⟨oc13, hcO13, hc13⟩ := gb_b hc13
    obtain ⟨hcg13, hci13⟩ := gfO_s hcO13
    have hci13 := List.mem_singleton.mp hci13
    obtain ⟨kc13, fc13⟩ := oc13
    dsimp only at hci13 hcg13
    subst hci13
    refine gp_callI (va_runV (As := [.int (-1 : Int32)]) (rest := []) ⟨hx, hb, hml, hown, hts⟩ (c_X11_refuse (l := l) (D := D) (b := b) (cI := cI) (cL := cL) hc13) (cwV 1 hts gX11_judge_X11_refuse rfl rfl rfl (by decide +kernel) ⟨Nat.le_of_ble_eq_true rfl, Nat.le_of_ble_eq_true rfl⟩) (gp_preV hKn hG (cp_obj hcg13) rfl) rfl rfl hl.1 rfl (lv_room (Nat.le_of_ble_eq_true rfl)) dX11_judge_13 ⟨Nat.le_of_ble_eq_true rfl, Nat.le_of_ble_eq_true rfl⟩) hS (fun H locs hG hS => ?_)
    have hf := Option.some.inj hf
    subst hf
    exact gp_retI hx hb hr hlocks hG hS (Nat.le_of_ble_eq_true rfl) (Nat.le_of_ble_eq_true rfl) dX11_judge_16
-- X11_known
abbrev rm_X11_known : Room := { frames := 6, cells := 0, slots := 0, locals := 139 }
set_option maxHeartbeats 4000000 in
set_option maxRecDepth 100000 in
theorem c_X11_known {v1 : Int32} {R : Int32 × (Nat → GV)} (hf : f_X11_known gv h0 v1 = some R) : Met l yX11_known wsX11_known rm_X11_known (va_Pc [.ref h0, .int v1] (gPre D b M (gW cI cL gv) (gTy cI cL))) (gQ D b (some (.int R.1)) M (gW cI cL R.2)) 0 0 (gA b) := by
  refine gp_met (cc := cX11_known) (maxL := 2) (ret := (some .int)) (by decide) rfl (Nat.le_of_ble_eq_true rfl) ?_
  intro p e s m below meth c X ls hG hl
  obtain ⟨H, hH0⟩ : ∃ H : Heap, H = s.heap := ⟨_, rfl⟩
  rw [← hH0] at hG ⊢
  have hS : va_S (gA b) s.heap H [] := by rw [hH0]; exact va_S.rf
  obtain ⟨locs, hlo⟩ : ∃ z : List Loc, z = [] := ⟨_, rfl⟩
  rw [← hlo] at hS ⊢
  unfold f_X11_known at hf
  obtain ⟨hx, hb, hr, hml, hown, hts, hlocks, hKn, hBs⟩ := id X
  have hK := hKn.1
  have gclX11 : gcl [9] TX11 8 wsX11_known := gcl_1 rfl (fun _ h => List.mem_cons_of_mem _ (List.mem_append_left _ (List.mem_append_left _ (List.mem_append_left _ (List.mem_append_left _ (List.mem_append_left _ (List.mem_append_left _ (List.mem_append_left _ (List.mem_append_left _ (List.mem_append_right _ h))))))))))
  have hl : lv_has ls 2 [(0, .ref h0), (1, .int v1)] := hl
  refine lv_aload_n hx hb dX11_known_0 rfl (lv_at hl 0 rfl) ?_
  obtain ⟨t1, ht1, hf⟩ := gb_b hf
  refine cp_get (v := va_rf t1) hx hb hts gclX11 hown hK hG 4 (gfR_s ht1) (by decide) (hts _ (List.mem_of_getElem? (i := 1) rfl)) (fun _ h9 => h9) dX11_known_1 ?_
  refine lv_iload_n hx hb dX11_known_4 rfl (lv_at hl 1 rfl) ?_
  obtain ⟨q5, hq5, hf⟩ := gb_b hf
  refine W.eq (g2 := F0 m 5 ls [.int v1, .ref q5]) (congrArg (fun z => F0 m 5 ls [.int v1, va_rf z]) hq5) ?_
  obtain ⟨o5, hc5, hf⟩ := gb_b hf
  obtain ⟨oc5, hcO5, hc5⟩ := gb_b hc5
  obtain ⟨hcg5, hci5⟩ := gfO_s hcO5
  have hci5 := List.mem_singleton.mp hci5
  obtain ⟨kc5, fc5⟩ := oc5
  dsimp only at hci5 hcg5
  subst hci5
  refine gp_callI (va_runV (As := [.int v1]) (rest := []) ⟨hx, hb, hml, hown, hts⟩ (c_X10_isPerson (l := l) (D := D) (b := b) (cI := cI) (cL := cL) hc5) (cwV 1 hts gX11_known_X10_isPerson rfl rfl rfl (by decide +kernel) ⟨Nat.le_of_ble_eq_true rfl, Nat.le_of_ble_eq_true rfl⟩) (gp_preV hKn hG (cp_obj hcg5) rfl) rfl rfl hl.1 rfl (lv_room (Nat.le_of_ble_eq_true rfl)) dX11_known_5 ⟨Nat.le_of_ble_eq_true rfl, Nat.le_of_ble_eq_true rfl⟩) hS (fun H locs hG hS => ?_)
  refine lv_if_ne (tgt := 17) hx hb dX11_known_8 (by decide) (fun c8 => ?_) (fun c8 => ?_)
  · have hf := gb_f c8 hf
    refine lv_aload_n hx hb dX11_known_17 rfl (lv_at hl 0 rfl) ?_
    obtain ⟨t18, ht18, hf⟩ := gb_b hf
    refine cp_get (v := va_rf t18) hx hb hts gclX11 hown hK hG 4 (gfR_s ht18) (by decide) (hts _ (List.mem_of_getElem? (i := 1) rfl)) (fun _ h9 => h9) dX11_known_18 ?_
    refine lv_aload_n hx hb dX11_known_21 rfl (lv_at hl 0 rfl) ?_
    obtain ⟨t22, ht22, hf⟩ := gb_b hf
    refine cp_get (v := va_rf t22) hx hb hts gclX11 hown hK hG 4 (gfR_s ht22) (by decide) (hts _ (List.mem_of_getElem? (i := 1) rfl)) (fun _ h9 => h9) dX11_known_22 ?_
    refine lv_iload_n hx hb dX11_known_25 rfl (lv_at hl 1 rfl) ?_
    obtain ⟨q26, hq26, hf⟩ := gb_b hf
    refine W.eq (g2 := F0 m 26 ls [.int v1, .ref q26, va_rf t18]) (congrArg (fun z => F0 m 26 ls [.int v1, va_rf z, va_rf t18]) hq26) ?_
    obtain ⟨o26, hc26, hf⟩ := gb_b hf
    obtain ⟨oc26, hcO26, hc26⟩ := gb_b hc26
    obtain ⟨hcg26, hci26⟩ := gfO_s hcO26
    have hci26 := List.mem_singleton.mp hci26
    obtain ⟨kc26, fc26⟩ := oc26
    dsimp only at hci26 hcg26
    subst hci26
    refine gp_callI (va_runV (As := [.int v1]) (rest := [va_rf t18]) ⟨hx, hb, hml, hown, hts⟩ (c_X10_cellOf (l := l) (D := D) (b := b) (cI := cI) (cL := cL) hc26) (cwV 1 hts gX11_known_X10_cellOf rfl rfl rfl (by decide +kernel) ⟨Nat.le_of_ble_eq_true rfl, Nat.le_of_ble_eq_true rfl⟩) (gp_preV hKn hG (cp_obj hcg26) rfl) rfl rfl hl.1 rfl (lv_room (by simp [gcat_rf, gcat_ref, gcat_int, gcat_long, gcat_null])) dX11_known_26 ⟨Nat.le_of_ble_eq_true rfl, Nat.le_of_ble_eq_true rfl⟩) hS (fun H locs hG hS => ?_)
    obtain ⟨o29, hc29, hf⟩ := gb_b hf
    refine gp_callL (va_runS (As := [.int o26]) (rest := [va_rf t18]) ⟨hx, hb, hml, hown, hts⟩ (c_X2_only (l := l) (D := D) (b := b) (cI := cI) (cL := cL) hc29) (va_cwS 1 hts gX11_known_X2_only rfl rfl rfl (by decide +kernel) ⟨Nat.le_of_ble_eq_true rfl, Nat.le_of_ble_eq_true rfl⟩) (gp_preS hKn hG) rfl rfl hl.1 rfl (lv_room (by simp [gcat_rf, gcat_ref, gcat_int, gcat_long, gcat_null])) dX11_known_29 ⟨Nat.le_of_ble_eq_true rfl, Nat.le_of_ble_eq_true rfl⟩) hS (fun H locs hG hS => ?_)
    obtain ⟨q32, hq32, hf⟩ := gb_b hf
    refine W.eq (g2 := F0 m 32 ls [.long o29, .ref q32]) (congrArg (fun z => F0 m 32 ls [.long o29, va_rf z]) hq32) ?_
    obtain ⟨o32, hc32, hf⟩ := gb_b hf
    obtain ⟨oc32, hcO32, hc32⟩ := gb_b hc32
    obtain ⟨hcg32, hci32⟩ := gfO_s hcO32
    have hci32 := List.mem_singleton.mp hci32
    obtain ⟨kc32, fc32⟩ := oc32
    dsimp only at hci32 hcg32
    subst hci32
    refine gp_callI (va_runV (As := [.long o29]) (rest := []) ⟨hx, hb, hml, hown, hts⟩ (c_X10_unlikeScenesShownTo (l := l) (D := D) (b := b) (cI := cI) (cL := cL) hc32) (cwV 1 hts gX11_known_X10_unlikeScenesShownTo rfl rfl rfl (by decide +kernel) ⟨Nat.le_of_ble_eq_true rfl, Nat.le_of_ble_eq_true rfl⟩) (gp_preV hKn hG (cp_obj hcg32) rfl) rfl rfl hl.1 rfl (lv_room (Nat.le_of_ble_eq_true rfl)) dX11_known_32 ⟨Nat.le_of_ble_eq_true rfl, Nat.le_of_ble_eq_true rfl⟩) hS (fun H locs hG hS => ?_)
    have hf := Option.some.inj hf
    subst hf
    exact gp_retI hx hb hr hlocks hG hS (Nat.le_of_ble_eq_true rfl) (Nat.le_of_ble_eq_true rfl) dX11_known_35
  · have hf := gb_t c8 hf
    refine lv_aload_n hx hb dX11_known_11 rfl (lv_at hl 0 rfl) ?_
    refine lv_iconst (v := (-1 : Int32)) hx hb dX11_known_12 (by decide) ?_
    obtain ⟨o13, hc13, hf⟩ := gb_b hf
    obtain ⟨oc13, hcO13, hc13⟩ := gb_b hc13
    obtain ⟨hcg13, hci13⟩ := gfO_s hcO13
    have hci13 := List.mem_singleton.mp hci13
    obtain ⟨kc13, fc13⟩ := oc13
    dsimp only at hci13 hcg13
    subst hci13
    refine gp_callI (va_runV (As := [.int (-1 : Int32)]) (rest := []) ⟨hx, hb, hml, hown, hts⟩ (c_X11_refuse (l := l) (D := D) (b := b) (cI := cI) (cL := cL) hc13) (cwV 1 hts gX11_known_X11_refuse rfl rfl rfl (by decide +kernel) ⟨Nat.le_of_ble_eq_true rfl, Nat.le_of_ble_eq_true rfl⟩) (gp_preV hKn hG (cp_obj hcg13) rfl) rfl rfl hl.1 rfl (lv_room (Nat.le_of_ble_eq_true rfl)) dX11_known_13 ⟨Nat.le_of_ble_eq_true rfl, Nat.le_of_ble_eq_true rfl⟩) hS (fun H locs hG hS => ?_)
    have hf := Option.some.inj hf
    subst hf
    exact gp_retI hx hb hr hlocks hG hS (Nat.le_of_ble_eq_true rfl) (Nat.le_of_ble_eq_true rfl) dX11_known_16
-- X11_knows
abbrev rm_X11_knows : Room := { frames := 3, cells := 0, slots := 0, locals := 74 }
set_option maxHeartbeats 4000000 in
set_option maxRecDepth 100000 in
theorem w_X11_knows_60 {α : Type} {R : α} {K125 : Int32 → Option α} {v0 : Nat} {v5 : Int32} (X : gC p s m args meth c cX11_knows 9 (some .int) wsX11_knows RX11 D b (gTy cI cL)) : ∀ (n : Nat) (v6 : Int32) (v7 : Int32), L_X11_knows_60 K125 gv v0 v5 n v6 v7 = some R → (∀ (x : Int32), K125 x = some R → ∀ (H : Heap) (locs : List Loc) (ls : Array Slot), GP D b M (gW cI cL gv) H → va_S (gA b) s.heap H locs → lv_has ls 9 [(6, .int x)] → W p l e rm_X11_knows s m args below meth c H locs 0 0 Q (F0 m 125 ls [])) → ∀ (H : Heap) (locs : List Loc) (ls : Array Slot), GP D b M (gW cI cL gv) H → va_S (gA b) s.heap H locs → lv_has ls 9 [(0, .ref v0), (5, .int v5), (6, .int v6), (7, .int v7)] → W p l e rm_X11_knows s m args below meth c H locs 0 0 Q (F0 m 60 ls []) := by
  obtain ⟨hx, hb, hr, hml, hown, hts, hlocks, hKn, hBs⟩ := id X
  have hK := hKn.1
  have gclX10 : gcl [8] TX10 6 wsX11_knows := gcl_1 rfl (fun _ h => List.mem_cons_of_mem _ (List.mem_append_left _ (List.mem_append_left _ (List.mem_append_left _ (List.mem_append_left _ (List.mem_append_left _ (List.mem_append_left _ (List.mem_append_left _ (List.mem_append_right _ h)))))))))
  have gclX11 : gcl [9] TX11 8 wsX11_knows := gcl_1 rfl (fun _ h => List.mem_cons_of_mem _ (List.mem_append_left _ (List.mem_append_left _ (List.mem_append_left _ (List.mem_append_left _ (List.mem_append_left _ (List.mem_append_left _ (List.mem_append_left _ (List.mem_append_left _ (List.mem_append_right _ h))))))))))
  intro n
  induction n with
  | zero =>
    intro v6 v7 hf
    cases hf
  | succ n ih =>
    intro v6 v7 hf hk125 H locs ls hG hS hl
    rw [L_X11_knows_60.eq_2] at hf
    refine lv_iload hx hb dX11_knows_60 (lv_at hl 3 rfl) ?_
    refine lv_aload_n hx hb dX11_knows_62 rfl (lv_at hl 0 rfl) ?_
    obtain ⟨t63, ht63, hf⟩ := gb_b hf
    refine cp_get (v := va_rf t63) hx hb hts gclX11 hown hK hG 4 (gfR_s ht63) (by decide) (hts _ (List.mem_of_getElem? (i := 1) rfl)) (fun _ h9 => h9) dX11_knows_63 ?_
    obtain ⟨q66, hq66, hf⟩ := gb_b hf
    refine W.eq (g2 := F0 m 66 ls [.ref q66, .int v7]) (congrArg (fun z => F0 m 66 ls [va_rf z, .int v7]) hq66) ?_
    obtain ⟨t66, ht66, hf⟩ := gb_b hf
    refine cp_get (v := .int t66) hx hb hts gclX10 hown hK hG 3 (gfI_s ht66) (by decide) (hts _ (List.mem_of_getElem? (i := 2) rfl)) (fun _ h9 => h9) dX11_knows_66 ?_
    refine lv_icmp_ge (tgt := 125) hx hb dX11_knows_69 (by decide) (fun c69 => ?_) (fun c69 => ?_)
    · have hf := gb_t c69 hf
      exact (hk125 _ hf _ _ _ hG hS (lv_sub hl [2] rfl))
    · have hf := gb_f c69 hf
      refine lv_aload_n hx hb dX11_knows_72 rfl (lv_at hl 0 rfl) ?_
      obtain ⟨t73, ht73, hf⟩ := gb_b hf
      refine cp_get (v := va_rf t73) hx hb hts gclX11 hown hK hG 4 (gfR_s ht73) (by decide) (hts _ (List.mem_of_getElem? (i := 1) rfl)) (fun _ h9 => h9) dX11_knows_73 ?_
      refine lv_iload hx hb dX11_knows_76 (lv_at hl 3 rfl) ?_
      obtain ⟨q78, hq78, hf⟩ := gb_b hf
      refine W.eq (g2 := F0 m 78 ls [.int v7, .ref q78]) (congrArg (fun z => F0 m 78 ls [.int v7, va_rf z]) hq78) ?_
      obtain ⟨o78, hc78, hf⟩ := gb_b hf
      obtain ⟨oc78, hcO78, hc78⟩ := gb_b hc78
      obtain ⟨hcg78, hci78⟩ := gfO_s hcO78
      have hci78 := List.mem_singleton.mp hci78
      obtain ⟨kc78, fc78⟩ := oc78
      dsimp only at hci78 hcg78
      subst hci78
      refine gp_callR (va_runV (As := [.int v7]) (rest := []) ⟨hx, hb, hml, hown, hts⟩ (c_X10_lampAt (l := l) (D := D) (b := b) (cI := cI) (cL := cL) hc78) (cwV 1 hts gX11_knows_X10_lampAt rfl rfl rfl (by decide +kernel) ⟨Nat.le_of_ble_eq_true rfl, Nat.le_of_ble_eq_true rfl⟩) (gp_preV hKn hG (cp_obj hcg78) rfl) rfl rfl hl.1 rfl (lv_room (Nat.le_of_ble_eq_true rfl)) dX11_knows_78 ⟨Nat.le_of_ble_eq_true rfl, Nat.le_of_ble_eq_true rfl⟩) hS (fun H locs hG hS => ?_)
      refine gp_astore (lv' := [(8, va_rf o78), (0, .ref v0), (5, .int v5), (6, .int v6), (7, .int v7)]) hx hb dX11_knows_81 hl (by decide) rfl (fun ls hl => ?_)
      refine gp_aload (x := o78) hx hb dX11_knows_83 (lv_at hl 0 rfl) ?_
      obtain ⟨j85, hj85, hf⟩ := gb_b hf
      have hJ85 : ∀ (H : Heap) (locs : List Loc) (ls : Array Slot), GP D b M (gW cI cL gv) H → va_S (gA b) s.heap H locs → lv_has ls 9 [(0, .ref v0), (5, .int v5), (6, .int j85), (7, .int v7)] → W p l e rm_X11_knows s m args below meth c H locs 0 0 Q (F0 m 119 ls []) := by
        intro H locs ls hG hS hl
        refine lv_iinc (v := v7 + 1) (lv' := [(7, .int (v7 + 1)), (0, .ref v0), (5, .int v5), (6, .int j85)]) hx hb dX11_knows_119 hl (k := 3) rfl rfl (by decide) rfl (fun ls hl => ?_)
        refine lv_goto (tgt := 60) hx hb dX11_knows_122 (by decide) ?_
        exact ih _ _ hf hk125 _ _ _ hG hS (lv_sub hl [1, 2, 3, 0] rfl)
      refine gp_ifnull (x := o78) (tgt := 119) hx hb dX11_knows_85 (by decide) ?_ ?_
      · intro e85
        rw [e85] at hl
        rw [e85] at hj85
        dsimp only at hj85
        have hj85 := Option.some.inj hj85
        subst hj85
        exact (hJ85 H locs ls hG hS (lv_sub hl [1, 2, 3, 4] rfl))
      · intro n85 e85
        rw [e85] at hl
        rw [e85] at hj85
        dsimp only at hj85
        refine lv_aload hx hb dX11_knows_88 (lv_at hl 0 rfl) ?_
        refine lv_iload hx hb dX11_knows_90 (lv_at hl 2 rfl) ?_
        obtain ⟨o92, hc92, hj85⟩ := gb_b hj85
        have hrun92 : va_Run p l e rm_X11_knows s m args below meth c H locs 0 0 0 0 (F0 m 92 ls ([.int v5].reverse ++ .ref n85 :: [])) [] (gQ D b (some (.int o92)) M (gW cI cL gv) (Value.ref n85 :: [.int v5]).toArray) (gA b) := by
          obtain ⟨oc, hcO, hc92⟩ := gb_b hc92
          obtain ⟨hcg, hci⟩ := gfO_s hcO
          obtain ⟨kc, fc⟩ := oc
          dsimp only at hci hcg hc92
          rcases gLC_7 hci with rfl | rfl | rfl | rfl | rfl | rfl | rfl
          · exact va_runU (As := [.int v5]) (rest := []) ⟨hx, hb, hml, hown, hts⟩ (c_X5_hasScene (l := l) (D := D) (b := b) (cI := cI) (cL := cL) hc92) (va_cwU 1 hts gX11_knows_X5_hasScene_u189X0 rfl rfl rfl rfl (by decide +kernel) ⟨Nat.le_of_ble_eq_true rfl, Nat.le_of_ble_eq_true rfl⟩) (gp_preV hKn hG (cp_obj hcg) rfl) rfl rfl hl.1 rfl (lv_room (Nat.le_of_ble_eq_true rfl)) dX11_knows_92 ⟨Nat.le_of_ble_eq_true rfl, Nat.le_of_ble_eq_true rfl⟩
          · exact va_runU (As := [.int v5]) (rest := []) ⟨hx, hb, hml, hown, hts⟩ (c_X5_hasScene (l := l) (D := D) (b := b) (cI := cI) (cL := cL) hc92) (va_cwU 1 hts gX11_knows_X5_hasScene_u189X1 rfl rfl rfl rfl (by decide +kernel) ⟨Nat.le_of_ble_eq_true rfl, Nat.le_of_ble_eq_true rfl⟩) (gp_preV hKn hG (cp_obj hcg) rfl) rfl rfl hl.1 rfl (lv_room (Nat.le_of_ble_eq_true rfl)) dX11_knows_92 ⟨Nat.le_of_ble_eq_true rfl, Nat.le_of_ble_eq_true rfl⟩
          · exact va_runU (As := [.int v5]) (rest := []) ⟨hx, hb, hml, hown, hts⟩ (c_X5_hasScene (l := l) (D := D) (b := b) (cI := cI) (cL := cL) hc92) (va_cwU 1 hts gX11_knows_X5_hasScene_u189X3 rfl rfl rfl rfl (by decide +kernel) ⟨Nat.le_of_ble_eq_true rfl, Nat.le_of_ble_eq_true rfl⟩) (gp_preV hKn hG (cp_obj hcg) rfl) rfl rfl hl.1 rfl (lv_room (Nat.le_of_ble_eq_true rfl)) dX11_knows_92 ⟨Nat.le_of_ble_eq_true rfl, Nat.le_of_ble_eq_true rfl⟩
          · exact va_runU (As := [.int v5]) (rest := []) ⟨hx, hb, hml, hown, hts⟩ (c_X5_hasScene (l := l) (D := D) (b := b) (cI := cI) (cL := cL) hc92) (va_cwU 1 hts gX11_knows_X5_hasScene_u189X4 rfl rfl rfl rfl (by decide +kernel) ⟨Nat.le_of_ble_eq_true rfl, Nat.le_of_ble_eq_true rfl⟩) (gp_preV hKn hG (cp_obj hcg) rfl) rfl rfl hl.1 rfl (lv_room (Nat.le_of_ble_eq_true rfl)) dX11_knows_92 ⟨Nat.le_of_ble_eq_true rfl, Nat.le_of_ble_eq_true rfl⟩
          · exact va_runV (As := [.int v5]) (rest := []) ⟨hx, hb, hml, hown, hts⟩ (c_X5_hasScene (l := l) (D := D) (b := b) (cI := cI) (cL := cL) hc92) (cwV 1 hts gX11_knows_X5_hasScene rfl rfl rfl (by decide +kernel) ⟨Nat.le_of_ble_eq_true rfl, Nat.le_of_ble_eq_true rfl⟩) (gp_preV hKn hG (cp_obj hcg) rfl) rfl rfl hl.1 rfl (lv_room (Nat.le_of_ble_eq_true rfl)) dX11_knows_92 ⟨Nat.le_of_ble_eq_true rfl, Nat.le_of_ble_eq_true rfl⟩
          · exact va_runU (As := [.int v5]) (rest := []) ⟨hx, hb, hml, hown, hts⟩ (c_X5_hasScene (l := l) (D := D) (b := b) (cI := cI) (cL := cL) hc92) (va_cwU 1 hts gX11_knows_X5_hasScene_u189X7 rfl rfl rfl rfl (by decide +kernel) ⟨Nat.le_of_ble_eq_true rfl, Nat.le_of_ble_eq_true rfl⟩) (gp_preV hKn hG (cp_obj hcg) rfl) rfl rfl hl.1 rfl (lv_room (Nat.le_of_ble_eq_true rfl)) dX11_knows_92 ⟨Nat.le_of_ble_eq_true rfl, Nat.le_of_ble_eq_true rfl⟩
          · exact va_runU (As := [.int v5]) (rest := []) ⟨hx, hb, hml, hown, hts⟩ (c_X5_hasScene (l := l) (D := D) (b := b) (cI := cI) (cL := cL) hc92) (va_cwU 1 hts gX11_knows_X5_hasScene_u189X8 rfl rfl rfl rfl (by decide +kernel) ⟨Nat.le_of_ble_eq_true rfl, Nat.le_of_ble_eq_true rfl⟩) (gp_preV hKn hG (cp_obj hcg) rfl) rfl rfl hl.1 rfl (lv_room (Nat.le_of_ble_eq_true rfl)) dX11_knows_92 ⟨Nat.le_of_ble_eq_true rfl, Nat.le_of_ble_eq_true rfl⟩
        refine gp_callI hrun92 hS (fun H locs hG hS => ?_)
        refine lv_if_eq (tgt := 119) hx hb dX11_knows_95 (by decide) (fun c95 => ?_) (fun c95 => ?_)
        · have hj85 := gb_t c95 hj85
          have hj85 := Option.some.inj hj85
          subst hj85
          exact (hJ85 H locs ls hG hS (lv_sub hl [1, 2, 3, 4] rfl))
        · have hj85 := gb_f c95 hj85
          refine lv_iload hx hb dX11_knows_98 (lv_at hl 3 rfl) ?_
          refine lv_aload_n hx hb dX11_knows_100 rfl (lv_at hl 1 rfl) ?_
          obtain ⟨t101, ht101, hj85⟩ := gb_b hj85
          refine cp_get (v := va_rf t101) hx hb hts gclX11 hown hK hG 4 (gfR_s ht101) (by decide) (hts _ (List.mem_of_getElem? (i := 1) rfl)) (fun _ h9 => h9) dX11_knows_101 ?_
          refine lv_aload hx hb dX11_knows_104 (lv_at hl 0 rfl) ?_
          refine lv_aload_n hx hb dX11_knows_106 rfl (lv_at hl 1 rfl) ?_
          obtain ⟨t107, ht107, hj85⟩ := gb_b hj85
          refine cp_get (v := va_rf t107) hx hb hts gclX11 hown hK hG 4 (gfR_s ht107) (by decide) (hts _ (List.mem_of_getElem? (i := 1) rfl)) (fun _ h9 => h9) dX11_knows_107 ?_
          obtain ⟨o110, hc110, hj85⟩ := gb_b hj85
          have hrun110 : va_Run p l e rm_X11_knows s m args below meth c H locs 0 0 0 0 (F0 m 110 ls ([va_rf t107].reverse ++ .ref n85 :: [va_rf t101, .int v6])) [va_rf t101, .int v6] (gQ D b (some (.long o110)) M (gW cI cL gv) (Value.ref n85 :: [va_rf t107]).toArray) (gA b) := by
            obtain ⟨oc, hcO, hc110⟩ := gb_b hc110
            obtain ⟨hcg, hci⟩ := gfO_s hcO
            obtain ⟨kc, fc⟩ := oc
            dsimp only at hci hcg hc110
            rcases gLC_7 hci with rfl | rfl | rfl | rfl | rfl | rfl | rfl
            · exact va_runU (As := [va_rf t107]) (rest := [va_rf t101, .int v6]) ⟨hx, hb, hml, hown, hts⟩ (c_X5_glow (l := l) (D := D) (b := b) (cI := cI) (cL := cL) hc110) (va_cwU 1 hts gX11_knows_X5_glow_u108X0 rfl rfl rfl rfl (by decide +kernel) ⟨Nat.le_of_ble_eq_true rfl, Nat.le_of_ble_eq_true rfl⟩) (gp_preV hKn hG (cp_obj hcg) rfl) rfl rfl hl.1 rfl (lv_room (by simp [gcat_rf, gcat_ref, gcat_int, gcat_long, gcat_null])) dX11_knows_110 ⟨Nat.le_of_ble_eq_true rfl, Nat.le_of_ble_eq_true rfl⟩
            · exact va_runU (As := [va_rf t107]) (rest := [va_rf t101, .int v6]) ⟨hx, hb, hml, hown, hts⟩ (c_X5_glow (l := l) (D := D) (b := b) (cI := cI) (cL := cL) hc110) (va_cwU 1 hts gX11_knows_X5_glow_u108X1 rfl rfl rfl rfl (by decide +kernel) ⟨Nat.le_of_ble_eq_true rfl, Nat.le_of_ble_eq_true rfl⟩) (gp_preV hKn hG (cp_obj hcg) rfl) rfl rfl hl.1 rfl (lv_room (by simp [gcat_rf, gcat_ref, gcat_int, gcat_long, gcat_null])) dX11_knows_110 ⟨Nat.le_of_ble_eq_true rfl, Nat.le_of_ble_eq_true rfl⟩
            · exact va_runU (As := [va_rf t107]) (rest := [va_rf t101, .int v6]) ⟨hx, hb, hml, hown, hts⟩ (c_X5_glow (l := l) (D := D) (b := b) (cI := cI) (cL := cL) hc110) (va_cwU 1 hts gX11_knows_X5_glow_u108X3 rfl rfl rfl rfl (by decide +kernel) ⟨Nat.le_of_ble_eq_true rfl, Nat.le_of_ble_eq_true rfl⟩) (gp_preV hKn hG (cp_obj hcg) rfl) rfl rfl hl.1 rfl (lv_room (by simp [gcat_rf, gcat_ref, gcat_int, gcat_long, gcat_null])) dX11_knows_110 ⟨Nat.le_of_ble_eq_true rfl, Nat.le_of_ble_eq_true rfl⟩
            · exact va_runU (As := [va_rf t107]) (rest := [va_rf t101, .int v6]) ⟨hx, hb, hml, hown, hts⟩ (c_X5_glow (l := l) (D := D) (b := b) (cI := cI) (cL := cL) hc110) (va_cwU 1 hts gX11_knows_X5_glow_u108X4 rfl rfl rfl rfl (by decide +kernel) ⟨Nat.le_of_ble_eq_true rfl, Nat.le_of_ble_eq_true rfl⟩) (gp_preV hKn hG (cp_obj hcg) rfl) rfl rfl hl.1 rfl (lv_room (by simp [gcat_rf, gcat_ref, gcat_int, gcat_long, gcat_null])) dX11_knows_110 ⟨Nat.le_of_ble_eq_true rfl, Nat.le_of_ble_eq_true rfl⟩
            · exact va_runV (As := [va_rf t107]) (rest := [va_rf t101, .int v6]) ⟨hx, hb, hml, hown, hts⟩ (c_X5_glow (l := l) (D := D) (b := b) (cI := cI) (cL := cL) hc110) (cwV 1 hts gX11_knows_X5_glow rfl rfl rfl (by decide +kernel) ⟨Nat.le_of_ble_eq_true rfl, Nat.le_of_ble_eq_true rfl⟩) (gp_preV hKn hG (cp_obj hcg) rfl) rfl rfl hl.1 rfl (lv_room (by simp [gcat_rf, gcat_ref, gcat_int, gcat_long, gcat_null])) dX11_knows_110 ⟨Nat.le_of_ble_eq_true rfl, Nat.le_of_ble_eq_true rfl⟩
            · exact va_runU (As := [va_rf t107]) (rest := [va_rf t101, .int v6]) ⟨hx, hb, hml, hown, hts⟩ (c_X5_glow (l := l) (D := D) (b := b) (cI := cI) (cL := cL) hc110) (va_cwU 1 hts gX11_knows_X5_glow_u108X7 rfl rfl rfl rfl (by decide +kernel) ⟨Nat.le_of_ble_eq_true rfl, Nat.le_of_ble_eq_true rfl⟩) (gp_preV hKn hG (cp_obj hcg) rfl) rfl rfl hl.1 rfl (lv_room (by simp [gcat_rf, gcat_ref, gcat_int, gcat_long, gcat_null])) dX11_knows_110 ⟨Nat.le_of_ble_eq_true rfl, Nat.le_of_ble_eq_true rfl⟩
            · exact va_runU (As := [va_rf t107]) (rest := [va_rf t101, .int v6]) ⟨hx, hb, hml, hown, hts⟩ (c_X5_glow (l := l) (D := D) (b := b) (cI := cI) (cL := cL) hc110) (va_cwU 1 hts gX11_knows_X5_glow_u108X8 rfl rfl rfl rfl (by decide +kernel) ⟨Nat.le_of_ble_eq_true rfl, Nat.le_of_ble_eq_true rfl⟩) (gp_preV hKn hG (cp_obj hcg) rfl) rfl rfl hl.1 rfl (lv_room (by simp [gcat_rf, gcat_ref, gcat_int, gcat_long, gcat_null])) dX11_knows_110 ⟨Nat.le_of_ble_eq_true rfl, Nat.le_of_ble_eq_true rfl⟩
          refine gp_callL hrun110 hS (fun H locs hG hS => ?_)
          obtain ⟨q113, hq113, hj85⟩ := gb_b hj85
          refine W.eq (g2 := F0 m 113 ls [.long o110, .ref q113, .int v6]) (congrArg (fun z => F0 m 113 ls [.long o110, va_rf z, .int v6]) hq113) ?_
          obtain ⟨o113, hc113, hj85⟩ := gb_b hj85
          obtain ⟨oc113, hcO113, hc113⟩ := gb_b hc113
          obtain ⟨hcg113, hci113⟩ := gfO_s hcO113
          have hci113 := List.mem_singleton.mp hci113
          obtain ⟨kc113, fc113⟩ := oc113
          dsimp only at hci113 hcg113
          subst hci113
          refine gp_callI (va_runV (As := [.long o110]) (rest := [.int v6]) ⟨hx, hb, hml, hown, hts⟩ (c_X10_peopleOn (l := l) (D := D) (b := b) (cI := cI) (cL := cL) hc113) (cwV 1 hts gX11_knows_X10_peopleOn rfl rfl rfl (by decide +kernel) ⟨Nat.le_of_ble_eq_true rfl, Nat.le_of_ble_eq_true rfl⟩) (gp_preV hKn hG (cp_obj hcg113) rfl) rfl rfl hl.1 rfl (lv_room (Nat.le_of_ble_eq_true rfl)) dX11_knows_113 ⟨Nat.le_of_ble_eq_true rfl, Nat.le_of_ble_eq_true rfl⟩) hS (fun H locs hG hS => ?_)
          refine lv_ior hx hb dX11_knows_116 ?_
          refine lv_istore (lv' := [(6, .int (v6 ||| o113)), (8, .ref n85), (0, .ref v0), (5, .int v5), (7, .int v7)]) hx hb dX11_knows_117 hl (by decide) rfl (fun ls hl => ?_)
          have hj85 := Option.some.inj hj85
          subst hj85
          exact (hJ85 H locs ls hG hS (lv_sub hl [2, 3, 0, 4] rfl))
set_option maxHeartbeats 4000000 in
set_option maxRecDepth 100000 in
theorem c_X11_knows {v1 : Int32} {v2 : Int32} {v3 : Int32} {R : Int32 × (Nat → GV)} (hf : f_X11_knows gv h0 v1 v2 v3 = some R) : Met l yX11_knows wsX11_knows rm_X11_knows (va_Pc [.ref h0, .int v1, .int v2, .int v3] (gPre D b M (gW cI cL gv) (gTy cI cL))) (gQ D b (some (.int R.1)) M (gW cI cL R.2)) 0 0 (gA b) := by
  refine gp_met (cc := cX11_knows) (maxL := 9) (ret := (some .int)) (by decide) rfl (Nat.le_of_ble_eq_true rfl) ?_
  intro p e s m below meth c X ls hG hl
  obtain ⟨H, hH0⟩ : ∃ H : Heap, H = s.heap := ⟨_, rfl⟩
  rw [← hH0] at hG ⊢
  have hS : va_S (gA b) s.heap H [] := by rw [hH0]; exact va_S.rf
  obtain ⟨locs, hlo⟩ : ∃ z : List Loc, z = [] := ⟨_, rfl⟩
  rw [← hlo] at hS ⊢
  unfold f_X11_knows at hf
  obtain ⟨hx, hb, hr, hml, hown, hts, hlocks, hKn, hBs⟩ := id X
  have hK := hKn.1
  have gclX10 : gcl [8] TX10 6 wsX11_knows := gcl_1 rfl (fun _ h => List.mem_cons_of_mem _ (List.mem_append_left _ (List.mem_append_left _ (List.mem_append_left _ (List.mem_append_left _ (List.mem_append_left _ (List.mem_append_left _ (List.mem_append_left _ (List.mem_append_right _ h)))))))))
  have gclX11 : gcl [9] TX11 8 wsX11_knows := gcl_1 rfl (fun _ h => List.mem_cons_of_mem _ (List.mem_append_left _ (List.mem_append_left _ (List.mem_append_left _ (List.mem_append_left _ (List.mem_append_left _ (List.mem_append_left _ (List.mem_append_left _ (List.mem_append_left _ (List.mem_append_right _ h))))))))))
  have hl : lv_has ls 9 [(0, .ref h0), (1, .int v1), (2, .int v2), (3, .int v3)] := hl
  refine lv_aload_n hx hb dX11_knows_0 rfl (lv_at hl 0 rfl) ?_
  obtain ⟨t1, ht1, hf⟩ := gb_b hf
  refine cp_get (v := va_rf t1) hx hb hts gclX11 hown hK hG 4 (gfR_s ht1) (by decide) (hts _ (List.mem_of_getElem? (i := 1) rfl)) (fun _ h9 => h9) dX11_knows_1 ?_
  refine lv_iload_n hx hb dX11_knows_4 rfl (lv_at hl 1 rfl) ?_
  obtain ⟨q5, hq5, hf⟩ := gb_b hf
  refine W.eq (g2 := F0 m 5 ls [.int v1, .ref q5]) (congrArg (fun z => F0 m 5 ls [.int v1, va_rf z]) hq5) ?_
  obtain ⟨o5, hc5, hf⟩ := gb_b hf
  obtain ⟨oc5, hcO5, hc5⟩ := gb_b hc5
  obtain ⟨hcg5, hci5⟩ := gfO_s hcO5
  have hci5 := List.mem_singleton.mp hci5
  obtain ⟨kc5, fc5⟩ := oc5
  dsimp only at hci5 hcg5
  subst hci5
  refine gp_callI (va_runV (As := [.int v1]) (rest := []) ⟨hx, hb, hml, hown, hts⟩ (c_X10_isPerson (l := l) (D := D) (b := b) (cI := cI) (cL := cL) hc5) (cwV 1 hts gX11_knows_X10_isPerson rfl rfl rfl (by decide +kernel) ⟨Nat.le_of_ble_eq_true rfl, Nat.le_of_ble_eq_true rfl⟩) (gp_preV hKn hG (cp_obj hcg5) rfl) rfl rfl hl.1 rfl (lv_room (Nat.le_of_ble_eq_true rfl)) dX11_knows_5 ⟨Nat.le_of_ble_eq_true rfl, Nat.le_of_ble_eq_true rfl⟩) hS (fun H locs hG hS => ?_)
  refine lv_if_eq (tgt := 18) hx hb dX11_knows_8 (by decide) (fun c8 => ?_) (fun c8 => ?_)
  · have hf := gb_t c8 hf
    refine lv_aload_n hx hb dX11_knows_18 rfl (lv_at hl 0 rfl) ?_
    refine lv_iconst (v := (-1 : Int32)) hx hb dX11_knows_19 (by decide) ?_
    obtain ⟨o20, hc20, hf⟩ := gb_b hf
    obtain ⟨oc20, hcO20, hc20⟩ := gb_b hc20
    obtain ⟨hcg20, hci20⟩ := gfO_s hcO20
    have hci20 := List.mem_singleton.mp hci20
    obtain ⟨kc20, fc20⟩ := oc20
    dsimp only at hci20 hcg20
    subst hci20
    refine gp_callI (va_runV (As := [.int (-1 : Int32)]) (rest := []) ⟨hx, hb, hml, hown, hts⟩ (c_X11_refuse (l := l) (D := D) (b := b) (cI := cI) (cL := cL) hc20) (cwV 1 hts gX11_knows_X11_refuse rfl rfl rfl (by decide +kernel) ⟨Nat.le_of_ble_eq_true rfl, Nat.le_of_ble_eq_true rfl⟩) (gp_preV hKn hG (cp_obj hcg20) rfl) rfl rfl hl.1 rfl (lv_room (Nat.le_of_ble_eq_true rfl)) dX11_knows_20 ⟨Nat.le_of_ble_eq_true rfl, Nat.le_of_ble_eq_true rfl⟩) hS (fun H locs hG hS => ?_)
    have hf := Option.some.inj hf
    subst hf
    exact gp_retI hx hb hr hlocks hG hS (Nat.le_of_ble_eq_true rfl) (Nat.le_of_ble_eq_true rfl) dX11_knows_23
  · have hf := gb_f c8 hf
    refine lv_iload_n hx hb dX11_knows_11 rfl (lv_at hl 2 rfl) ?_
    obtain ⟨o12, hc12, hf⟩ := gb_b hf
    refine gp_callI (va_runS (As := [.int v2]) (rest := []) ⟨hx, hb, hml, hown, hts⟩ (c_X2_isOne (l := l) (D := D) (b := b) (cI := cI) (cL := cL) hc12) (va_cwS 1 hts gX11_knows_X2_isOne rfl rfl rfl (by decide +kernel) ⟨Nat.le_of_ble_eq_true rfl, Nat.le_of_ble_eq_true rfl⟩) (gp_preS hKn hG) rfl rfl hl.1 rfl (lv_room (Nat.le_of_ble_eq_true rfl)) dX11_knows_12 ⟨Nat.le_of_ble_eq_true rfl, Nat.le_of_ble_eq_true rfl⟩) hS (fun H locs hG hS => ?_)
    refine lv_if_ne (tgt := 24) hx hb dX11_knows_15 (by decide) (fun c15 => ?_) (fun c15 => ?_)
    · have hf := gb_f c15 hf
      refine lv_iload_n hx hb dX11_knows_24 rfl (lv_at hl 3 rfl) ?_
      refine lv_iconst (v := 0) hx hb dX11_knows_25 (by decide) ?_
      refine lv_sipush (v := 9999) hx hb dX11_knows_26 (by decide) ?_
      obtain ⟨o29, hc29, hf⟩ := gb_b hf
      refine gp_callI (va_runS (As := [.int v3, .int 0, .int 9999]) (rest := []) ⟨hx, hb, hml, hown, hts⟩ (c_X11_outside (l := l) (D := D) (b := b) (cI := cI) (cL := cL) hc29) (va_cwS 3 hts gX11_knows_X11_outside rfl rfl rfl (by decide +kernel) ⟨Nat.le_of_ble_eq_true rfl, Nat.le_of_ble_eq_true rfl⟩) (gp_preS hKn hG) rfl rfl hl.1 rfl (lv_room (Nat.le_of_ble_eq_true rfl)) dX11_knows_29 ⟨Nat.le_of_ble_eq_true rfl, Nat.le_of_ble_eq_true rfl⟩) hS (fun H locs hG hS => ?_)
      refine lv_istore (lv' := [(4, .int o29), (0, .ref h0), (1, .int v1), (2, .int v2), (3, .int v3)]) hx hb dX11_knows_32 hl (by decide) rfl (fun ls hl => ?_)
      refine lv_iload hx hb dX11_knows_34 (lv_at hl 0 rfl) ?_
      refine lv_if_ge (tgt := 46) hx hb dX11_knows_36 (by decide) (fun c36 => ?_) (fun c36 => ?_)
      · have hf := gb_t c36 hf
        refine lv_iload_n hx hb dX11_knows_46 rfl (lv_at hl 2 rfl) ?_
        refine lv_iload_n hx hb dX11_knows_47 rfl (lv_at hl 3 rfl) ?_
        refine lv_iload_n hx hb dX11_knows_48 rfl (lv_at hl 4 rfl) ?_
        obtain ⟨o49, hc49, hf⟩ := gb_b hf
        refine gp_callI (va_runS (As := [.int v1, .int v2, .int v3]) (rest := []) ⟨hx, hb, hml, hown, hts⟩ (c_X9_of (l := l) (D := D) (b := b) (cI := cI) (cL := cL) hc49) (va_cwS 3 hts gX11_knows_X9_of rfl rfl rfl (by decide +kernel) ⟨Nat.le_of_ble_eq_true rfl, Nat.le_of_ble_eq_true rfl⟩) (gp_preS hKn hG) rfl rfl hl.1 rfl (lv_room (Nat.le_of_ble_eq_true rfl)) dX11_knows_49 ⟨Nat.le_of_ble_eq_true rfl, Nat.le_of_ble_eq_true rfl⟩) hS (fun H locs hG hS => ?_)
        refine lv_istore (lv' := [(5, .int o49), (4, .int o29), (0, .ref h0), (1, .int v1), (2, .int v2), (3, .int v3)]) hx hb dX11_knows_52 hl (by decide) rfl (fun ls hl => ?_)
        refine lv_iconst (v := 0) hx hb dX11_knows_54 (by decide) ?_
        refine lv_istore (lv' := [(6, .int 0), (5, .int o49), (4, .int o29), (0, .ref h0), (1, .int v1), (2, .int v2), (3, .int v3)]) hx hb dX11_knows_55 hl (by decide) rfl (fun ls hl => ?_)
        refine lv_iconst (v := 0) hx hb dX11_knows_57 (by decide) ?_
        refine lv_istore (lv' := [(7, .int 0), (6, .int 0), (5, .int o49), (4, .int o29), (0, .ref h0), (1, .int v1), (2, .int v2), (3, .int v3)]) hx hb dX11_knows_58 hl (by decide) rfl (fun ls hl => ?_)
        refine w_X11_knows_60 X _ _ _ hf (fun x60_125 hf H locs ls hG hS hl => ?_) _ _ _ hG hS (lv_sub hl [4, 2, 1, 0] rfl)
        · refine lv_iload hx hb dX11_knows_125 (lv_at hl 0 rfl) ?_
          have hf := Option.some.inj hf
          subst hf
          exact gp_retI hx hb hr hlocks hG hS (Nat.le_of_ble_eq_true rfl) (Nat.le_of_ble_eq_true rfl) dX11_knows_127
      · have hf := gb_f c36 hf
        refine lv_aload_n hx hb dX11_knows_39 rfl (lv_at hl 1 rfl) ?_
        refine lv_iload hx hb dX11_knows_40 (lv_at hl 0 rfl) ?_
        obtain ⟨o42, hc42, hf⟩ := gb_b hf
        obtain ⟨oc42, hcO42, hc42⟩ := gb_b hc42
        obtain ⟨hcg42, hci42⟩ := gfO_s hcO42
        have hci42 := List.mem_singleton.mp hci42
        obtain ⟨kc42, fc42⟩ := oc42
        dsimp only at hci42 hcg42
        subst hci42
        refine gp_callI (va_runV (As := [.int o29]) (rest := []) ⟨hx, hb, hml, hown, hts⟩ (c_X11_refuse (l := l) (D := D) (b := b) (cI := cI) (cL := cL) hc42) (cwV 1 hts gX11_knows_X11_refuse rfl rfl rfl (by decide +kernel) ⟨Nat.le_of_ble_eq_true rfl, Nat.le_of_ble_eq_true rfl⟩) (gp_preV hKn hG (cp_obj hcg42) rfl) rfl rfl hl.1 rfl (lv_room (Nat.le_of_ble_eq_true rfl)) dX11_knows_42 ⟨Nat.le_of_ble_eq_true rfl, Nat.le_of_ble_eq_true rfl⟩) hS (fun H locs hG hS => ?_)
        have hf := Option.some.inj hf
        subst hf
        exact gp_retI hx hb hr hlocks hG hS (Nat.le_of_ble_eq_true rfl) (Nat.le_of_ble_eq_true rfl) dX11_knows_45
    · have hf := gb_t c15 hf
      refine lv_aload_n hx hb dX11_knows_18 rfl (lv_at hl 0 rfl) ?_
      refine lv_iconst (v := (-1 : Int32)) hx hb dX11_knows_19 (by decide) ?_
      obtain ⟨o20, hc20, hf⟩ := gb_b hf
      obtain ⟨oc20, hcO20, hc20⟩ := gb_b hc20
      obtain ⟨hcg20, hci20⟩ := gfO_s hcO20
      have hci20 := List.mem_singleton.mp hci20
      obtain ⟨kc20, fc20⟩ := oc20
      dsimp only at hci20 hcg20
      subst hci20
      refine gp_callI (va_runV (As := [.int (-1 : Int32)]) (rest := []) ⟨hx, hb, hml, hown, hts⟩ (c_X11_refuse (l := l) (D := D) (b := b) (cI := cI) (cL := cL) hc20) (cwV 1 hts gX11_knows_X11_refuse rfl rfl rfl (by decide +kernel) ⟨Nat.le_of_ble_eq_true rfl, Nat.le_of_ble_eq_true rfl⟩) (gp_preV hKn hG (cp_obj hcg20) rfl) rfl rfl hl.1 rfl (lv_room (Nat.le_of_ble_eq_true rfl)) dX11_knows_20 ⟨Nat.le_of_ble_eq_true rfl, Nat.le_of_ble_eq_true rfl⟩) hS (fun H locs hG hS => ?_)
      have hf := Option.some.inj hf
      subst hf
      exact gp_retI hx hb hr hlocks hG hS (Nat.le_of_ble_eq_true rfl) (Nat.le_of_ble_eq_true rfl) dX11_knows_23
-- X11_lamp
abbrev rm_X11_lamp : Room := { frames := 3, cells := 0, slots := 0, locals := 74 }
set_option maxHeartbeats 4000000 in
set_option maxRecDepth 100000 in
theorem c_X11_lamp {v1 : Int32} {v2 : Int32} {R : Int32 × (Nat → GV)} (hf : f_X11_lamp gv h0 v1 v2 = some R) : Met l yX11_lamp wsX11_lamp rm_X11_lamp (va_Pc [.ref h0, .int v1, .int v2] (gPre D b M (gW cI cL gv) (gTy cI cL))) (gQ D b (some (.int R.1)) M (gW cI cL R.2)) 0 0 (gA b) := by
  refine gp_met (cc := cX11_lamp) (maxL := 4) (ret := (some .int)) (by decide) rfl (Nat.le_of_ble_eq_true rfl) ?_
  intro p e s m below meth c X ls hG hl
  obtain ⟨H, hH0⟩ : ∃ H : Heap, H = s.heap := ⟨_, rfl⟩
  rw [← hH0] at hG ⊢
  have hS : va_S (gA b) s.heap H [] := by rw [hH0]; exact va_S.rf
  obtain ⟨locs, hlo⟩ : ∃ z : List Loc, z = [] := ⟨_, rfl⟩
  rw [← hlo] at hS ⊢
  unfold f_X11_lamp at hf
  obtain ⟨hx, hb, hr, hml, hown, hts, hlocks, hKn, hBs⟩ := id X
  have hK := hKn.1
  have gclL : gcl gLC TX5 5 wsX11_lamp := gcl_L (fun _ h => List.mem_cons_of_mem _ (List.mem_append_left _ (List.mem_append_left _ (List.mem_append_left _ (List.mem_append_left _ (List.mem_append_left _ (List.mem_append_left _ (List.mem_append_left _ (List.mem_append_right _ h))))))))) (fun _ h => List.mem_cons_of_mem _ (List.mem_append_left _ (List.mem_append_left _ (List.mem_append_left _ (List.mem_append_left _ (List.mem_append_left _ (List.mem_append_left _ (List.mem_append_right _ h)))))))) (fun _ h => List.mem_cons_of_mem _ (List.mem_append_left _ (List.mem_append_left _ (List.mem_append_left _ (List.mem_append_left _ (List.mem_append_left _ (List.mem_append_right _ h))))))) (fun _ h => List.mem_cons_of_mem _ (List.mem_append_left _ (List.mem_append_left _ (List.mem_append_left _ (List.mem_append_left _ (List.mem_append_right _ h)))))) (fun _ h => List.mem_cons_of_mem _ (List.mem_append_left _ (List.mem_append_left _ (List.mem_append_left _ (List.mem_append_right _ h))))) (fun _ h => List.mem_cons_of_mem _ (List.mem_append_left _ (List.mem_append_left _ (List.mem_append_right _ h)))) (fun _ h => List.mem_cons_of_mem _ (List.mem_append_left _ (List.mem_append_right _ h)))
  have gclX11 : gcl [9] TX11 8 wsX11_lamp := gcl_1 rfl (fun _ h => List.mem_cons_of_mem _ (List.mem_append_left _ (List.mem_append_left _ (List.mem_append_left _ (List.mem_append_left _ (List.mem_append_left _ (List.mem_append_left _ (List.mem_append_left _ (List.mem_append_left _ (List.mem_append_right _ h))))))))))
  have hl : lv_has ls 4 [(0, .ref h0), (1, .int v1), (2, .int v2)] := hl
  refine lv_aload_n hx hb dX11_lamp_0 rfl (lv_at hl 0 rfl) ?_
  obtain ⟨t1, ht1, hf⟩ := gb_b hf
  refine cp_get (v := va_rf t1) hx hb hts gclX11 hown hK hG 4 (gfR_s ht1) (by decide) (hts _ (List.mem_of_getElem? (i := 1) rfl)) (fun _ h9 => h9) dX11_lamp_1 ?_
  refine lv_iload_n hx hb dX11_lamp_4 rfl (lv_at hl 1 rfl) ?_
  obtain ⟨q5, hq5, hf⟩ := gb_b hf
  refine W.eq (g2 := F0 m 5 ls [.int v1, .ref q5]) (congrArg (fun z => F0 m 5 ls [.int v1, va_rf z]) hq5) ?_
  obtain ⟨o5, hc5, hf⟩ := gb_b hf
  obtain ⟨oc5, hcO5, hc5⟩ := gb_b hc5
  obtain ⟨hcg5, hci5⟩ := gfO_s hcO5
  have hci5 := List.mem_singleton.mp hci5
  obtain ⟨kc5, fc5⟩ := oc5
  dsimp only at hci5 hcg5
  subst hci5
  refine gp_callR (va_runV (As := [.int v1]) (rest := []) ⟨hx, hb, hml, hown, hts⟩ (c_X10_lampAt (l := l) (D := D) (b := b) (cI := cI) (cL := cL) hc5) (cwV 1 hts gX11_lamp_X10_lampAt rfl rfl rfl (by decide +kernel) ⟨Nat.le_of_ble_eq_true rfl, Nat.le_of_ble_eq_true rfl⟩) (gp_preV hKn hG (cp_obj hcg5) rfl) rfl rfl hl.1 rfl (lv_room (Nat.le_of_ble_eq_true rfl)) dX11_lamp_5 ⟨Nat.le_of_ble_eq_true rfl, Nat.le_of_ble_eq_true rfl⟩) hS (fun H locs hG hS => ?_)
  refine gp_astore_n (lv' := [(3, va_rf o5), (0, .ref h0), (1, .int v1), (2, .int v2)]) hx hb dX11_lamp_8 rfl hl (by decide) rfl (fun ls hl => ?_)
  refine gp_aload_n (x := o5) hx hb dX11_lamp_9 rfl (lv_at hl 0 rfl) ?_
  refine gp_ifnonnull (x := o5) (tgt := 19) hx hb dX11_lamp_10 (by decide) ?_ ?_
  · intro n10 e10
    rw [e10] at hl
    rw [e10] at hf
    dsimp only at hf
    refine lv_iload_n hx hb dX11_lamp_19 rfl (lv_at hl 3 rfl) ?_
    by_cases c20_0 : v2 = 0
    · have hf := gb_t c20_0 hf
      refine lv_tableIn (tgt := 60) (off := 40) hx hb dX11_lamp_20 (by rw [c20_0]; decide) (by rw [c20_0]; decide) (by rw [c20_0]; rfl) (by decide) ?_
      refine lv_aload_n hx hb dX11_lamp_60 rfl (lv_at hl 0 rfl) ?_
      obtain ⟨o61, hc61, hf⟩ := gb_b hf
      have hrun61 : va_Run p l e rm_X11_lamp s m [.ref h0, .int v1, .int v2].toArray below meth c H locs 0 0 0 0 (F0 m 61 ls ([].reverse ++ .ref n10 :: [])) [] (gQ D b (some (.int o61)) M (gW cI cL gv) (Value.ref n10 :: []).toArray) (gA b) := by
        obtain ⟨oc, hcO, hc61⟩ := gb_b hc61
        obtain ⟨hcg, hci⟩ := gfO_s hcO
        obtain ⟨kc, fc⟩ := oc
        dsimp only at hci hcg hc61
        rcases gLC_7 hci with rfl | rfl | rfl | rfl | rfl | rfl | rfl
        · have hc61 : f_X0_kind n10 = some o61 := hc61
          exact va_runU (As := []) (rest := []) ⟨hx, hb, hml, hown, hts⟩ (c_X0_kind (l := l) (D := D) (b := b) (cI := cI) (cL := cL) hc61) (va_cwO 0 hts gX11_lamp_X0_kind_u95X0 rfl rfl rfl (List.mem_of_getElem? (i := 25) rfl) (by decide +kernel) ⟨Nat.le_of_ble_eq_true rfl, Nat.le_of_ble_eq_true rfl⟩) (gp_preV hKn hG (cp_obj hcg) rfl) rfl rfl hl.1 rfl (lv_room (Nat.le_of_ble_eq_true rfl)) dX11_lamp_61 ⟨Nat.le_of_ble_eq_true rfl, Nat.le_of_ble_eq_true rfl⟩
        · have hc61 : f_X1_kind n10 = some o61 := hc61
          exact va_runU (As := []) (rest := []) ⟨hx, hb, hml, hown, hts⟩ (c_X1_kind (l := l) (D := D) (b := b) (cI := cI) (cL := cL) hc61) (va_cwO 0 hts gX11_lamp_X1_kind_u95X1 rfl rfl rfl (List.mem_of_getElem? (i := 25) rfl) (by decide +kernel) ⟨Nat.le_of_ble_eq_true rfl, Nat.le_of_ble_eq_true rfl⟩) (gp_preV hKn hG (cp_obj hcg) rfl) rfl rfl hl.1 rfl (lv_room (Nat.le_of_ble_eq_true rfl)) dX11_lamp_61 ⟨Nat.le_of_ble_eq_true rfl, Nat.le_of_ble_eq_true rfl⟩
        · have hc61 : f_X3_kind n10 = some o61 := hc61
          exact va_runU (As := []) (rest := []) ⟨hx, hb, hml, hown, hts⟩ (c_X3_kind (l := l) (D := D) (b := b) (cI := cI) (cL := cL) hc61) (va_cwO 0 hts gX11_lamp_X3_kind_u95X3 rfl rfl rfl (List.mem_of_getElem? (i := 25) rfl) (by decide +kernel) ⟨Nat.le_of_ble_eq_true rfl, Nat.le_of_ble_eq_true rfl⟩) (gp_preV hKn hG (cp_obj hcg) rfl) rfl rfl hl.1 rfl (lv_room (Nat.le_of_ble_eq_true rfl)) dX11_lamp_61 ⟨Nat.le_of_ble_eq_true rfl, Nat.le_of_ble_eq_true rfl⟩
        · have hc61 : f_X4_kind n10 = some o61 := hc61
          exact va_runU (As := []) (rest := []) ⟨hx, hb, hml, hown, hts⟩ (c_X4_kind (l := l) (D := D) (b := b) (cI := cI) (cL := cL) hc61) (va_cwO 0 hts gX11_lamp_X4_kind_u95X4 rfl rfl rfl (List.mem_of_getElem? (i := 25) rfl) (by decide +kernel) ⟨Nat.le_of_ble_eq_true rfl, Nat.le_of_ble_eq_true rfl⟩) (gp_preV hKn hG (cp_obj hcg) rfl) rfl rfl hl.1 rfl (lv_room (Nat.le_of_ble_eq_true rfl)) dX11_lamp_61 ⟨Nat.le_of_ble_eq_true rfl, Nat.le_of_ble_eq_true rfl⟩
        · have hc61 : f_X5_kind n10 = some o61 := hc61
          exact va_runV (As := []) (rest := []) ⟨hx, hb, hml, hown, hts⟩ (c_X5_kind (l := l) (D := D) (b := b) (cI := cI) (cL := cL) hc61) (cwV 0 hts gX11_lamp_X5_kind rfl rfl rfl (by decide +kernel) ⟨Nat.le_of_ble_eq_true rfl, Nat.le_of_ble_eq_true rfl⟩) (gp_preV hKn hG (cp_obj hcg) rfl) rfl rfl hl.1 rfl (lv_room (Nat.le_of_ble_eq_true rfl)) dX11_lamp_61 ⟨Nat.le_of_ble_eq_true rfl, Nat.le_of_ble_eq_true rfl⟩
        · have hc61 : f_X7_kind n10 = some o61 := hc61
          exact va_runU (As := []) (rest := []) ⟨hx, hb, hml, hown, hts⟩ (c_X7_kind (l := l) (D := D) (b := b) (cI := cI) (cL := cL) hc61) (va_cwO 0 hts gX11_lamp_X7_kind_u95X7 rfl rfl rfl (List.mem_of_getElem? (i := 25) rfl) (by decide +kernel) ⟨Nat.le_of_ble_eq_true rfl, Nat.le_of_ble_eq_true rfl⟩) (gp_preV hKn hG (cp_obj hcg) rfl) rfl rfl hl.1 rfl (lv_room (Nat.le_of_ble_eq_true rfl)) dX11_lamp_61 ⟨Nat.le_of_ble_eq_true rfl, Nat.le_of_ble_eq_true rfl⟩
        · have hc61 : f_X8_kind n10 = some o61 := hc61
          exact va_runU (As := []) (rest := []) ⟨hx, hb, hml, hown, hts⟩ (c_X8_kind (l := l) (D := D) (b := b) (cI := cI) (cL := cL) hc61) (va_cwO 0 hts gX11_lamp_X8_kind_u95X8 rfl rfl rfl (List.mem_of_getElem? (i := 25) rfl) (by decide +kernel) ⟨Nat.le_of_ble_eq_true rfl, Nat.le_of_ble_eq_true rfl⟩) (gp_preV hKn hG (cp_obj hcg) rfl) rfl rfl hl.1 rfl (lv_room (Nat.le_of_ble_eq_true rfl)) dX11_lamp_61 ⟨Nat.le_of_ble_eq_true rfl, Nat.le_of_ble_eq_true rfl⟩
      refine gp_callI hrun61 hS (fun H locs hG hS => ?_)
      have hf := Option.some.inj hf
      subst hf
      exact gp_retI hx hb hr hlocks hG hS (Nat.le_of_ble_eq_true rfl) (Nat.le_of_ble_eq_true rfl) dX11_lamp_64
    · have hf := gb_f c20_0 hf
      by_cases c20_1 : v2 = 1
      · have hf := gb_t c20_1 hf
        refine lv_tableIn (tgt := 65) (off := 45) hx hb dX11_lamp_20 (by rw [c20_1]; decide) (by rw [c20_1]; decide) (by rw [c20_1]; rfl) (by decide) ?_
        refine lv_aload_n hx hb dX11_lamp_65 rfl (lv_at hl 0 rfl) ?_
        refine lv_aload_n hx hb dX11_lamp_66 rfl (lv_at hl 1 rfl) ?_
        obtain ⟨t67, ht67, hf⟩ := gb_b hf
        refine cp_get (v := va_rf t67) hx hb hts gclX11 hown hK hG 4 (gfR_s ht67) (by decide) (hts _ (List.mem_of_getElem? (i := 1) rfl)) (fun _ h9 => h9) dX11_lamp_67 ?_
        obtain ⟨o70, hc70, hf⟩ := gb_b hf
        have hrun70 : va_Run p l e rm_X11_lamp s m [.ref h0, .int v1, .int v2].toArray below meth c H locs 0 0 0 0 (F0 m 70 ls ([va_rf t67].reverse ++ .ref n10 :: [])) [] (gQ D b (some (.int o70)) M (gW cI cL gv) (Value.ref n10 :: [va_rf t67]).toArray) (gA b) := by
          obtain ⟨oc, hcO, hc70⟩ := gb_b hc70
          obtain ⟨hcg, hci⟩ := gfO_s hcO
          obtain ⟨kc, fc⟩ := oc
          dsimp only at hci hcg hc70
          rcases gLC_7 hci with rfl | rfl | rfl | rfl | rfl | rfl | rfl
          · have hc70 : f_X5_cellNow gv n10 t67 = some o70 := hc70
            exact va_runU (As := [va_rf t67]) (rest := []) ⟨hx, hb, hml, hown, hts⟩ (c_X5_cellNow (l := l) (D := D) (b := b) (cI := cI) (cL := cL) hc70) (va_cwU 1 hts gX11_lamp_X5_cellNow_u99X0 rfl rfl rfl rfl (by decide +kernel) ⟨Nat.le_of_ble_eq_true rfl, Nat.le_of_ble_eq_true rfl⟩) (gp_preV hKn hG (cp_obj hcg) rfl) rfl rfl hl.1 rfl (lv_room (Nat.le_of_ble_eq_true rfl)) dX11_lamp_70 ⟨Nat.le_of_ble_eq_true rfl, Nat.le_of_ble_eq_true rfl⟩
          · have hc70 : f_X1_cellNow gv n10 t67 = some o70 := hc70
            exact va_runU (As := [va_rf t67]) (rest := []) ⟨hx, hb, hml, hown, hts⟩ (c_X1_cellNow (l := l) (D := D) (b := b) (cI := cI) (cL := cL) hc70) (va_cwO 1 hts gX11_lamp_X1_cellNow_u99X1 rfl rfl rfl (List.mem_of_getElem? (i := 54) rfl) (by decide +kernel) ⟨Nat.le_of_ble_eq_true rfl, Nat.le_of_ble_eq_true rfl⟩) (gp_preV hKn hG (cp_obj hcg) rfl) rfl rfl hl.1 rfl (lv_room (Nat.le_of_ble_eq_true rfl)) dX11_lamp_70 ⟨Nat.le_of_ble_eq_true rfl, Nat.le_of_ble_eq_true rfl⟩
          · have hc70 : f_X5_cellNow gv n10 t67 = some o70 := hc70
            exact va_runU (As := [va_rf t67]) (rest := []) ⟨hx, hb, hml, hown, hts⟩ (c_X5_cellNow (l := l) (D := D) (b := b) (cI := cI) (cL := cL) hc70) (va_cwU 1 hts gX11_lamp_X5_cellNow_u99X3 rfl rfl rfl rfl (by decide +kernel) ⟨Nat.le_of_ble_eq_true rfl, Nat.le_of_ble_eq_true rfl⟩) (gp_preV hKn hG (cp_obj hcg) rfl) rfl rfl hl.1 rfl (lv_room (Nat.le_of_ble_eq_true rfl)) dX11_lamp_70 ⟨Nat.le_of_ble_eq_true rfl, Nat.le_of_ble_eq_true rfl⟩
          · have hc70 : f_X5_cellNow gv n10 t67 = some o70 := hc70
            exact va_runU (As := [va_rf t67]) (rest := []) ⟨hx, hb, hml, hown, hts⟩ (c_X5_cellNow (l := l) (D := D) (b := b) (cI := cI) (cL := cL) hc70) (va_cwU 1 hts gX11_lamp_X5_cellNow_u99X4 rfl rfl rfl rfl (by decide +kernel) ⟨Nat.le_of_ble_eq_true rfl, Nat.le_of_ble_eq_true rfl⟩) (gp_preV hKn hG (cp_obj hcg) rfl) rfl rfl hl.1 rfl (lv_room (Nat.le_of_ble_eq_true rfl)) dX11_lamp_70 ⟨Nat.le_of_ble_eq_true rfl, Nat.le_of_ble_eq_true rfl⟩
          · have hc70 : f_X5_cellNow gv n10 t67 = some o70 := hc70
            exact va_runV (As := [va_rf t67]) (rest := []) ⟨hx, hb, hml, hown, hts⟩ (c_X5_cellNow (l := l) (D := D) (b := b) (cI := cI) (cL := cL) hc70) (cwV 1 hts gX11_lamp_X5_cellNow rfl rfl rfl (by decide +kernel) ⟨Nat.le_of_ble_eq_true rfl, Nat.le_of_ble_eq_true rfl⟩) (gp_preV hKn hG (cp_obj hcg) rfl) rfl rfl hl.1 rfl (lv_room (Nat.le_of_ble_eq_true rfl)) dX11_lamp_70 ⟨Nat.le_of_ble_eq_true rfl, Nat.le_of_ble_eq_true rfl⟩
          · have hc70 : f_X5_cellNow gv n10 t67 = some o70 := hc70
            exact va_runU (As := [va_rf t67]) (rest := []) ⟨hx, hb, hml, hown, hts⟩ (c_X5_cellNow (l := l) (D := D) (b := b) (cI := cI) (cL := cL) hc70) (va_cwU 1 hts gX11_lamp_X5_cellNow_u99X7 rfl rfl rfl rfl (by decide +kernel) ⟨Nat.le_of_ble_eq_true rfl, Nat.le_of_ble_eq_true rfl⟩) (gp_preV hKn hG (cp_obj hcg) rfl) rfl rfl hl.1 rfl (lv_room (Nat.le_of_ble_eq_true rfl)) dX11_lamp_70 ⟨Nat.le_of_ble_eq_true rfl, Nat.le_of_ble_eq_true rfl⟩
          · have hc70 : f_X5_cellNow gv n10 t67 = some o70 := hc70
            exact va_runU (As := [va_rf t67]) (rest := []) ⟨hx, hb, hml, hown, hts⟩ (c_X5_cellNow (l := l) (D := D) (b := b) (cI := cI) (cL := cL) hc70) (va_cwU 1 hts gX11_lamp_X5_cellNow_u99X8 rfl rfl rfl rfl (by decide +kernel) ⟨Nat.le_of_ble_eq_true rfl, Nat.le_of_ble_eq_true rfl⟩) (gp_preV hKn hG (cp_obj hcg) rfl) rfl rfl hl.1 rfl (lv_room (Nat.le_of_ble_eq_true rfl)) dX11_lamp_70 ⟨Nat.le_of_ble_eq_true rfl, Nat.le_of_ble_eq_true rfl⟩
        refine gp_callI hrun70 hS (fun H locs hG hS => ?_)
        have hf := Option.some.inj hf
        subst hf
        exact gp_retI hx hb hr hlocks hG hS (Nat.le_of_ble_eq_true rfl) (Nat.le_of_ble_eq_true rfl) dX11_lamp_73
      · have hf := gb_f c20_1 hf
        by_cases c20_2 : v2 = 2
        · have hf := gb_t c20_2 hf
          refine lv_tableIn (tgt := 74) (off := 54) hx hb dX11_lamp_20 (by rw [c20_2]; decide) (by rw [c20_2]; decide) (by rw [c20_2]; rfl) (by decide) ?_
          refine lv_aload_n hx hb dX11_lamp_74 rfl (lv_at hl 0 rfl) ?_
          obtain ⟨t75, ht75, hf⟩ := gb_b hf
          refine cp_get (v := .int t75) hx hb hts gclL hown hK hG 1 (gfI_s ht75) (by decide) (hts _ (List.mem_of_getElem? (i := 2) rfl)) (fun _ h9 => h9) dX11_lamp_75 ?_
          have hf := Option.some.inj hf
          subst hf
          exact gp_retI hx hb hr hlocks hG hS (Nat.le_of_ble_eq_true rfl) (Nat.le_of_ble_eq_true rfl) dX11_lamp_78
        · have hf := gb_f c20_2 hf
          by_cases c20_3 : v2 = 3
          · have hf := gb_t c20_3 hf
            refine lv_tableIn (tgt := 79) (off := 59) hx hb dX11_lamp_20 (by rw [c20_3]; decide) (by rw [c20_3]; decide) (by rw [c20_3]; rfl) (by decide) ?_
            refine lv_aload_n hx hb dX11_lamp_79 rfl (lv_at hl 0 rfl) ?_
            obtain ⟨t80, ht80, hf⟩ := gb_b hf
            refine cp_get (v := .int t80) hx hb hts gclL hown hK hG 2 (gfI_s ht80) (by decide) (hts _ (List.mem_of_getElem? (i := 3) rfl)) (fun _ h9 => h9) dX11_lamp_80 ?_
            obtain ⟨o83, hc83, hf⟩ := gb_b hf
            refine gp_callI (va_runS (As := [.int t80]) (rest := []) ⟨hx, hb, hml, hown, hts⟩ (c_X11_yes (l := l) (D := D) (b := b) (cI := cI) (cL := cL) hc83) (va_cwS 1 hts gX11_lamp_X11_yes rfl rfl rfl (by decide +kernel) ⟨Nat.le_of_ble_eq_true rfl, Nat.le_of_ble_eq_true rfl⟩) (gp_preS hKn hG) rfl rfl hl.1 rfl (lv_room (Nat.le_of_ble_eq_true rfl)) dX11_lamp_83 ⟨Nat.le_of_ble_eq_true rfl, Nat.le_of_ble_eq_true rfl⟩) hS (fun H locs hG hS => ?_)
            have hf := Option.some.inj hf
            subst hf
            exact gp_retI hx hb hr hlocks hG hS (Nat.le_of_ble_eq_true rfl) (Nat.le_of_ble_eq_true rfl) dX11_lamp_86
          · have hf := gb_f c20_3 hf
            by_cases c20_4 : v2 = 4
            · have hf := gb_t c20_4 hf
              refine lv_tableIn (tgt := 87) (off := 67) hx hb dX11_lamp_20 (by rw [c20_4]; decide) (by rw [c20_4]; decide) (by rw [c20_4]; rfl) (by decide) ?_
              refine lv_aload_n hx hb dX11_lamp_87 rfl (lv_at hl 0 rfl) ?_
              obtain ⟨t88, ht88, hf⟩ := gb_b hf
              refine cp_get (v := .int t88) hx hb hts gclL hown hK hG 3 (gfI_s ht88) (by decide) (hts _ (List.mem_of_getElem? (i := 4) rfl)) (fun _ h9 => h9) dX11_lamp_88 ?_
              have hf := Option.some.inj hf
              subst hf
              exact gp_retI hx hb hr hlocks hG hS (Nat.le_of_ble_eq_true rfl) (Nat.le_of_ble_eq_true rfl) dX11_lamp_91
            · have hf := gb_f c20_4 hf
              by_cases c20_5 : v2 = 5
              · have hf := gb_t c20_5 hf
                refine lv_tableIn (tgt := 92) (off := 72) hx hb dX11_lamp_20 (by rw [c20_5]; decide) (by rw [c20_5]; decide) (by rw [c20_5]; rfl) (by decide) ?_
                refine lv_aload_n hx hb dX11_lamp_92 rfl (lv_at hl 0 rfl) ?_
                refine lv_aload_n hx hb dX11_lamp_93 rfl (lv_at hl 1 rfl) ?_
                obtain ⟨t94, ht94, hf⟩ := gb_b hf
                refine cp_get (v := va_rf t94) hx hb hts gclX11 hown hK hG 4 (gfR_s ht94) (by decide) (hts _ (List.mem_of_getElem? (i := 1) rfl)) (fun _ h9 => h9) dX11_lamp_94 ?_
                obtain ⟨o97, hc97, hf⟩ := gb_b hf
                have hrun97 : va_Run p l e rm_X11_lamp s m [.ref h0, .int v1, .int v2].toArray below meth c H locs 0 0 0 0 (F0 m 97 ls ([va_rf t94].reverse ++ .ref n10 :: [])) [] (gQ D b (some (.long o97)) M (gW cI cL gv) (Value.ref n10 :: [va_rf t94]).toArray) (gA b) := by
                  obtain ⟨oc, hcO, hc97⟩ := gb_b hc97
                  obtain ⟨hcg, hci⟩ := gfO_s hcO
                  obtain ⟨kc, fc⟩ := oc
                  dsimp only at hci hcg hc97
                  rcases gLC_7 hci with rfl | rfl | rfl | rfl | rfl | rfl | rfl
                  · exact va_runU (As := [va_rf t94]) (rest := []) ⟨hx, hb, hml, hown, hts⟩ (c_X5_glow (l := l) (D := D) (b := b) (cI := cI) (cL := cL) hc97) (va_cwU 1 hts gX11_lamp_X5_glow_u108X0 rfl rfl rfl rfl (by decide +kernel) ⟨Nat.le_of_ble_eq_true rfl, Nat.le_of_ble_eq_true rfl⟩) (gp_preV hKn hG (cp_obj hcg) rfl) rfl rfl hl.1 rfl (lv_room (Nat.le_of_ble_eq_true rfl)) dX11_lamp_97 ⟨Nat.le_of_ble_eq_true rfl, Nat.le_of_ble_eq_true rfl⟩
                  · exact va_runU (As := [va_rf t94]) (rest := []) ⟨hx, hb, hml, hown, hts⟩ (c_X5_glow (l := l) (D := D) (b := b) (cI := cI) (cL := cL) hc97) (va_cwU 1 hts gX11_lamp_X5_glow_u108X1 rfl rfl rfl rfl (by decide +kernel) ⟨Nat.le_of_ble_eq_true rfl, Nat.le_of_ble_eq_true rfl⟩) (gp_preV hKn hG (cp_obj hcg) rfl) rfl rfl hl.1 rfl (lv_room (Nat.le_of_ble_eq_true rfl)) dX11_lamp_97 ⟨Nat.le_of_ble_eq_true rfl, Nat.le_of_ble_eq_true rfl⟩
                  · exact va_runU (As := [va_rf t94]) (rest := []) ⟨hx, hb, hml, hown, hts⟩ (c_X5_glow (l := l) (D := D) (b := b) (cI := cI) (cL := cL) hc97) (va_cwU 1 hts gX11_lamp_X5_glow_u108X3 rfl rfl rfl rfl (by decide +kernel) ⟨Nat.le_of_ble_eq_true rfl, Nat.le_of_ble_eq_true rfl⟩) (gp_preV hKn hG (cp_obj hcg) rfl) rfl rfl hl.1 rfl (lv_room (Nat.le_of_ble_eq_true rfl)) dX11_lamp_97 ⟨Nat.le_of_ble_eq_true rfl, Nat.le_of_ble_eq_true rfl⟩
                  · exact va_runU (As := [va_rf t94]) (rest := []) ⟨hx, hb, hml, hown, hts⟩ (c_X5_glow (l := l) (D := D) (b := b) (cI := cI) (cL := cL) hc97) (va_cwU 1 hts gX11_lamp_X5_glow_u108X4 rfl rfl rfl rfl (by decide +kernel) ⟨Nat.le_of_ble_eq_true rfl, Nat.le_of_ble_eq_true rfl⟩) (gp_preV hKn hG (cp_obj hcg) rfl) rfl rfl hl.1 rfl (lv_room (Nat.le_of_ble_eq_true rfl)) dX11_lamp_97 ⟨Nat.le_of_ble_eq_true rfl, Nat.le_of_ble_eq_true rfl⟩
                  · exact va_runV (As := [va_rf t94]) (rest := []) ⟨hx, hb, hml, hown, hts⟩ (c_X5_glow (l := l) (D := D) (b := b) (cI := cI) (cL := cL) hc97) (cwV 1 hts gX11_lamp_X5_glow rfl rfl rfl (by decide +kernel) ⟨Nat.le_of_ble_eq_true rfl, Nat.le_of_ble_eq_true rfl⟩) (gp_preV hKn hG (cp_obj hcg) rfl) rfl rfl hl.1 rfl (lv_room (Nat.le_of_ble_eq_true rfl)) dX11_lamp_97 ⟨Nat.le_of_ble_eq_true rfl, Nat.le_of_ble_eq_true rfl⟩
                  · exact va_runU (As := [va_rf t94]) (rest := []) ⟨hx, hb, hml, hown, hts⟩ (c_X5_glow (l := l) (D := D) (b := b) (cI := cI) (cL := cL) hc97) (va_cwU 1 hts gX11_lamp_X5_glow_u108X7 rfl rfl rfl rfl (by decide +kernel) ⟨Nat.le_of_ble_eq_true rfl, Nat.le_of_ble_eq_true rfl⟩) (gp_preV hKn hG (cp_obj hcg) rfl) rfl rfl hl.1 rfl (lv_room (Nat.le_of_ble_eq_true rfl)) dX11_lamp_97 ⟨Nat.le_of_ble_eq_true rfl, Nat.le_of_ble_eq_true rfl⟩
                  · exact va_runU (As := [va_rf t94]) (rest := []) ⟨hx, hb, hml, hown, hts⟩ (c_X5_glow (l := l) (D := D) (b := b) (cI := cI) (cL := cL) hc97) (va_cwU 1 hts gX11_lamp_X5_glow_u108X8 rfl rfl rfl rfl (by decide +kernel) ⟨Nat.le_of_ble_eq_true rfl, Nat.le_of_ble_eq_true rfl⟩) (gp_preV hKn hG (cp_obj hcg) rfl) rfl rfl hl.1 rfl (lv_room (Nat.le_of_ble_eq_true rfl)) dX11_lamp_97 ⟨Nat.le_of_ble_eq_true rfl, Nat.le_of_ble_eq_true rfl⟩
                refine gp_callL hrun97 hS (fun H locs hG hS => ?_)
                obtain ⟨o100, hc100, hf⟩ := gb_b hf
                refine gp_callI (va_runS (As := [.long o97]) (rest := []) ⟨hx, hb, hml, hown, hts⟩ (c_X2_howMany (l := l) (D := D) (b := b) (cI := cI) (cL := cL) hc100) (va_cwS 1 hts gX11_lamp_X2_howMany rfl rfl rfl (by decide +kernel) ⟨Nat.le_of_ble_eq_true rfl, Nat.le_of_ble_eq_true rfl⟩) (gp_preS hKn hG) rfl rfl hl.1 rfl (lv_room (Nat.le_of_ble_eq_true rfl)) dX11_lamp_100 ⟨Nat.le_of_ble_eq_true rfl, Nat.le_of_ble_eq_true rfl⟩) hS (fun H locs hG hS => ?_)
                have hf := Option.some.inj hf
                subst hf
                exact gp_retI hx hb hr hlocks hG hS (Nat.le_of_ble_eq_true rfl) (Nat.le_of_ble_eq_true rfl) dX11_lamp_103
              · have hf := gb_f c20_5 hf
                have ho20 : (v2).toInt < 0 ∨ 5 < (v2).toInt := by
                  have q : ∀ k : Int32, ¬ v2 = k → ¬ (v2).toInt = k.toInt := fun k hk h => hk (Int32.toInt_inj.mp h)
                  have q0 := q 0 c20_0; rw [show (0 : Int32).toInt = 0 from rfl] at q0
                  have q1 := q 1 c20_1; rw [show (1 : Int32).toInt = 1 from rfl] at q1
                  have q2 := q 2 c20_2; rw [show (2 : Int32).toInt = 2 from rfl] at q2
                  have q3 := q 3 c20_3; rw [show (3 : Int32).toInt = 3 from rfl] at q3
                  have q4 := q 4 c20_4; rw [show (4 : Int32).toInt = 4 from rfl] at q4
                  have q5 := q 5 c20_5; rw [show (5 : Int32).toInt = 5 from rfl] at q5
                  omega
                refine lv_tableOut (tgt := 104) hx hb dX11_lamp_20 ho20 (by decide) ?_
                refine lv_aload_n hx hb dX11_lamp_104 rfl (lv_at hl 1 rfl) ?_
                refine lv_bipush (v := (-2 : Int32)) hx hb dX11_lamp_105 (by decide) ?_
                obtain ⟨o107, hc107, hf⟩ := gb_b hf
                obtain ⟨oc107, hcO107, hc107⟩ := gb_b hc107
                obtain ⟨hcg107, hci107⟩ := gfO_s hcO107
                have hci107 := List.mem_singleton.mp hci107
                obtain ⟨kc107, fc107⟩ := oc107
                dsimp only at hci107 hcg107
                subst hci107
                refine gp_callI (va_runV (As := [.int (-2 : Int32)]) (rest := []) ⟨hx, hb, hml, hown, hts⟩ (c_X11_refuse (l := l) (D := D) (b := b) (cI := cI) (cL := cL) hc107) (cwV 1 hts gX11_lamp_X11_refuse rfl rfl rfl (by decide +kernel) ⟨Nat.le_of_ble_eq_true rfl, Nat.le_of_ble_eq_true rfl⟩) (gp_preV hKn hG (cp_obj hcg107) rfl) rfl rfl hl.1 rfl (lv_room (Nat.le_of_ble_eq_true rfl)) dX11_lamp_107 ⟨Nat.le_of_ble_eq_true rfl, Nat.le_of_ble_eq_true rfl⟩) hS (fun H locs hG hS => ?_)
                have hf := Option.some.inj hf
                subst hf
                exact gp_retI hx hb hr hlocks hG hS (Nat.le_of_ble_eq_true rfl) (Nat.le_of_ble_eq_true rfl) dX11_lamp_110
  · intro e10
    rw [e10] at hl
    rw [e10] at hf
    dsimp only at hf
    refine lv_aload_n hx hb dX11_lamp_13 rfl (lv_at hl 1 rfl) ?_
    refine lv_iconst (v := (-1 : Int32)) hx hb dX11_lamp_14 (by decide) ?_
    obtain ⟨o15, hc15, hf⟩ := gb_b hf
    obtain ⟨oc15, hcO15, hc15⟩ := gb_b hc15
    obtain ⟨hcg15, hci15⟩ := gfO_s hcO15
    have hci15 := List.mem_singleton.mp hci15
    obtain ⟨kc15, fc15⟩ := oc15
    dsimp only at hci15 hcg15
    subst hci15
    refine gp_callI (va_runV (As := [.int (-1 : Int32)]) (rest := []) ⟨hx, hb, hml, hown, hts⟩ (c_X11_refuse (l := l) (D := D) (b := b) (cI := cI) (cL := cL) hc15) (cwV 1 hts gX11_lamp_X11_refuse rfl rfl rfl (by decide +kernel) ⟨Nat.le_of_ble_eq_true rfl, Nat.le_of_ble_eq_true rfl⟩) (gp_preV hKn hG (cp_obj hcg15) rfl) rfl rfl hl.1 rfl (lv_room (Nat.le_of_ble_eq_true rfl)) dX11_lamp_15 ⟨Nat.le_of_ble_eq_true rfl, Nat.le_of_ble_eq_true rfl⟩) hS (fun H locs hG hS => ?_)
    have hf := Option.some.inj hf
    subst hf
    exact gp_retI hx hb hr hlocks hG hS (Nat.le_of_ble_eq_true rfl) (Nat.le_of_ble_eq_true rfl) dX11_lamp_18
-- X11_letter
abbrev rm_X11_letter : Room := { frames := 1, cells := 0, slots := 0, locals := 21 }
set_option maxHeartbeats 4000000 in
set_option maxRecDepth 100000 in
theorem c_X11_letter {v1 : Int32} {R : Int32 × (Nat → GV)} (hf : f_X11_letter gv h0 v1 = some R) : Met l yX11_letter wsX11_letter rm_X11_letter (va_Pc [.ref h0, .int v1] (gPre D b M (gW cI cL gv) (gTy cI cL))) (gQ D b (some (.int R.1)) M (gW cI cL R.2)) 0 0 (gA b) := by
  refine gp_met (cc := cX11_letter) (maxL := 2) (ret := (some .int)) (by decide) rfl (Nat.le_of_ble_eq_true rfl) ?_
  intro p e s m below meth c X ls hG hl
  obtain ⟨H, hH0⟩ : ∃ H : Heap, H = s.heap := ⟨_, rfl⟩
  rw [← hH0] at hG ⊢
  have hS : va_S (gA b) s.heap H [] := by rw [hH0]; exact va_S.rf
  obtain ⟨locs, hlo⟩ : ∃ z : List Loc, z = [] := ⟨_, rfl⟩
  rw [← hlo] at hS ⊢
  unfold f_X11_letter at hf
  obtain ⟨hx, hb, hr, hml, hown, hts, hlocks, hKn, hBs⟩ := id X
  have hK := hKn.1
  have gclX11 : gcl [9] TX11 8 wsX11_letter := gcl_1 rfl (fun _ h => List.mem_cons_of_mem _ (List.mem_append_left _ (List.mem_append_right _ h)))
  have hl : lv_has ls 2 [(0, .ref h0), (1, .int v1)] := hl
  refine lv_iload_n hx hb dX11_letter_0 rfl (lv_at hl 1 rfl) ?_
  refine lv_if_ge (tgt := 11) hx hb dX11_letter_1 (by decide) (fun c1 => ?_) (fun c1 => ?_)
  · have hf := gb_t c1 hf
    refine lv_iload_n hx hb dX11_letter_11 rfl (lv_at hl 1 rfl) ?_
    refine lv_sipush (v := 255) hx hb dX11_letter_12 (by decide) ?_
    refine lv_icmp_gt (tgt := 28) hx hb dX11_letter_15 (by decide) (fun c15 => ?_) (fun c15 => ?_)
    · have hf := gb_t c15 hf
      refine lv_aload_n hx hb dX11_letter_28 rfl (lv_at hl 0 rfl) ?_
      refine lv_bipush (v := (-6 : Int32)) hx hb dX11_letter_29 (by decide) ?_
      obtain ⟨o31, hc31, hf⟩ := gb_b hf
      obtain ⟨oc31, hcO31, hc31⟩ := gb_b hc31
      obtain ⟨hcg31, hci31⟩ := gfO_s hcO31
      have hci31 := List.mem_singleton.mp hci31
      obtain ⟨kc31, fc31⟩ := oc31
      dsimp only at hci31 hcg31
      subst hci31
      refine gp_callI (va_runV (As := [.int (-6 : Int32)]) (rest := []) ⟨hx, hb, hml, hown, hts⟩ (c_X11_refuse (l := l) (D := D) (b := b) (cI := cI) (cL := cL) hc31) (cwV 1 hts gX11_letter_X11_refuse rfl rfl rfl (by decide +kernel) ⟨Nat.le_of_ble_eq_true rfl, Nat.le_of_ble_eq_true rfl⟩) (gp_preV hKn hG (cp_obj hcg31) rfl) rfl rfl hl.1 rfl (lv_room (Nat.le_of_ble_eq_true rfl)) dX11_letter_31 ⟨Nat.le_of_ble_eq_true rfl, Nat.le_of_ble_eq_true rfl⟩) hS (fun H locs hG hS => ?_)
      have hf := Option.some.inj hf
      subst hf
      exact gp_retI hx hb hr hlocks hG hS (Nat.le_of_ble_eq_true rfl) (Nat.le_of_ble_eq_true rfl) dX11_letter_34
    · have hf := gb_f c15 hf
      refine lv_aload_n hx hb dX11_letter_18 rfl (lv_at hl 0 rfl) ?_
      obtain ⟨t19, ht19, hf⟩ := gb_b hf
      refine cp_get (v := va_rf t19) hx hb hts gclX11 hown hK hG 0 (gfR_s ht19) (by decide) (hts _ (List.mem_of_getElem? (i := 1) rfl)) (fun _ h9 => h9) dX11_letter_19 ?_
      obtain ⟨q22, hq22, hf⟩ := gb_b hf
      refine W.eq (g2 := F0 m 22 ls [.ref q22]) (congrArg (fun z => F0 m 22 ls [va_rf z]) hq22) ?_
      obtain ⟨o22, hc22, hf⟩ := gb_b hf
      obtain ⟨oc22, hcO22, hc22⟩ := gb_b hc22
      obtain ⟨hcg22, hci22⟩ := gfO_s hcO22
      have hci22 := List.mem_singleton.mp hci22
      obtain ⟨kc22, fc22⟩ := oc22
      dsimp only at hci22 hcg22
      subst hci22
      refine gp_callI (va_runV (As := []) (rest := []) ⟨hx, hb, hml, hown, hts⟩ (c_X6_isFull (l := l) (D := D) (b := b) (cI := cI) (cL := cL) hc22) (cwV 0 hts gX11_letter_X6_isFull rfl rfl rfl (by decide +kernel) ⟨Nat.le_of_ble_eq_true rfl, Nat.le_of_ble_eq_true rfl⟩) (gp_preV hKn hG (cp_obj hcg22) rfl) rfl rfl hl.1 rfl (lv_room (Nat.le_of_ble_eq_true rfl)) dX11_letter_22 ⟨Nat.le_of_ble_eq_true rfl, Nat.le_of_ble_eq_true rfl⟩) hS (fun H locs hG hS => ?_)
      refine lv_if_eq (tgt := 35) hx hb dX11_letter_25 (by decide) (fun c25 => ?_) (fun c25 => ?_)
      · have hf := gb_t c25 hf
        refine lv_aload_n hx hb dX11_letter_35 rfl (lv_at hl 0 rfl) ?_
        obtain ⟨t36, ht36, hf⟩ := gb_b hf
        refine cp_get (v := va_rf t36) hx hb hts gclX11 hown hK hG 0 (gfR_s ht36) (by decide) (hts _ (List.mem_of_getElem? (i := 1) rfl)) (fun _ h9 => h9) dX11_letter_36 ?_
        refine lv_iload_n hx hb dX11_letter_39 rfl (lv_at hl 1 rfl) ?_
        obtain ⟨q40, hq40, hf⟩ := gb_b hf
        refine W.eq (g2 := F0 m 40 ls [.int v1, .ref q40]) (congrArg (fun z => F0 m 40 ls [.int v1, va_rf z]) hq40) ?_
        obtain ⟨o40, hc40, hf⟩ := gb_b hf
        obtain ⟨oc40, hcO40, hc40⟩ := gb_b hc40
        obtain ⟨hcg40, hci40⟩ := gfO_s hcO40
        have hci40 := List.mem_singleton.mp hci40
        obtain ⟨kc40, fc40⟩ := oc40
        dsimp only at hci40 hcg40
        subst hci40
        refine gp_callI (va_runV (As := [.int v1]) (rest := []) ⟨hx, hb, hml, hown, hts⟩ (c_X6_add (l := l) (D := D) (b := b) (cI := cI) (cL := cL) hc40) (cwV 1 hts gX11_letter_X6_add rfl rfl rfl (by decide +kernel) ⟨Nat.le_of_ble_eq_true rfl, Nat.le_of_ble_eq_true rfl⟩) (gp_preV hKn hG (cp_obj hcg40) rfl) rfl rfl hl.1 rfl (lv_room (Nat.le_of_ble_eq_true rfl)) dX11_letter_40 ⟨Nat.le_of_ble_eq_true rfl, Nat.le_of_ble_eq_true rfl⟩) hS (fun H locs hG hS => ?_)
        have hf := Option.some.inj hf
        subst hf
        exact gp_retI hx hb hr hlocks hG hS (Nat.le_of_ble_eq_true rfl) (Nat.le_of_ble_eq_true rfl) dX11_letter_43
      · have hf := gb_f c25 hf
        refine lv_aload_n hx hb dX11_letter_28 rfl (lv_at hl 0 rfl) ?_
        refine lv_bipush (v := (-6 : Int32)) hx hb dX11_letter_29 (by decide) ?_
        obtain ⟨o31, hc31, hf⟩ := gb_b hf
        obtain ⟨oc31, hcO31, hc31⟩ := gb_b hc31
        obtain ⟨hcg31, hci31⟩ := gfO_s hcO31
        have hci31 := List.mem_singleton.mp hci31
        obtain ⟨kc31, fc31⟩ := oc31
        dsimp only at hci31 hcg31
        subst hci31
        refine gp_callI (va_runV (As := [.int (-6 : Int32)]) (rest := []) ⟨hx, hb, hml, hown, hts⟩ (c_X11_refuse (l := l) (D := D) (b := b) (cI := cI) (cL := cL) hc31) (cwV 1 hts gX11_letter_X11_refuse rfl rfl rfl (by decide +kernel) ⟨Nat.le_of_ble_eq_true rfl, Nat.le_of_ble_eq_true rfl⟩) (gp_preV hKn hG (cp_obj hcg31) rfl) rfl rfl hl.1 rfl (lv_room (Nat.le_of_ble_eq_true rfl)) dX11_letter_31 ⟨Nat.le_of_ble_eq_true rfl, Nat.le_of_ble_eq_true rfl⟩) hS (fun H locs hG hS => ?_)
        have hf := Option.some.inj hf
        subst hf
        exact gp_retI hx hb hr hlocks hG hS (Nat.le_of_ble_eq_true rfl) (Nat.le_of_ble_eq_true rfl) dX11_letter_34
  · have hf := gb_f c1 hf
    refine lv_aload_n hx hb dX11_letter_4 rfl (lv_at hl 0 rfl) ?_
    refine lv_bipush (v := (-4 : Int32)) hx hb dX11_letter_5 (by decide) ?_
    obtain ⟨o7, hc7, hf⟩ := gb_b hf
    obtain ⟨oc7, hcO7, hc7⟩ := gb_b hc7
    obtain ⟨hcg7, hci7⟩ := gfO_s hcO7
    have hci7 := List.mem_singleton.mp hci7
    obtain ⟨kc7, fc7⟩ := oc7
    dsimp only at hci7 hcg7
    subst hci7
    refine gp_callI (va_runV (As := [.int (-4 : Int32)]) (rest := []) ⟨hx, hb, hml, hown, hts⟩ (c_X11_refuse (l := l) (D := D) (b := b) (cI := cI) (cL := cL) hc7) (cwV 1 hts gX11_letter_X11_refuse rfl rfl rfl (by decide +kernel) ⟨Nat.le_of_ble_eq_true rfl, Nat.le_of_ble_eq_true rfl⟩) (gp_preV hKn hG (cp_obj hcg7) rfl) rfl rfl hl.1 rfl (lv_room (Nat.le_of_ble_eq_true rfl)) dX11_letter_7 ⟨Nat.le_of_ble_eq_true rfl, Nat.le_of_ble_eq_true rfl⟩) hS (fun H locs hG hS => ?_)
    have hf := Option.some.inj hf
    subst hf
    exact gp_retI hx hb hr hlocks hG hS (Nat.le_of_ble_eq_true rfl) (Nat.le_of_ble_eq_true rfl) dX11_letter_10
end
