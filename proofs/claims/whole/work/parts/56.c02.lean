section
variable {p : Program} {l : Launch} {e : Env} {s : State} {m : MethodId} {args : Array Value} {below : List Frame} {meth : Method} {c : Code} {D : va_G} {b : GB} {M : Nat} {cI cL : ClassId} {h0 : Nat} {gv : Nat → GV} {gh : Nat → va_E} {Q : State → Prop}
-- X1_kind
abbrev rm_X1_kind : Room := { frames := 0, cells := 0, slots := 0, locals := 0 }
set_option maxHeartbeats 4000000 in
set_option maxRecDepth 100000 in
theorem c_X1_kind {R : Int32} (hf : f_X1_kind h0 = some R) : Met l yX1_kind wsX1_kind rm_X1_kind (va_Pc [.ref h0] (gPre D b M (gh) (gTy cI cL))) (gQ D b (some (.int R)) M (gh)) 0 0 (gA b) := by
  refine gp_met (cc := cX1_kind) (maxL := 1) (ret := (some .int)) (by decide) rfl (Nat.le_of_ble_eq_true rfl) ?_
  intro p e s m below meth c X ls hG hl
  obtain ⟨H, hH0⟩ : ∃ H : Heap, H = s.heap := ⟨_, rfl⟩
  rw [← hH0] at hG ⊢
  have hS : va_S (gA b) s.heap H [] := by rw [hH0]; exact va_S.rf
  obtain ⟨locs, hlo⟩ : ∃ z : List Loc, z = [] := ⟨_, rfl⟩
  rw [← hlo] at hS ⊢
  unfold f_X1_kind at hf
  obtain ⟨hx, hb, hr, hml, hown, hts, hlocks, hKn, hBs⟩ := id X
  have hK := hKn.1
  have hl : lv_has ls 1 [(0, .ref h0)] := hl
  refine lv_iconst (v := 3) hx hb dX1_kind_0 (by decide) ?_
  have hf := Option.some.inj hf
  subst hf
  exact gp_retI hx hb hr hlocks hG hS (Nat.le_of_ble_eq_true rfl) (Nat.le_of_ble_eq_true rfl) dX1_kind_1
-- X2_only
abbrev rm_X2_only : Room := { frames := 0, cells := 0, slots := 0, locals := 0 }
set_option maxHeartbeats 4000000 in
set_option maxRecDepth 100000 in
theorem c_X2_only {v0 : Int32} {R : Int64} (hf : f_X2_only v0 = some R) : Met l yX2_only wsX2_only rm_X2_only (va_Pc [.int v0] (gPre D b M (gh) (gTy cI cL))) (gQ D b (some (.long R)) M (gh)) 0 0 (gA b) := by
  refine gp_met (cc := cX2_only) (maxL := 1) (ret := (some .long)) (by decide) rfl (Nat.le_of_ble_eq_true rfl) ?_
  intro p e s m below meth c X ls hG hl
  obtain ⟨H, hH0⟩ : ∃ H : Heap, H = s.heap := ⟨_, rfl⟩
  rw [← hH0] at hG ⊢
  have hS : va_S (gA b) s.heap H [] := by rw [hH0]; exact va_S.rf
  obtain ⟨locs, hlo⟩ : ∃ z : List Loc, z = [] := ⟨_, rfl⟩
  rw [← hlo] at hS ⊢
  unfold f_X2_only at hf
  obtain ⟨hx, hb, hr, hml, hown, hts, hlocks, hKn, hBs⟩ := id X
  have hK := hKn.1
  have hl : lv_has ls 1 [(0, .int v0)] := hl
  refine lv_iload_n hx hb dX2_only_0 rfl (lv_at hl 0 rfl) ?_
  have hJ1 : ∀ Z : Int64, Z = (if v0 < 0 then (0 : Int64) else if 36 ≤ v0 then (0 : Int64) else (1 : Int64) <<< (v0.toInt64 &&& 63)) → W p l e rm_X2_only s m [.int v0].toArray below meth c H locs 0 0 (MQ below (gQ D b (some (.long R)) M (gh)) [.int v0].toArray s 0 0 (gA b)) (F0 m 17 ls (.long Z :: [])) := by
    intro Z hZ
    subst hZ
    have hf := Option.some.inj hf
    subst hf
    exact gp_retL hx hb hr hlocks hG hS (Nat.le_of_ble_eq_true rfl) (Nat.le_of_ble_eq_true rfl) dX2_only_17
  refine lv_if_lt (tgt := 16) hx hb dX2_only_1 (by decide) (fun c1 => ?_) (fun c1 => ?_)
  · rw [if_pos c1] at hJ1
    refine lv_lconst (v := (0 : Int64)) hx hb dX2_only_16 (by decide) ?_
    exact hJ1 _ rfl
  · rw [if_neg c1] at hJ1
    refine lv_iload_n hx hb dX2_only_4 rfl (lv_at hl 0 rfl) ?_
    refine lv_bipush (v := 36) hx hb dX2_only_5 (by decide) ?_
    refine lv_icmp_ge (tgt := 16) hx hb dX2_only_7 (by decide) (fun c7 => ?_) (fun c7 => ?_)
    · rw [if_pos c7] at hJ1
      refine lv_lconst (v := (0 : Int64)) hx hb dX2_only_16 (by decide) ?_
      exact hJ1 _ rfl
    · rw [if_neg c7] at hJ1
      refine lv_lconst (v := (1 : Int64)) hx hb dX2_only_10 (by decide) ?_
      refine lv_iload_n hx hb dX2_only_11 rfl (lv_at hl 0 rfl) ?_
      refine lv_lshl hx hb dX2_only_12 rfl ?_
      refine lv_goto (tgt := 17) hx hb dX2_only_13 (by decide) ?_
      exact hJ1 _ rfl
-- X2_has
abbrev rm_X2_has : Room := { frames := 1, cells := 0, slots := 0, locals := 20 }
set_option maxHeartbeats 4000000 in
set_option maxRecDepth 100000 in
theorem c_X2_has {v0 : Int64} {v2 : Int32} {R : Int32} (hf : f_X2_has v0 v2 = some R) : Met l yX2_has wsX2_has rm_X2_has (va_Pc [.long v0, .int v2] (gPre D b M (gh) (gTy cI cL))) (gQ D b (some (.int R)) M (gh)) 0 0 (gA b) := by
  refine gp_met (cc := cX2_has) (maxL := 3) (ret := (some .boolean)) (by decide) rfl (Nat.le_of_ble_eq_true rfl) ?_
  intro p e s m below meth c X ls hG hl
  obtain ⟨H, hH0⟩ : ∃ H : Heap, H = s.heap := ⟨_, rfl⟩
  rw [← hH0] at hG ⊢
  have hS : va_S (gA b) s.heap H [] := by rw [hH0]; exact va_S.rf
  obtain ⟨locs, hlo⟩ : ∃ z : List Loc, z = [] := ⟨_, rfl⟩
  rw [← hlo] at hS ⊢
  unfold f_X2_has at hf
  obtain ⟨hx, hb, hr, hml, hown, hts, hlocks, hKn, hBs⟩ := id X
  have hK := hKn.1
  have hl : lv_has ls 3 [(0, .long v0), (2, .int v2)] := hl
  refine lv_lload_n hx hb dX2_has_0 rfl (lv_at hl 0 rfl) ?_
  refine lv_iload_n hx hb dX2_has_1 rfl (lv_at hl 1 rfl) ?_
  obtain ⟨o2, hc2, hf⟩ := gb_b hf
  refine gp_callL (va_runS (As := [.int v2]) (rest := [.long v0]) ⟨hx, hb, hml, hown, hts⟩ (c_X2_only (l := l) (D := D) (b := b) (cI := cI) (cL := cL) hc2) (va_cwS 1 hts gX2_has_X2_only rfl rfl rfl (by decide +kernel) ⟨Nat.le_of_ble_eq_true rfl, Nat.le_of_ble_eq_true rfl⟩) (gp_preS hKn hG) rfl rfl hl.1 rfl (lv_room (Nat.le_of_ble_eq_true rfl)) dX2_has_2 ⟨Nat.le_of_ble_eq_true rfl, Nat.le_of_ble_eq_true rfl⟩) hS (fun H locs hG hS => ?_)
  refine lv_land hx hb dX2_has_5 ?_
  refine lv_lconst (v := (0 : Int64)) hx hb dX2_has_6 (by decide) ?_
  refine W.lcmp hx hb dX2_has_7 ?_
  have hJ8 : ∀ Z : Int32, Z = (if (lg_cmp (v0 &&& o2) (0 : Int64)) = 0 then 0 else 1) → W p l e rm_X2_has s m [.long v0, .int v2].toArray below meth c H locs 0 0 (MQ below (gQ D b (some (.int R)) M (gh)) [.long v0, .int v2].toArray s 0 0 (gA b)) (F0 m 16 ls (.int Z :: [])) := by
    intro Z hZ
    subst hZ
    obtain ⟨z16, hf⟩ := gb_zb hf
    have hf := Option.some.inj hf
    subst hf
    exact gp_retZ hx hb hr z16 hlocks hG hS (Nat.le_of_ble_eq_true rfl) (Nat.le_of_ble_eq_true rfl) dX2_has_16
  refine lv_if_eq (tgt := 15) hx hb dX2_has_8 (by decide) (fun c8 => ?_) (fun c8 => ?_)
  · rw [if_pos c8] at hJ8
    refine lv_iconst (v := 0) hx hb dX2_has_15 (by decide) ?_
    exact hJ8 _ rfl
  · rw [if_neg c8] at hJ8
    refine lv_iconst (v := 1) hx hb dX2_has_11 (by decide) ?_
    refine lv_goto (tgt := 16) hx hb dX2_has_12 (by decide) ?_
    exact hJ8 _ rfl
-- X2_byNumber
abbrev rm_X2_byNumber : Room := { frames := 2, cells := 0, slots := 0, locals := 42 }
set_option maxHeartbeats 4000000 in
set_option maxRecDepth 100000 in
theorem w_X2_byNumber_5 {α : Type} {R : α} {K25 : Int32 → Option α} {K37 : Unit → Option α} {v0 : Int64} (X : gC p s m args meth c cX2_byNumber 5 (some .int) wsX2_byNumber RX2 D b (gTy cI cL)) : ∀ (n : Nat) (v3 : Int32) (v4 : Int32), L_X2_byNumber_5 K25 K37 v0 n v3 v4 = some R → (∀ (x : Int32), K25 x = some R → ∀ (H : Heap) (locs : List Loc) (ls : Array Slot), GP D b M (gh) H → va_S (gA b) s.heap H locs → lv_has ls 5 [(4, .int x)] → W p l e rm_X2_byNumber s m args below meth c H locs 0 0 Q (F0 m 25 ls [])) → (∀ (x : Unit), K37 x = some R → ∀ (H : Heap) (locs : List Loc) (ls : Array Slot), GP D b M (gh) H → va_S (gA b) s.heap H locs → lv_has ls 5 [] → W p l e rm_X2_byNumber s m args below meth c H locs 0 0 Q (F0 m 37 ls [])) → ∀ (H : Heap) (locs : List Loc) (ls : Array Slot), GP D b M (gh) H → va_S (gA b) s.heap H locs → lv_has ls 5 [(0, .long v0), (3, .int v3), (4, .int v4)] → W p l e rm_X2_byNumber s m args below meth c H locs 0 0 Q (F0 m 5 ls []) := by
  obtain ⟨hx, hb, hr, hml, hown, hts, hlocks, hKn, hBs⟩ := id X
  have hK := hKn.1
  intro n
  induction n with
  | zero =>
    intro v3 v4 hf
    cases hf
  | succ n ih =>
    intro v3 v4 hf hk25 hk37 H locs ls hG hS hl
    rw [L_X2_byNumber_5.eq_2] at hf
    refine lv_iload hx hb dX2_byNumber_5 (lv_at hl 2 rfl) ?_
    refine lv_bipush (v := 36) hx hb dX2_byNumber_7 (by decide) ?_
    refine lv_icmp_ge (tgt := 37) hx hb dX2_byNumber_9 (by decide) (fun c9 => ?_) (fun c9 => ?_)
    · have hf := gb_t c9 hf
      exact (hk37 _ hf _ _ _ hG hS (lv_sub hl [] rfl))
    · have hf := gb_f c9 hf
      refine lv_lload_n hx hb dX2_byNumber_12 rfl (lv_at hl 0 rfl) ?_
      refine lv_iload hx hb dX2_byNumber_13 (lv_at hl 2 rfl) ?_
      obtain ⟨o15, hc15, hf⟩ := gb_b hf
      refine gp_callI (va_runS (As := [.long v0, .int v4]) (rest := []) ⟨hx, hb, hml, hown, hts⟩ (c_X2_has (l := l) (D := D) (b := b) (cI := cI) (cL := cL) hc15) (va_cwS 2 hts gX2_byNumber_X2_has rfl rfl rfl (by decide +kernel) ⟨Nat.le_of_ble_eq_true rfl, Nat.le_of_ble_eq_true rfl⟩) (gp_preS hKn hG) rfl rfl hl.1 rfl (lv_room (Nat.le_of_ble_eq_true rfl)) dX2_byNumber_15 ⟨Nat.le_of_ble_eq_true rfl, Nat.le_of_ble_eq_true rfl⟩) hS (fun H locs hG hS => ?_)
      refine lv_if_eq (tgt := 31) hx hb dX2_byNumber_18 (by decide) (fun c18 => ?_) (fun c18 => ?_)
      · have hf := gb_t c18 hf
        refine lv_iinc (v := v4 + 1) (lv' := [(4, .int (v4 + 1)), (0, .long v0), (3, .int v3)]) hx hb dX2_byNumber_31 hl (k := 2) rfl rfl (by decide) rfl (fun ls hl => ?_)
        refine lv_goto (tgt := 5) hx hb dX2_byNumber_34 (by decide) ?_
        exact ih _ _ hf hk25 hk37 _ _ _ hG hS (lv_sub hl [1, 2, 0] rfl)
      · have hf := gb_f c18 hf
        refine lv_iload_n hx hb dX2_byNumber_21 rfl (lv_at hl 1 rfl) ?_
        refine lv_if_ne (tgt := 28) hx hb dX2_byNumber_22 (by decide) (fun c22 => ?_) (fun c22 => ?_)
        · have hf := gb_f c22 hf
          refine lv_iinc (v := v3 + (-1 : Int32)) (lv' := [(3, .int (v3 + (-1 : Int32))), (0, .long v0), (4, .int v4)]) hx hb dX2_byNumber_28 hl (k := 1) rfl rfl (by decide) rfl (fun ls hl => ?_)
          refine lv_iinc (v := v4 + 1) (lv' := [(4, .int (v4 + 1)), (3, .int (v3 + (-1 : Int32))), (0, .long v0)]) hx hb dX2_byNumber_31 hl (k := 2) rfl rfl (by decide) rfl (fun ls hl => ?_)
          refine lv_goto (tgt := 5) hx hb dX2_byNumber_34 (by decide) ?_
          exact ih _ _ hf hk25 hk37 _ _ _ hG hS (lv_sub hl [2, 1, 0] rfl)
        · have hf := gb_t c22 hf
          exact (hk25 _ hf _ _ _ hG hS (lv_sub hl [2] rfl))
set_option maxHeartbeats 4000000 in
set_option maxRecDepth 100000 in
theorem c_X2_byNumber {v0 : Int64} {v2 : Int32} {R : Int32} (hf : f_X2_byNumber v0 v2 = some R) : Met l yX2_byNumber wsX2_byNumber rm_X2_byNumber (va_Pc [.long v0, .int v2] (gPre D b M (gh) (gTy cI cL))) (gQ D b (some (.int R)) M (gh)) 0 0 (gA b) := by
  refine gp_met (cc := cX2_byNumber) (maxL := 5) (ret := (some .int)) (by decide) rfl (Nat.le_of_ble_eq_true rfl) ?_
  intro p e s m below meth c X ls hG hl
  obtain ⟨H, hH0⟩ : ∃ H : Heap, H = s.heap := ⟨_, rfl⟩
  rw [← hH0] at hG ⊢
  have hS : va_S (gA b) s.heap H [] := by rw [hH0]; exact va_S.rf
  obtain ⟨locs, hlo⟩ : ∃ z : List Loc, z = [] := ⟨_, rfl⟩
  rw [← hlo] at hS ⊢
  unfold f_X2_byNumber at hf
  obtain ⟨hx, hb, hr, hml, hown, hts, hlocks, hKn, hBs⟩ := id X
  have hK := hKn.1
  have hl : lv_has ls 5 [(0, .long v0), (2, .int v2)] := hl
  refine lv_iload_n hx hb dX2_byNumber_0 rfl (lv_at hl 1 rfl) ?_
  refine lv_istore_n (lv' := [(3, .int v2), (0, .long v0), (2, .int v2)]) hx hb dX2_byNumber_1 rfl hl (by decide) rfl (fun ls hl => ?_)
  refine lv_iconst (v := 0) hx hb dX2_byNumber_2 (by decide) ?_
  refine lv_istore (lv' := [(4, .int 0), (3, .int v2), (0, .long v0), (2, .int v2)]) hx hb dX2_byNumber_3 hl (by decide) rfl (fun ls hl => ?_)
  refine w_X2_byNumber_5 X _ _ _ hf (fun x5_25 hf H locs ls hG hS hl => ?_) (fun x5_37 hf H locs ls hG hS hl => ?_) _ _ _ hG hS (lv_sub hl [2, 1, 0] rfl)
  · refine lv_iload hx hb dX2_byNumber_25 (lv_at hl 0 rfl) ?_
    have hf := Option.some.inj hf
    subst hf
    exact gp_retI hx hb hr hlocks hG hS (Nat.le_of_ble_eq_true rfl) (Nat.le_of_ble_eq_true rfl) dX2_byNumber_27
  · refine lv_bipush (v := (-9 : Int32)) hx hb dX2_byNumber_37 (by decide) ?_
    have hf := Option.some.inj hf
    subst hf
    exact gp_retI hx hb hr hlocks hG hS (Nat.le_of_ble_eq_true rfl) (Nat.le_of_ble_eq_true rfl) dX2_byNumber_39
-- X2_spread
abbrev rm_X2_spread : Room := { frames := 0, cells := 0, slots := 0, locals := 0 }
set_option maxHeartbeats 4000000 in
set_option maxRecDepth 100000 in
theorem c_X2_spread {v0 : Int64} {v2 : Int64} {R : Int64} (hf : f_X2_spread v0 v2 = some R) : Met l yX2_spread wsX2_spread rm_X2_spread (va_Pc [.long v0, .long v2] (gPre D b M (gh) (gTy cI cL))) (gQ D b (some (.long R)) M (gh)) 0 0 (gA b) := by
  refine gp_met (cc := cX2_spread) (maxL := 8) (ret := (some .long)) (by decide) rfl (Nat.le_of_ble_eq_true rfl) ?_
  intro p e s m below meth c X ls hG hl
  obtain ⟨H, hH0⟩ : ∃ H : Heap, H = s.heap := ⟨_, rfl⟩
  rw [← hH0] at hG ⊢
  have hS : va_S (gA b) s.heap H [] := by rw [hH0]; exact va_S.rf
  obtain ⟨locs, hlo⟩ : ∃ z : List Loc, z = [] := ⟨_, rfl⟩
  rw [← hlo] at hS ⊢
  unfold f_X2_spread at hf
  obtain ⟨hx, hb, hr, hml, hown, hts, hlocks, hKn, hBs⟩ := id X
  have hK := hKn.1
  have hl : lv_has ls 8 [(0, .long v0), (2, .long v2)] := hl
  refine lv_lload_n hx hb dX2_spread_0 rfl (lv_at hl 0 rfl) ?_
  refine lv_lload_n hx hb dX2_spread_1 rfl (lv_at hl 1 rfl) ?_
  refine lv_land hx hb dX2_spread_2 ?_
  refine lv_lstore (lv' := [(4, .long (v0 &&& v2)), (0, .long v0), (2, .long v2)]) hx hb dX2_spread_3 hl (by decide) rfl (fun ls hl => ?_)
  refine lv_lload hx hb dX2_spread_5 (lv_at hl 0 rfl) ?_
  refine lv_ldc2 (v := (-34905131041 : Int64)) hx hb hown (hts _ (List.mem_of_getElem? (i := 1) rfl)) dX2_spread_7 ?_
  refine lv_land hx hb dX2_spread_10 ?_
  refine lv_iconst (v := 1) hx hb dX2_spread_11 (by decide) ?_
  refine lv_lshl hx hb dX2_spread_12 rfl ?_
  refine lv_lload hx hb dX2_spread_13 (lv_at hl 0 rfl) ?_
  refine lv_ldc2 (v := (-1090785346 : Int64)) hx hb hown (hts _ (List.mem_of_getElem? (i := 2) rfl)) dX2_spread_15 ?_
  refine lv_land hx hb dX2_spread_18 ?_
  refine lv_iconst (v := 1) hx hb dX2_spread_19 (by decide) ?_
  refine lv_lushr hx hb dX2_spread_20 rfl ?_
  refine lv_lor hx hb dX2_spread_21 ?_
  refine lv_lstore (lv' := [(6, .long ((((v0 &&& v2) &&& (-34905131041 : Int64)) <<< ((1 : Int32).toInt64 &&& 63)) ||| ((((v0 &&& v2) &&& (-1090785346 : Int64)).toUInt64 >>> ((1 : Int32).toInt64.toUInt64 &&& Int64.toUInt64 63)).toInt64))), (4, .long (v0 &&& v2)), (0, .long v0), (2, .long v2)]) hx hb dX2_spread_22 hl (by decide) rfl (fun ls hl => ?_)
  refine lv_lload_n hx hb dX2_spread_24 rfl (lv_at hl 2 rfl) ?_
  refine lv_lload hx hb dX2_spread_25 (lv_at hl 1 rfl) ?_
  refine lv_bipush (v := 6) hx hb dX2_spread_27 (by decide) ?_
  refine lv_lshl hx hb dX2_spread_29 rfl ?_
  refine lv_lload hx hb dX2_spread_30 (lv_at hl 1 rfl) ?_
  refine lv_bipush (v := 6) hx hb dX2_spread_32 (by decide) ?_
  refine lv_lushr hx hb dX2_spread_34 rfl ?_
  refine lv_lor hx hb dX2_spread_35 ?_
  refine lv_lload hx hb dX2_spread_36 (lv_at hl 0 rfl) ?_
  refine lv_lor hx hb dX2_spread_38 ?_
  refine lv_lload_n hx hb dX2_spread_39 rfl (lv_at hl 3 rfl) ?_
  refine lv_land hx hb dX2_spread_40 ?_
  refine lv_lor hx hb dX2_spread_41 ?_
  have hf := Option.some.inj hf
  subst hf
  exact gp_retL hx hb hr hlocks hG hS (Nat.le_of_ble_eq_true rfl) (Nat.le_of_ble_eq_true rfl) dX2_spread_42
-- X2_fewestSteps
abbrev rm_X2_fewestSteps : Room := { frames := 2, cells := 0, slots := 0, locals := 42 }
set_option maxHeartbeats 4000000 in
set_option maxRecDepth 100000 in
theorem w_X2_fewestSteps_11 {α : Type} {R : α} {K27 : Int32 → Option α} {K44 : Unit → Option α} {v1 : Int32} {v2 : Int64} (X : gC p s m args meth c cX2_fewestSteps 7 (some .int) wsX2_fewestSteps RX2 D b (gTy cI cL)) : ∀ (n : Nat) (v4 : Int64) (v6 : Int32), L_X2_fewestSteps_11 K27 K44 v1 v2 n v4 v6 = some R → (∀ (x : Int32), K27 x = some R → ∀ (H : Heap) (locs : List Loc) (ls : Array Slot), GP D b M (gh) H → va_S (gA b) s.heap H locs → lv_has ls 7 [(6, .int x)] → W p l e rm_X2_fewestSteps s m args below meth c H locs 0 0 Q (F0 m 27 ls [])) → (∀ (x : Unit), K44 x = some R → ∀ (H : Heap) (locs : List Loc) (ls : Array Slot), GP D b M (gh) H → va_S (gA b) s.heap H locs → lv_has ls 7 [] → W p l e rm_X2_fewestSteps s m args below meth c H locs 0 0 Q (F0 m 44 ls [])) → ∀ (H : Heap) (locs : List Loc) (ls : Array Slot), GP D b M (gh) H → va_S (gA b) s.heap H locs → lv_has ls 7 [(1, .int v1), (2, .long v2), (4, .long v4), (6, .int v6)] → W p l e rm_X2_fewestSteps s m args below meth c H locs 0 0 Q (F0 m 11 ls []) := by
  obtain ⟨hx, hb, hr, hml, hown, hts, hlocks, hKn, hBs⟩ := id X
  have hK := hKn.1
  intro n
  induction n with
  | zero =>
    intro v4 v6 hf
    cases hf
  | succ n ih =>
    intro v4 v6 hf hk27 hk44 H locs ls hG hS hl
    rw [L_X2_fewestSteps_11.eq_2] at hf
    refine lv_iload hx hb dX2_fewestSteps_11 (lv_at hl 3 rfl) ?_
    refine lv_bipush (v := 36) hx hb dX2_fewestSteps_13 (by decide) ?_
    refine lv_icmp_ge (tgt := 44) hx hb dX2_fewestSteps_15 (by decide) (fun c15 => ?_) (fun c15 => ?_)
    · have hf := gb_t c15 hf
      exact (hk44 _ hf _ _ _ hG hS (lv_sub hl [] rfl))
    · have hf := gb_f c15 hf
      refine lv_lload hx hb dX2_fewestSteps_18 (lv_at hl 2 rfl) ?_
      refine lv_iload_n hx hb dX2_fewestSteps_20 rfl (lv_at hl 0 rfl) ?_
      obtain ⟨o21, hc21, hf⟩ := gb_b hf
      refine gp_callI (va_runS (As := [.long v4, .int v1]) (rest := []) ⟨hx, hb, hml, hown, hts⟩ (c_X2_has (l := l) (D := D) (b := b) (cI := cI) (cL := cL) hc21) (va_cwS 2 hts gX2_fewestSteps_X2_has rfl rfl rfl (by decide +kernel) ⟨Nat.le_of_ble_eq_true rfl, Nat.le_of_ble_eq_true rfl⟩) (gp_preS hKn hG) rfl rfl hl.1 rfl (lv_room (Nat.le_of_ble_eq_true rfl)) dX2_fewestSteps_21 ⟨Nat.le_of_ble_eq_true rfl, Nat.le_of_ble_eq_true rfl⟩) hS (fun H locs hG hS => ?_)
      refine lv_if_eq (tgt := 30) hx hb dX2_fewestSteps_24 (by decide) (fun c24 => ?_) (fun c24 => ?_)
      · have hf := gb_t c24 hf
        refine lv_lload hx hb dX2_fewestSteps_30 (lv_at hl 2 rfl) ?_
        refine lv_lload_n hx hb dX2_fewestSteps_32 rfl (lv_at hl 1 rfl) ?_
        obtain ⟨o33, hc33, hf⟩ := gb_b hf
        refine gp_callL (va_runS (As := [.long v4, .long v2]) (rest := []) ⟨hx, hb, hml, hown, hts⟩ (c_X2_spread (l := l) (D := D) (b := b) (cI := cI) (cL := cL) hc33) (va_cwS 2 hts gX2_fewestSteps_X2_spread rfl rfl rfl (by decide +kernel) ⟨Nat.le_of_ble_eq_true rfl, Nat.le_of_ble_eq_true rfl⟩) (gp_preS hKn hG) rfl rfl hl.1 rfl (lv_room (Nat.le_of_ble_eq_true rfl)) dX2_fewestSteps_33 ⟨Nat.le_of_ble_eq_true rfl, Nat.le_of_ble_eq_true rfl⟩) hS (fun H locs hG hS => ?_)
        refine lv_lstore (lv' := [(4, .long o33), (1, .int v1), (2, .long v2), (6, .int v6)]) hx hb dX2_fewestSteps_36 hl (by decide) rfl (fun ls hl => ?_)
        refine lv_iinc (v := v6 + 1) (lv' := [(6, .int (v6 + 1)), (4, .long o33), (1, .int v1), (2, .long v2)]) hx hb dX2_fewestSteps_38 hl (k := 3) rfl rfl (by decide) rfl (fun ls hl => ?_)
        refine lv_goto (tgt := 11) hx hb dX2_fewestSteps_41 (by decide) ?_
        exact ih _ _ hf hk27 hk44 _ _ _ hG hS (lv_sub hl [2, 3, 1, 0] rfl)
      · have hf := gb_f c24 hf
        exact (hk27 _ hf _ _ _ hG hS (lv_sub hl [3] rfl))
set_option maxHeartbeats 4000000 in
set_option maxRecDepth 100000 in
theorem c_X2_fewestSteps {v0 : Int32} {v1 : Int32} {v2 : Int64} {R : Int32} (hf : f_X2_fewestSteps v0 v1 v2 = some R) : Met l yX2_fewestSteps wsX2_fewestSteps rm_X2_fewestSteps (va_Pc [.int v0, .int v1, .long v2] (gPre D b M (gh) (gTy cI cL))) (gQ D b (some (.int R)) M (gh)) 0 0 (gA b) := by
  refine gp_met (cc := cX2_fewestSteps) (maxL := 7) (ret := (some .int)) (by decide) rfl (Nat.le_of_ble_eq_true rfl) ?_
  intro p e s m below meth c X ls hG hl
  obtain ⟨H, hH0⟩ : ∃ H : Heap, H = s.heap := ⟨_, rfl⟩
  rw [← hH0] at hG ⊢
  have hS : va_S (gA b) s.heap H [] := by rw [hH0]; exact va_S.rf
  obtain ⟨locs, hlo⟩ : ∃ z : List Loc, z = [] := ⟨_, rfl⟩
  rw [← hlo] at hS ⊢
  unfold f_X2_fewestSteps at hf
  obtain ⟨hx, hb, hr, hml, hown, hts, hlocks, hKn, hBs⟩ := id X
  have hK := hKn.1
  have hl : lv_has ls 7 [(0, .int v0), (1, .int v1), (2, .long v2)] := hl
  refine lv_iload_n hx hb dX2_fewestSteps_0 rfl (lv_at hl 0 rfl) ?_
  obtain ⟨o1, hc1, hf⟩ := gb_b hf
  refine gp_callL (va_runS (As := [.int v0]) (rest := []) ⟨hx, hb, hml, hown, hts⟩ (c_X2_only (l := l) (D := D) (b := b) (cI := cI) (cL := cL) hc1) (va_cwS 1 hts gX2_fewestSteps_X2_only rfl rfl rfl (by decide +kernel) ⟨Nat.le_of_ble_eq_true rfl, Nat.le_of_ble_eq_true rfl⟩) (gp_preS hKn hG) rfl rfl hl.1 rfl (lv_room (Nat.le_of_ble_eq_true rfl)) dX2_fewestSteps_1 ⟨Nat.le_of_ble_eq_true rfl, Nat.le_of_ble_eq_true rfl⟩) hS (fun H locs hG hS => ?_)
  refine lv_lload_n hx hb dX2_fewestSteps_4 rfl (lv_at hl 2 rfl) ?_
  refine lv_land hx hb dX2_fewestSteps_5 ?_
  refine lv_lstore (lv' := [(4, .long (o1 &&& v2)), (0, .int v0), (1, .int v1), (2, .long v2)]) hx hb dX2_fewestSteps_6 hl (by decide) rfl (fun ls hl => ?_)
  refine lv_iconst (v := 0) hx hb dX2_fewestSteps_8 (by decide) ?_
  refine lv_istore (lv' := [(6, .int 0), (4, .long (o1 &&& v2)), (0, .int v0), (1, .int v1), (2, .long v2)]) hx hb dX2_fewestSteps_9 hl (by decide) rfl (fun ls hl => ?_)
  refine w_X2_fewestSteps_11 X _ _ _ hf (fun x11_27 hf H locs ls hG hS hl => ?_) (fun x11_44 hf H locs ls hG hS hl => ?_) _ _ _ hG hS (lv_sub hl [3, 4, 1, 0] rfl)
  · refine lv_iload hx hb dX2_fewestSteps_27 (lv_at hl 0 rfl) ?_
    have hf := Option.some.inj hf
    subst hf
    exact gp_retI hx hb hr hlocks hG hS (Nat.le_of_ble_eq_true rfl) (Nat.le_of_ble_eq_true rfl) dX2_fewestSteps_29
  · refine lv_bipush (v := (-9 : Int32)) hx hb dX2_fewestSteps_44 (by decide) ?_
    have hf := Option.some.inj hf
    subst hf
    exact gp_retI hx hb hr hlocks hG hS (Nat.le_of_ble_eq_true rfl) (Nat.le_of_ble_eq_true rfl) dX2_fewestSteps_46
end
