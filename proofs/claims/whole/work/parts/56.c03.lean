section
variable {p : Program} {l : Launch} {e : Env} {s : State} {m : MethodId} {args : Array Value} {below : List Frame} {meth : Method} {c : Code} {D : va_G} {b : GB} {M : Nat} {cI cL : ClassId} {h0 : Nat} {gv : Nat → GV} {gh : Nat → va_E} {Q : State → Prop}
-- J13_bitCount_95d88
abbrev rm_J13_bitCount_95d88 : Room := { frames := 0, cells := 0, slots := 0, locals := 0 }
set_option maxHeartbeats 4000000 in
set_option maxRecDepth 100000 in
theorem c_J13_bitCount_95d88 {v0 : Int64} {R : Int32} (hf : f_J13_bitCount_95d88 v0 = some R) : Met l yJ13_bitCount_95d88 wsJ13_bitCount_95d88 rm_J13_bitCount_95d88 (va_Pc [.long v0] (gPre D b M (gh) (gTy cI cL))) (gQ D b (some (.int R)) M (gh)) 0 0 (gA b) := by
  refine gp_met (cc := cJ13_bitCount_95d88) (maxL := 2) (ret := (some .int)) (by decide) rfl (Nat.le_of_ble_eq_true rfl) ?_
  intro p e s m below meth c X ls hG hl
  obtain ⟨H, hH0⟩ : ∃ H : Heap, H = s.heap := ⟨_, rfl⟩
  rw [← hH0] at hG ⊢
  have hS : va_S (gA b) s.heap H [] := by rw [hH0]; exact va_S.rf
  obtain ⟨locs, hlo⟩ : ∃ z : List Loc, z = [] := ⟨_, rfl⟩
  rw [← hlo] at hS ⊢
  unfold f_J13_bitCount_95d88 at hf
  obtain ⟨hx, hb, hr, hml, hown, hts, hlocks, hKn, hBs⟩ := id X
  have hK := hKn.1
  have hl : lv_has ls 2 [(0, .long v0)] := hl
  refine lv_lload_n hx hb dJ13_bitCount_95d88_0 rfl (lv_at hl 0 rfl) ?_
  refine lv_lload_n hx hb dJ13_bitCount_95d88_1 rfl (lv_at hl 0 rfl) ?_
  refine lv_iconst (v := 1) hx hb dJ13_bitCount_95d88_2 (by decide) ?_
  refine lv_lushr hx hb dJ13_bitCount_95d88_3 rfl ?_
  refine lv_ldc2 (v := (6148914691236517205 : Int64)) hx hb hown (hts _ (List.mem_of_getElem? (i := 1) rfl)) dJ13_bitCount_95d88_4 ?_
  refine lv_land hx hb dJ13_bitCount_95d88_7 ?_
  refine lv_lsub hx hb dJ13_bitCount_95d88_8 ?_
  refine lv_lstore_n (lv' := [(0, .long (v0 - (((v0.toUInt64 >>> ((1 : Int32).toInt64.toUInt64 &&& Int64.toUInt64 63)).toInt64) &&& (6148914691236517205 : Int64))))]) hx hb dJ13_bitCount_95d88_9 rfl hl (by decide) rfl (fun ls hl => ?_)
  refine lv_lload_n hx hb dJ13_bitCount_95d88_10 rfl (lv_at hl 0 rfl) ?_
  refine lv_ldc2 (v := (3689348814741910323 : Int64)) hx hb hown (hts _ (List.mem_of_getElem? (i := 2) rfl)) dJ13_bitCount_95d88_11 ?_
  refine lv_land hx hb dJ13_bitCount_95d88_14 ?_
  refine lv_lload_n hx hb dJ13_bitCount_95d88_15 rfl (lv_at hl 0 rfl) ?_
  refine lv_iconst (v := 2) hx hb dJ13_bitCount_95d88_16 (by decide) ?_
  refine lv_lushr hx hb dJ13_bitCount_95d88_17 rfl ?_
  refine lv_ldc2 (v := (3689348814741910323 : Int64)) hx hb hown (hts _ (List.mem_of_getElem? (i := 2) rfl)) dJ13_bitCount_95d88_18 ?_
  refine lv_land hx hb dJ13_bitCount_95d88_21 ?_
  refine lv_ladd hx hb dJ13_bitCount_95d88_22 ?_
  refine lv_lstore_n (lv' := [(0, .long (((v0 - (((v0.toUInt64 >>> ((1 : Int32).toInt64.toUInt64 &&& Int64.toUInt64 63)).toInt64) &&& (6148914691236517205 : Int64))) &&& (3689348814741910323 : Int64)) + ((((v0 - (((v0.toUInt64 >>> ((1 : Int32).toInt64.toUInt64 &&& Int64.toUInt64 63)).toInt64) &&& (6148914691236517205 : Int64))).toUInt64 >>> ((2 : Int32).toInt64.toUInt64 &&& Int64.toUInt64 63)).toInt64) &&& (3689348814741910323 : Int64))))]) hx hb dJ13_bitCount_95d88_23 rfl hl (by decide) rfl (fun ls hl => ?_)
  refine lv_lload_n hx hb dJ13_bitCount_95d88_24 rfl (lv_at hl 0 rfl) ?_
  refine lv_lload_n hx hb dJ13_bitCount_95d88_25 rfl (lv_at hl 0 rfl) ?_
  refine lv_iconst (v := 4) hx hb dJ13_bitCount_95d88_26 (by decide) ?_
  refine lv_lushr hx hb dJ13_bitCount_95d88_27 rfl ?_
  refine lv_ladd hx hb dJ13_bitCount_95d88_28 ?_
  refine lv_ldc2 (v := (1085102592571150095 : Int64)) hx hb hown (hts _ (List.mem_of_getElem? (i := 3) rfl)) dJ13_bitCount_95d88_29 ?_
  refine lv_land hx hb dJ13_bitCount_95d88_32 ?_
  refine lv_lstore_n (lv' := [(0, .long (((((v0 - (((v0.toUInt64 >>> ((1 : Int32).toInt64.toUInt64 &&& Int64.toUInt64 63)).toInt64) &&& (6148914691236517205 : Int64))) &&& (3689348814741910323 : Int64)) + ((((v0 - (((v0.toUInt64 >>> ((1 : Int32).toInt64.toUInt64 &&& Int64.toUInt64 63)).toInt64) &&& (6148914691236517205 : Int64))).toUInt64 >>> ((2 : Int32).toInt64.toUInt64 &&& Int64.toUInt64 63)).toInt64) &&& (3689348814741910323 : Int64))) + (((((v0 - (((v0.toUInt64 >>> ((1 : Int32).toInt64.toUInt64 &&& Int64.toUInt64 63)).toInt64) &&& (6148914691236517205 : Int64))) &&& (3689348814741910323 : Int64)) + ((((v0 - (((v0.toUInt64 >>> ((1 : Int32).toInt64.toUInt64 &&& Int64.toUInt64 63)).toInt64) &&& (6148914691236517205 : Int64))).toUInt64 >>> ((2 : Int32).toInt64.toUInt64 &&& Int64.toUInt64 63)).toInt64) &&& (3689348814741910323 : Int64))).toUInt64 >>> ((4 : Int32).toInt64.toUInt64 &&& Int64.toUInt64 63)).toInt64)) &&& (1085102592571150095 : Int64)))]) hx hb dJ13_bitCount_95d88_33 rfl hl (by decide) rfl (fun ls hl => ?_)
  refine lv_lload_n hx hb dJ13_bitCount_95d88_34 rfl (lv_at hl 0 rfl) ?_
  refine lv_lload_n hx hb dJ13_bitCount_95d88_35 rfl (lv_at hl 0 rfl) ?_
  refine lv_bipush (v := 8) hx hb dJ13_bitCount_95d88_36 (by decide) ?_
  refine lv_lushr hx hb dJ13_bitCount_95d88_38 rfl ?_
  refine lv_ladd hx hb dJ13_bitCount_95d88_39 ?_
  refine lv_lstore_n (lv' := [(0, .long ((((((v0 - (((v0.toUInt64 >>> ((1 : Int32).toInt64.toUInt64 &&& Int64.toUInt64 63)).toInt64) &&& (6148914691236517205 : Int64))) &&& (3689348814741910323 : Int64)) + ((((v0 - (((v0.toUInt64 >>> ((1 : Int32).toInt64.toUInt64 &&& Int64.toUInt64 63)).toInt64) &&& (6148914691236517205 : Int64))).toUInt64 >>> ((2 : Int32).toInt64.toUInt64 &&& Int64.toUInt64 63)).toInt64) &&& (3689348814741910323 : Int64))) + (((((v0 - (((v0.toUInt64 >>> ((1 : Int32).toInt64.toUInt64 &&& Int64.toUInt64 63)).toInt64) &&& (6148914691236517205 : Int64))) &&& (3689348814741910323 : Int64)) + ((((v0 - (((v0.toUInt64 >>> ((1 : Int32).toInt64.toUInt64 &&& Int64.toUInt64 63)).toInt64) &&& (6148914691236517205 : Int64))).toUInt64 >>> ((2 : Int32).toInt64.toUInt64 &&& Int64.toUInt64 63)).toInt64) &&& (3689348814741910323 : Int64))).toUInt64 >>> ((4 : Int32).toInt64.toUInt64 &&& Int64.toUInt64 63)).toInt64)) &&& (1085102592571150095 : Int64)) + (((((((v0 - (((v0.toUInt64 >>> ((1 : Int32).toInt64.toUInt64 &&& Int64.toUInt64 63)).toInt64) &&& (6148914691236517205 : Int64))) &&& (3689348814741910323 : Int64)) + ((((v0 - (((v0.toUInt64 >>> ((1 : Int32).toInt64.toUInt64 &&& Int64.toUInt64 63)).toInt64) &&& (6148914691236517205 : Int64))).toUInt64 >>> ((2 : Int32).toInt64.toUInt64 &&& Int64.toUInt64 63)).toInt64) &&& (3689348814741910323 : Int64))) + (((((v0 - (((v0.toUInt64 >>> ((1 : Int32).toInt64.toUInt64 &&& Int64.toUInt64 63)).toInt64) &&& (6148914691236517205 : Int64))) &&& (3689348814741910323 : Int64)) + ((((v0 - (((v0.toUInt64 >>> ((1 : Int32).toInt64.toUInt64 &&& Int64.toUInt64 63)).toInt64) &&& (6148914691236517205 : Int64))).toUInt64 >>> ((2 : Int32).toInt64.toUInt64 &&& Int64.toUInt64 63)).toInt64) &&& (3689348814741910323 : Int64))).toUInt64 >>> ((4 : Int32).toInt64.toUInt64 &&& Int64.toUInt64 63)).toInt64)) &&& (1085102592571150095 : Int64)).toUInt64 >>> ((8 : Int32).toInt64.toUInt64 &&& Int64.toUInt64 63)).toInt64)))]) hx hb dJ13_bitCount_95d88_40 rfl hl (by decide) rfl (fun ls hl => ?_)
  refine lv_lload_n hx hb dJ13_bitCount_95d88_41 rfl (lv_at hl 0 rfl) ?_
  refine lv_lload_n hx hb dJ13_bitCount_95d88_42 rfl (lv_at hl 0 rfl) ?_
  refine lv_bipush (v := 16) hx hb dJ13_bitCount_95d88_43 (by decide) ?_
  refine lv_lushr hx hb dJ13_bitCount_95d88_45 rfl ?_
  refine lv_ladd hx hb dJ13_bitCount_95d88_46 ?_
  refine lv_lstore_n (lv' := [(0, .long (((((((v0 - (((v0.toUInt64 >>> ((1 : Int32).toInt64.toUInt64 &&& Int64.toUInt64 63)).toInt64) &&& (6148914691236517205 : Int64))) &&& (3689348814741910323 : Int64)) + ((((v0 - (((v0.toUInt64 >>> ((1 : Int32).toInt64.toUInt64 &&& Int64.toUInt64 63)).toInt64) &&& (6148914691236517205 : Int64))).toUInt64 >>> ((2 : Int32).toInt64.toUInt64 &&& Int64.toUInt64 63)).toInt64) &&& (3689348814741910323 : Int64))) + (((((v0 - (((v0.toUInt64 >>> ((1 : Int32).toInt64.toUInt64 &&& Int64.toUInt64 63)).toInt64) &&& (6148914691236517205 : Int64))) &&& (3689348814741910323 : Int64)) + ((((v0 - (((v0.toUInt64 >>> ((1 : Int32).toInt64.toUInt64 &&& Int64.toUInt64 63)).toInt64) &&& (6148914691236517205 : Int64))).toUInt64 >>> ((2 : Int32).toInt64.toUInt64 &&& Int64.toUInt64 63)).toInt64) &&& (3689348814741910323 : Int64))).toUInt64 >>> ((4 : Int32).toInt64.toUInt64 &&& Int64.toUInt64 63)).toInt64)) &&& (1085102592571150095 : Int64)) + (((((((v0 - (((v0.toUInt64 >>> ((1 : Int32).toInt64.toUInt64 &&& Int64.toUInt64 63)).toInt64) &&& (6148914691236517205 : Int64))) &&& (3689348814741910323 : Int64)) + ((((v0 - (((v0.toUInt64 >>> ((1 : Int32).toInt64.toUInt64 &&& Int64.toUInt64 63)).toInt64) &&& (6148914691236517205 : Int64))).toUInt64 >>> ((2 : Int32).toInt64.toUInt64 &&& Int64.toUInt64 63)).toInt64) &&& (3689348814741910323 : Int64))) + (((((v0 - (((v0.toUInt64 >>> ((1 : Int32).toInt64.toUInt64 &&& Int64.toUInt64 63)).toInt64) &&& (6148914691236517205 : Int64))) &&& (3689348814741910323 : Int64)) + ((((v0 - (((v0.toUInt64 >>> ((1 : Int32).toInt64.toUInt64 &&& Int64.toUInt64 63)).toInt64) &&& (6148914691236517205 : Int64))).toUInt64 >>> ((2 : Int32).toInt64.toUInt64 &&& Int64.toUInt64 63)).toInt64) &&& (3689348814741910323 : Int64))).toUInt64 >>> ((4 : Int32).toInt64.toUInt64 &&& Int64.toUInt64 63)).toInt64)) &&& (1085102592571150095 : Int64)).toUInt64 >>> ((8 : Int32).toInt64.toUInt64 &&& Int64.toUInt64 63)).toInt64)) + ((((((((v0 - (((v0.toUInt64 >>> ((1 : Int32).toInt64.toUInt64 &&& Int64.toUInt64 63)).toInt64) &&& (6148914691236517205 : Int64))) &&& (3689348814741910323 : Int64)) + ((((v0 - (((v0.toUInt64 >>> ((1 : Int32).toInt64.toUInt64 &&& Int64.toUInt64 63)).toInt64) &&& (6148914691236517205 : Int64))).toUInt64 >>> ((2 : Int32).toInt64.toUInt64 &&& Int64.toUInt64 63)).toInt64) &&& (3689348814741910323 : Int64))) + (((((v0 - (((v0.toUInt64 >>> ((1 : Int32).toInt64.toUInt64 &&& Int64.toUInt64 63)).toInt64) &&& (6148914691236517205 : Int64))) &&& (3689348814741910323 : Int64)) + ((((v0 - (((v0.toUInt64 >>> ((1 : Int32).toInt64.toUInt64 &&& Int64.toUInt64 63)).toInt64) &&& (6148914691236517205 : Int64))).toUInt64 >>> ((2 : Int32).toInt64.toUInt64 &&& Int64.toUInt64 63)).toInt64) &&& (3689348814741910323 : Int64))).toUInt64 >>> ((4 : Int32).toInt64.toUInt64 &&& Int64.toUInt64 63)).toInt64)) &&& (1085102592571150095 : Int64)) + (((((((v0 - (((v0.toUInt64 >>> ((1 : Int32).toInt64.toUInt64 &&& Int64.toUInt64 63)).toInt64) &&& (6148914691236517205 : Int64))) &&& (3689348814741910323 : Int64)) + ((((v0 - (((v0.toUInt64 >>> ((1 : Int32).toInt64.toUInt64 &&& Int64.toUInt64 63)).toInt64) &&& (6148914691236517205 : Int64))).toUInt64 >>> ((2 : Int32).toInt64.toUInt64 &&& Int64.toUInt64 63)).toInt64) &&& (3689348814741910323 : Int64))) + (((((v0 - (((v0.toUInt64 >>> ((1 : Int32).toInt64.toUInt64 &&& Int64.toUInt64 63)).toInt64) &&& (6148914691236517205 : Int64))) &&& (3689348814741910323 : Int64)) + ((((v0 - (((v0.toUInt64 >>> ((1 : Int32).toInt64.toUInt64 &&& Int64.toUInt64 63)).toInt64) &&& (6148914691236517205 : Int64))).toUInt64 >>> ((2 : Int32).toInt64.toUInt64 &&& Int64.toUInt64 63)).toInt64) &&& (3689348814741910323 : Int64))).toUInt64 >>> ((4 : Int32).toInt64.toUInt64 &&& Int64.toUInt64 63)).toInt64)) &&& (1085102592571150095 : Int64)).toUInt64 >>> ((8 : Int32).toInt64.toUInt64 &&& Int64.toUInt64 63)).toInt64)).toUInt64 >>> ((16 : Int32).toInt64.toUInt64 &&& Int64.toUInt64 63)).toInt64)))]) hx hb dJ13_bitCount_95d88_47 rfl hl (by decide) rfl (fun ls hl => ?_)
  refine lv_lload_n hx hb dJ13_bitCount_95d88_48 rfl (lv_at hl 0 rfl) ?_
  refine lv_lload_n hx hb dJ13_bitCount_95d88_49 rfl (lv_at hl 0 rfl) ?_
  refine lv_bipush (v := 32) hx hb dJ13_bitCount_95d88_50 (by decide) ?_
  refine lv_lushr hx hb dJ13_bitCount_95d88_52 rfl ?_
  refine lv_ladd hx hb dJ13_bitCount_95d88_53 ?_
  refine lv_lstore_n (lv' := [(0, .long ((((((((v0 - (((v0.toUInt64 >>> ((1 : Int32).toInt64.toUInt64 &&& Int64.toUInt64 63)).toInt64) &&& (6148914691236517205 : Int64))) &&& (3689348814741910323 : Int64)) + ((((v0 - (((v0.toUInt64 >>> ((1 : Int32).toInt64.toUInt64 &&& Int64.toUInt64 63)).toInt64) &&& (6148914691236517205 : Int64))).toUInt64 >>> ((2 : Int32).toInt64.toUInt64 &&& Int64.toUInt64 63)).toInt64) &&& (3689348814741910323 : Int64))) + (((((v0 - (((v0.toUInt64 >>> ((1 : Int32).toInt64.toUInt64 &&& Int64.toUInt64 63)).toInt64) &&& (6148914691236517205 : Int64))) &&& (3689348814741910323 : Int64)) + ((((v0 - (((v0.toUInt64 >>> ((1 : Int32).toInt64.toUInt64 &&& Int64.toUInt64 63)).toInt64) &&& (6148914691236517205 : Int64))).toUInt64 >>> ((2 : Int32).toInt64.toUInt64 &&& Int64.toUInt64 63)).toInt64) &&& (3689348814741910323 : Int64))).toUInt64 >>> ((4 : Int32).toInt64.toUInt64 &&& Int64.toUInt64 63)).toInt64)) &&& (1085102592571150095 : Int64)) + (((((((v0 - (((v0.toUInt64 >>> ((1 : Int32).toInt64.toUInt64 &&& Int64.toUInt64 63)).toInt64) &&& (6148914691236517205 : Int64))) &&& (3689348814741910323 : Int64)) + ((((v0 - (((v0.toUInt64 >>> ((1 : Int32).toInt64.toUInt64 &&& Int64.toUInt64 63)).toInt64) &&& (6148914691236517205 : Int64))).toUInt64 >>> ((2 : Int32).toInt64.toUInt64 &&& Int64.toUInt64 63)).toInt64) &&& (3689348814741910323 : Int64))) + (((((v0 - (((v0.toUInt64 >>> ((1 : Int32).toInt64.toUInt64 &&& Int64.toUInt64 63)).toInt64) &&& (6148914691236517205 : Int64))) &&& (3689348814741910323 : Int64)) + ((((v0 - (((v0.toUInt64 >>> ((1 : Int32).toInt64.toUInt64 &&& Int64.toUInt64 63)).toInt64) &&& (6148914691236517205 : Int64))).toUInt64 >>> ((2 : Int32).toInt64.toUInt64 &&& Int64.toUInt64 63)).toInt64) &&& (3689348814741910323 : Int64))).toUInt64 >>> ((4 : Int32).toInt64.toUInt64 &&& Int64.toUInt64 63)).toInt64)) &&& (1085102592571150095 : Int64)).toUInt64 >>> ((8 : Int32).toInt64.toUInt64 &&& Int64.toUInt64 63)).toInt64)) + ((((((((v0 - (((v0.toUInt64 >>> ((1 : Int32).toInt64.toUInt64 &&& Int64.toUInt64 63)).toInt64) &&& (6148914691236517205 : Int64))) &&& (3689348814741910323 : Int64)) + ((((v0 - (((v0.toUInt64 >>> ((1 : Int32).toInt64.toUInt64 &&& Int64.toUInt64 63)).toInt64) &&& (6148914691236517205 : Int64))).toUInt64 >>> ((2 : Int32).toInt64.toUInt64 &&& Int64.toUInt64 63)).toInt64) &&& (3689348814741910323 : Int64))) + (((((v0 - (((v0.toUInt64 >>> ((1 : Int32).toInt64.toUInt64 &&& Int64.toUInt64 63)).toInt64) &&& (6148914691236517205 : Int64))) &&& (3689348814741910323 : Int64)) + ((((v0 - (((v0.toUInt64 >>> ((1 : Int32).toInt64.toUInt64 &&& Int64.toUInt64 63)).toInt64) &&& (6148914691236517205 : Int64))).toUInt64 >>> ((2 : Int32).toInt64.toUInt64 &&& Int64.toUInt64 63)).toInt64) &&& (3689348814741910323 : Int64))).toUInt64 >>> ((4 : Int32).toInt64.toUInt64 &&& Int64.toUInt64 63)).toInt64)) &&& (1085102592571150095 : Int64)) + (((((((v0 - (((v0.toUInt64 >>> ((1 : Int32).toInt64.toUInt64 &&& Int64.toUInt64 63)).toInt64) &&& (6148914691236517205 : Int64))) &&& (3689348814741910323 : Int64)) + ((((v0 - (((v0.toUInt64 >>> ((1 : Int32).toInt64.toUInt64 &&& Int64.toUInt64 63)).toInt64) &&& (6148914691236517205 : Int64))).toUInt64 >>> ((2 : Int32).toInt64.toUInt64 &&& Int64.toUInt64 63)).toInt64) &&& (3689348814741910323 : Int64))) + (((((v0 - (((v0.toUInt64 >>> ((1 : Int32).toInt64.toUInt64 &&& Int64.toUInt64 63)).toInt64) &&& (6148914691236517205 : Int64))) &&& (3689348814741910323 : Int64)) + ((((v0 - (((v0.toUInt64 >>> ((1 : Int32).toInt64.toUInt64 &&& Int64.toUInt64 63)).toInt64) &&& (6148914691236517205 : Int64))).toUInt64 >>> ((2 : Int32).toInt64.toUInt64 &&& Int64.toUInt64 63)).toInt64) &&& (3689348814741910323 : Int64))).toUInt64 >>> ((4 : Int32).toInt64.toUInt64 &&& Int64.toUInt64 63)).toInt64)) &&& (1085102592571150095 : Int64)).toUInt64 >>> ((8 : Int32).toInt64.toUInt64 &&& Int64.toUInt64 63)).toInt64)).toUInt64 >>> ((16 : Int32).toInt64.toUInt64 &&& Int64.toUInt64 63)).toInt64)) + (((((((((v0 - (((v0.toUInt64 >>> ((1 : Int32).toInt64.toUInt64 &&& Int64.toUInt64 63)).toInt64) &&& (6148914691236517205 : Int64))) &&& (3689348814741910323 : Int64)) + ((((v0 - (((v0.toUInt64 >>> ((1 : Int32).toInt64.toUInt64 &&& Int64.toUInt64 63)).toInt64) &&& (6148914691236517205 : Int64))).toUInt64 >>> ((2 : Int32).toInt64.toUInt64 &&& Int64.toUInt64 63)).toInt64) &&& (3689348814741910323 : Int64))) + (((((v0 - (((v0.toUInt64 >>> ((1 : Int32).toInt64.toUInt64 &&& Int64.toUInt64 63)).toInt64) &&& (6148914691236517205 : Int64))) &&& (3689348814741910323 : Int64)) + ((((v0 - (((v0.toUInt64 >>> ((1 : Int32).toInt64.toUInt64 &&& Int64.toUInt64 63)).toInt64) &&& (6148914691236517205 : Int64))).toUInt64 >>> ((2 : Int32).toInt64.toUInt64 &&& Int64.toUInt64 63)).toInt64) &&& (3689348814741910323 : Int64))).toUInt64 >>> ((4 : Int32).toInt64.toUInt64 &&& Int64.toUInt64 63)).toInt64)) &&& (1085102592571150095 : Int64)) + (((((((v0 - (((v0.toUInt64 >>> ((1 : Int32).toInt64.toUInt64 &&& Int64.toUInt64 63)).toInt64) &&& (6148914691236517205 : Int64))) &&& (3689348814741910323 : Int64)) + ((((v0 - (((v0.toUInt64 >>> ((1 : Int32).toInt64.toUInt64 &&& Int64.toUInt64 63)).toInt64) &&& (6148914691236517205 : Int64))).toUInt64 >>> ((2 : Int32).toInt64.toUInt64 &&& Int64.toUInt64 63)).toInt64) &&& (3689348814741910323 : Int64))) + (((((v0 - (((v0.toUInt64 >>> ((1 : Int32).toInt64.toUInt64 &&& Int64.toUInt64 63)).toInt64) &&& (6148914691236517205 : Int64))) &&& (3689348814741910323 : Int64)) + ((((v0 - (((v0.toUInt64 >>> ((1 : Int32).toInt64.toUInt64 &&& Int64.toUInt64 63)).toInt64) &&& (6148914691236517205 : Int64))).toUInt64 >>> ((2 : Int32).toInt64.toUInt64 &&& Int64.toUInt64 63)).toInt64) &&& (3689348814741910323 : Int64))).toUInt64 >>> ((4 : Int32).toInt64.toUInt64 &&& Int64.toUInt64 63)).toInt64)) &&& (1085102592571150095 : Int64)).toUInt64 >>> ((8 : Int32).toInt64.toUInt64 &&& Int64.toUInt64 63)).toInt64)) + ((((((((v0 - (((v0.toUInt64 >>> ((1 : Int32).toInt64.toUInt64 &&& Int64.toUInt64 63)).toInt64) &&& (6148914691236517205 : Int64))) &&& (3689348814741910323 : Int64)) + ((((v0 - (((v0.toUInt64 >>> ((1 : Int32).toInt64.toUInt64 &&& Int64.toUInt64 63)).toInt64) &&& (6148914691236517205 : Int64))).toUInt64 >>> ((2 : Int32).toInt64.toUInt64 &&& Int64.toUInt64 63)).toInt64) &&& (3689348814741910323 : Int64))) + (((((v0 - (((v0.toUInt64 >>> ((1 : Int32).toInt64.toUInt64 &&& Int64.toUInt64 63)).toInt64) &&& (6148914691236517205 : Int64))) &&& (3689348814741910323 : Int64)) + ((((v0 - (((v0.toUInt64 >>> ((1 : Int32).toInt64.toUInt64 &&& Int64.toUInt64 63)).toInt64) &&& (6148914691236517205 : Int64))).toUInt64 >>> ((2 : Int32).toInt64.toUInt64 &&& Int64.toUInt64 63)).toInt64) &&& (3689348814741910323 : Int64))).toUInt64 >>> ((4 : Int32).toInt64.toUInt64 &&& Int64.toUInt64 63)).toInt64)) &&& (1085102592571150095 : Int64)) + (((((((v0 - (((v0.toUInt64 >>> ((1 : Int32).toInt64.toUInt64 &&& Int64.toUInt64 63)).toInt64) &&& (6148914691236517205 : Int64))) &&& (3689348814741910323 : Int64)) + ((((v0 - (((v0.toUInt64 >>> ((1 : Int32).toInt64.toUInt64 &&& Int64.toUInt64 63)).toInt64) &&& (6148914691236517205 : Int64))).toUInt64 >>> ((2 : Int32).toInt64.toUInt64 &&& Int64.toUInt64 63)).toInt64) &&& (3689348814741910323 : Int64))) + (((((v0 - (((v0.toUInt64 >>> ((1 : Int32).toInt64.toUInt64 &&& Int64.toUInt64 63)).toInt64) &&& (6148914691236517205 : Int64))) &&& (3689348814741910323 : Int64)) + ((((v0 - (((v0.toUInt64 >>> ((1 : Int32).toInt64.toUInt64 &&& Int64.toUInt64 63)).toInt64) &&& (6148914691236517205 : Int64))).toUInt64 >>> ((2 : Int32).toInt64.toUInt64 &&& Int64.toUInt64 63)).toInt64) &&& (3689348814741910323 : Int64))).toUInt64 >>> ((4 : Int32).toInt64.toUInt64 &&& Int64.toUInt64 63)).toInt64)) &&& (1085102592571150095 : Int64)).toUInt64 >>> ((8 : Int32).toInt64.toUInt64 &&& Int64.toUInt64 63)).toInt64)).toUInt64 >>> ((16 : Int32).toInt64.toUInt64 &&& Int64.toUInt64 63)).toInt64)).toUInt64 >>> ((32 : Int32).toInt64.toUInt64 &&& Int64.toUInt64 63)).toInt64)))]) hx hb dJ13_bitCount_95d88_54 rfl hl (by decide) rfl (fun ls hl => ?_)
  refine lv_lload_n hx hb dJ13_bitCount_95d88_55 rfl (lv_at hl 0 rfl) ?_
  refine lv_l2i hx hb dJ13_bitCount_95d88_56 rfl ?_
  refine lv_bipush (v := 127) hx hb dJ13_bitCount_95d88_57 (by decide) ?_
  refine lv_iand hx hb dJ13_bitCount_95d88_59 ?_
  have hf := Option.some.inj hf
  subst hf
  exact gp_retI hx hb hr hlocks hG hS (Nat.le_of_ble_eq_true rfl) (Nat.le_of_ble_eq_true rfl) dJ13_bitCount_95d88_60
-- X2_howMany
abbrev rm_X2_howMany : Room := { frames := 1, cells := 0, slots := 0, locals := 21 }
set_option maxHeartbeats 4000000 in
set_option maxRecDepth 100000 in
theorem c_X2_howMany {v0 : Int64} {R : Int32} (hf : f_X2_howMany v0 = some R) : Met l yX2_howMany wsX2_howMany rm_X2_howMany (va_Pc [.long v0] (gPre D b M (gh) (gTy cI cL))) (gQ D b (some (.int R)) M (gh)) 0 0 (gA b) := by
  refine gp_met (cc := cX2_howMany) (maxL := 2) (ret := (some .int)) (by decide) rfl (Nat.le_of_ble_eq_true rfl) ?_
  intro p e s m below meth c X ls hG hl
  obtain ⟨H, hH0⟩ : ∃ H : Heap, H = s.heap := ⟨_, rfl⟩
  rw [← hH0] at hG ⊢
  have hS : va_S (gA b) s.heap H [] := by rw [hH0]; exact va_S.rf
  obtain ⟨locs, hlo⟩ : ∃ z : List Loc, z = [] := ⟨_, rfl⟩
  rw [← hlo] at hS ⊢
  unfold f_X2_howMany at hf
  obtain ⟨hx, hb, hr, hml, hown, hts, hlocks, hKn, hBs⟩ := id X
  have hK := hKn.1
  have hl : lv_has ls 2 [(0, .long v0)] := hl
  refine lv_lload_n hx hb dX2_howMany_0 rfl (lv_at hl 0 rfl) ?_
  refine lv_ldc2 (v := (68719476735 : Int64)) hx hb hown (hts _ (List.mem_of_getElem? (i := 1) rfl)) dX2_howMany_1 ?_
  refine lv_land hx hb dX2_howMany_4 ?_
  obtain ⟨o5, hc5, hf⟩ := gb_b hf
  refine gp_callI (va_runS (As := [.long (v0 &&& (68719476735 : Int64))]) (rest := []) ⟨hx, hb, hml, hown, hts⟩ (c_J13_bitCount_95d88 (l := l) (D := D) (b := b) (cI := cI) (cL := cL) hc5) (va_cwS 1 hts gX2_howMany_J13_bitCount_95d88 rfl rfl rfl (by decide +kernel) ⟨Nat.le_of_ble_eq_true rfl, Nat.le_of_ble_eq_true rfl⟩) (gp_preS hKn hG) rfl rfl hl.1 rfl (lv_room (Nat.le_of_ble_eq_true rfl)) dX2_howMany_5 ⟨Nat.le_of_ble_eq_true rfl, Nat.le_of_ble_eq_true rfl⟩) hS (fun H locs hG hS => ?_)
  have hf := Option.some.inj hf
  subst hf
  exact gp_retI hx hb hr hlocks hG hS (Nat.le_of_ble_eq_true rfl) (Nat.le_of_ble_eq_true rfl) dX2_howMany_8
-- X2_isOne
abbrev rm_X2_isOne : Room := { frames := 0, cells := 0, slots := 0, locals := 0 }
set_option maxHeartbeats 4000000 in
set_option maxRecDepth 100000 in
theorem c_X2_isOne {v0 : Int32} {R : Int32} (hf : f_X2_isOne v0 = some R) : Met l yX2_isOne wsX2_isOne rm_X2_isOne (va_Pc [.int v0] (gPre D b M (gh) (gTy cI cL))) (gQ D b (some (.int R)) M (gh)) 0 0 (gA b) := by
  refine gp_met (cc := cX2_isOne) (maxL := 1) (ret := (some .boolean)) (by decide) rfl (Nat.le_of_ble_eq_true rfl) ?_
  intro p e s m below meth c X ls hG hl
  obtain ⟨H, hH0⟩ : ∃ H : Heap, H = s.heap := ⟨_, rfl⟩
  rw [← hH0] at hG ⊢
  have hS : va_S (gA b) s.heap H [] := by rw [hH0]; exact va_S.rf
  obtain ⟨locs, hlo⟩ : ∃ z : List Loc, z = [] := ⟨_, rfl⟩
  rw [← hlo] at hS ⊢
  unfold f_X2_isOne at hf
  obtain ⟨hx, hb, hr, hml, hown, hts, hlocks, hKn, hBs⟩ := id X
  have hK := hKn.1
  have hl : lv_has ls 1 [(0, .int v0)] := hl
  refine lv_iload_n hx hb dX2_isOne_0 rfl (lv_at hl 0 rfl) ?_
  have hJ1 : ∀ Z : Int32, Z = (if v0 < 0 then 0 else if 36 ≤ v0 then 0 else 1) → W p l e rm_X2_isOne s m [.int v0].toArray below meth c H locs 0 0 (MQ below (gQ D b (some (.int R)) M (gh)) [.int v0].toArray s 0 0 (gA b)) (F0 m 15 ls (.int Z :: [])) := by
    intro Z hZ
    subst hZ
    obtain ⟨z15, hf⟩ := gb_zb hf
    have hf := Option.some.inj hf
    subst hf
    exact gp_retZ hx hb hr z15 hlocks hG hS (Nat.le_of_ble_eq_true rfl) (Nat.le_of_ble_eq_true rfl) dX2_isOne_15
  refine lv_if_lt (tgt := 14) hx hb dX2_isOne_1 (by decide) (fun c1 => ?_) (fun c1 => ?_)
  · rw [if_pos c1] at hJ1
    refine lv_iconst (v := 0) hx hb dX2_isOne_14 (by decide) ?_
    exact hJ1 _ rfl
  · rw [if_neg c1] at hJ1
    refine lv_iload_n hx hb dX2_isOne_4 rfl (lv_at hl 0 rfl) ?_
    refine lv_bipush (v := 36) hx hb dX2_isOne_5 (by decide) ?_
    refine lv_icmp_ge (tgt := 14) hx hb dX2_isOne_7 (by decide) (fun c7 => ?_) (fun c7 => ?_)
    · rw [if_pos c7] at hJ1
      refine lv_iconst (v := 0) hx hb dX2_isOne_14 (by decide) ?_
      exact hJ1 _ rfl
    · rw [if_neg c7] at hJ1
      refine lv_iconst (v := 1) hx hb dX2_isOne_10 (by decide) ?_
      refine lv_goto (tgt := 15) hx hb dX2_isOne_11 (by decide) ?_
      exact hJ1 _ rfl
-- X2_towards
abbrev rm_X2_towards : Room := { frames := 1, cells := 0, slots := 0, locals := 20 }
set_option maxHeartbeats 4000000 in
set_option maxRecDepth 100000 in
theorem c_X2_towards {v0 : Int32} {v1 : Int32} {R : Int32} (hf : f_X2_towards v0 v1 = some R) : Met l yX2_towards wsX2_towards rm_X2_towards (va_Pc [.int v0, .int v1] (gPre D b M (gh) (gTy cI cL))) (gQ D b (some (.int R)) M (gh)) 0 0 (gA b) := by
  refine gp_met (cc := cX2_towards) (maxL := 4) (ret := (some .int)) (by decide) rfl (Nat.le_of_ble_eq_true rfl) ?_
  intro p e s m below meth c X ls hG hl
  obtain ⟨H, hH0⟩ : ∃ H : Heap, H = s.heap := ⟨_, rfl⟩
  rw [← hH0] at hG ⊢
  have hS : va_S (gA b) s.heap H [] := by rw [hH0]; exact va_S.rf
  obtain ⟨locs, hlo⟩ : ∃ z : List Loc, z = [] := ⟨_, rfl⟩
  rw [← hlo] at hS ⊢
  unfold f_X2_towards at hf
  obtain ⟨hx, hb, hr, hml, hown, hts, hlocks, hKn, hBs⟩ := id X
  have hK := hKn.1
  have hl : lv_has ls 4 [(0, .int v0), (1, .int v1)] := hl
  refine lv_iload_n hx hb dX2_towards_0 rfl (lv_at hl 0 rfl) ?_
  obtain ⟨o1, hc1, hf⟩ := gb_b hf
  refine gp_callL (va_runS (As := [.int v0]) (rest := []) ⟨hx, hb, hml, hown, hts⟩ (c_X2_only (l := l) (D := D) (b := b) (cI := cI) (cL := cL) hc1) (va_cwS 1 hts gX2_towards_X2_only rfl rfl rfl (by decide +kernel) ⟨Nat.le_of_ble_eq_true rfl, Nat.le_of_ble_eq_true rfl⟩) (gp_preS hKn hG) rfl rfl hl.1 rfl (lv_room (Nat.le_of_ble_eq_true rfl)) dX2_towards_1 ⟨Nat.le_of_ble_eq_true rfl, Nat.le_of_ble_eq_true rfl⟩) hS (fun H locs hG hS => ?_)
  refine lv_lstore_n (lv' := [(2, .long o1), (0, .int v0), (1, .int v1)]) hx hb dX2_towards_4 rfl hl (by decide) rfl (fun ls hl => ?_)
  refine lv_iload_n hx hb dX2_towards_5 rfl (lv_at hl 2 rfl) ?_
  by_cases c6_0 : v1 = 0
  · have hf := gb_t c6_0 hf
    refine lv_tableIn (tgt := 32) (off := 26) hx hb dX2_towards_6 (by rw [c6_0]; decide) (by rw [c6_0]; decide) (by rw [c6_0]; rfl) (by decide) ?_
    refine lv_iload_n hx hb dX2_towards_32 rfl (lv_at hl 1 rfl) ?_
    refine lv_bipush (v := 6) hx hb dX2_towards_33 (by decide) ?_
    refine lv_isub hx hb dX2_towards_35 ?_
    have hf := Option.some.inj hf
    subst hf
    exact gp_retI hx hb hr hlocks hG hS (Nat.le_of_ble_eq_true rfl) (Nat.le_of_ble_eq_true rfl) dX2_towards_36
  · have hf := gb_f c6_0 hf
    by_cases c6_1 : v1 = 1
    · have hf := gb_t c6_1 hf
      refine lv_tableIn (tgt := 37) (off := 31) hx hb dX2_towards_6 (by rw [c6_1]; decide) (by rw [c6_1]; decide) (by rw [c6_1]; rfl) (by decide) ?_
      refine lv_lload_n hx hb dX2_towards_37 rfl (lv_at hl 0 rfl) ?_
      refine lv_ldc2 (v := (1090785345 : Int64)) hx hb hown (hts _ (List.mem_of_getElem? (i := 1) rfl)) dX2_towards_38 ?_
      refine lv_land hx hb dX2_towards_41 ?_
      refine lv_lconst (v := (0 : Int64)) hx hb dX2_towards_42 (by decide) ?_
      refine W.lcmp hx hb dX2_towards_43 ?_
      have hJ44 : ∀ Z : Int32, Z = (if (lg_cmp (o1 &&& (1090785345 : Int64)) (0 : Int64)) = 0 then v0 - 1 else (-9 : Int32)) → W p l e rm_X2_towards s m [.int v0, .int v1].toArray below meth c H locs 0 0 (MQ below (gQ D b (some (.int R)) M (gh)) [.int v0, .int v1].toArray s 0 0 (gA b)) (F0 m 55 ls (.int Z :: [])) := by
        intro Z hZ
        subst hZ
        have hf := Option.some.inj hf
        subst hf
        exact gp_retI hx hb hr hlocks hG hS (Nat.le_of_ble_eq_true rfl) (Nat.le_of_ble_eq_true rfl) dX2_towards_55
      refine lv_if_eq (tgt := 52) hx hb dX2_towards_44 (by decide) (fun c44 => ?_) (fun c44 => ?_)
      · rw [if_pos c44] at hJ44
        refine lv_iload_n hx hb dX2_towards_52 rfl (lv_at hl 1 rfl) ?_
        refine lv_iconst (v := 1) hx hb dX2_towards_53 (by decide) ?_
        refine lv_isub hx hb dX2_towards_54 ?_
        exact hJ44 _ rfl
      · rw [if_neg c44] at hJ44
        refine lv_bipush (v := (-9 : Int32)) hx hb dX2_towards_47 (by decide) ?_
        refine lv_goto (tgt := 55) hx hb dX2_towards_49 (by decide) ?_
        exact hJ44 _ rfl
    · have hf := gb_f c6_1 hf
      by_cases c6_2 : v1 = 2
      · have hf := gb_t c6_2 hf
        refine lv_tableIn (tgt := 56) (off := 50) hx hb dX2_towards_6 (by rw [c6_2]; decide) (by rw [c6_2]; decide) (by rw [c6_2]; rfl) (by decide) ?_
        refine lv_lload_n hx hb dX2_towards_56 rfl (lv_at hl 0 rfl) ?_
        refine lv_ldc2 (v := (34905131040 : Int64)) hx hb hown (hts _ (List.mem_of_getElem? (i := 2) rfl)) dX2_towards_57 ?_
        refine lv_land hx hb dX2_towards_60 ?_
        refine lv_lconst (v := (0 : Int64)) hx hb dX2_towards_61 (by decide) ?_
        refine W.lcmp hx hb dX2_towards_62 ?_
        have hJ63 : ∀ Z : Int32, Z = (if (lg_cmp (o1 &&& (34905131040 : Int64)) (0 : Int64)) = 0 then v0 + 1 else (-9 : Int32)) → W p l e rm_X2_towards s m [.int v0, .int v1].toArray below meth c H locs 0 0 (MQ below (gQ D b (some (.int R)) M (gh)) [.int v0, .int v1].toArray s 0 0 (gA b)) (F0 m 74 ls (.int Z :: [])) := by
          intro Z hZ
          subst hZ
          have hf := Option.some.inj hf
          subst hf
          exact gp_retI hx hb hr hlocks hG hS (Nat.le_of_ble_eq_true rfl) (Nat.le_of_ble_eq_true rfl) dX2_towards_74
        refine lv_if_eq (tgt := 71) hx hb dX2_towards_63 (by decide) (fun c63 => ?_) (fun c63 => ?_)
        · rw [if_pos c63] at hJ63
          refine lv_iload_n hx hb dX2_towards_71 rfl (lv_at hl 1 rfl) ?_
          refine lv_iconst (v := 1) hx hb dX2_towards_72 (by decide) ?_
          refine lv_iadd hx hb dX2_towards_73 ?_
          exact hJ63 _ rfl
        · rw [if_neg c63] at hJ63
          refine lv_bipush (v := (-9 : Int32)) hx hb dX2_towards_66 (by decide) ?_
          refine lv_goto (tgt := 74) hx hb dX2_towards_68 (by decide) ?_
          exact hJ63 _ rfl
      · have hf := gb_f c6_2 hf
        have ho6 : (v1).toInt < 0 ∨ 2 < (v1).toInt := by
          have q : ∀ k : Int32, ¬ v1 = k → ¬ (v1).toInt = k.toInt := fun k hk h => hk (Int32.toInt_inj.mp h)
          have q0 := q 0 c6_0; rw [show (0 : Int32).toInt = 0 from rfl] at q0
          have q1 := q 1 c6_1; rw [show (1 : Int32).toInt = 1 from rfl] at q1
          have q2 := q 2 c6_2; rw [show (2 : Int32).toInt = 2 from rfl] at q2
          omega
        refine lv_tableOut (tgt := 75) hx hb dX2_towards_6 ho6 (by decide) ?_
        refine lv_iload_n hx hb dX2_towards_75 rfl (lv_at hl 1 rfl) ?_
        refine lv_bipush (v := 6) hx hb dX2_towards_76 (by decide) ?_
        refine lv_iadd hx hb dX2_towards_78 ?_
        have hf := Option.some.inj hf
        subst hf
        exact gp_retI hx hb hr hlocks hG hS (Nat.le_of_ble_eq_true rfl) (Nat.le_of_ble_eq_true rfl) dX2_towards_79
-- X2_within
abbrev rm_X2_within : Room := { frames := 1, cells := 0, slots := 0, locals := 27 }
set_option maxHeartbeats 4000000 in
set_option maxRecDepth 100000 in
theorem w_X2_within_9 {α : Type} {R : α} {K36 : Int64 → Option α} {v1 : Int32} {v2 : Int64} (X : gC p s m args meth c cX2_within 7 (some .long) wsX2_within RX2 D b (gTy cI cL)) : ∀ (n : Nat) (v4 : Int64) (v6 : Int32), L_X2_within_9 K36 v1 v2 n v4 v6 = some R → (∀ (x : Int64), K36 x = some R → ∀ (H : Heap) (locs : List Loc) (ls : Array Slot), GP D b M (gh) H → va_S (gA b) s.heap H locs → lv_has ls 7 [(4, .long x)] → W p l e rm_X2_within s m args below meth c H locs 0 0 Q (F0 m 36 ls [])) → ∀ (H : Heap) (locs : List Loc) (ls : Array Slot), GP D b M (gh) H → va_S (gA b) s.heap H locs → lv_has ls 7 [(1, .int v1), (2, .long v2), (4, .long v4), (6, .int v6)] → W p l e rm_X2_within s m args below meth c H locs 0 0 Q (F0 m 9 ls []) := by
  obtain ⟨hx, hb, hr, hml, hown, hts, hlocks, hKn, hBs⟩ := id X
  have hK := hKn.1
  intro n
  induction n with
  | zero =>
    intro v4 v6 hf
    cases hf
  | succ n ih =>
    intro v4 v6 hf hk36 H locs ls hG hS hl
    rw [L_X2_within_9.eq_2] at hf
    refine lv_iload hx hb dX2_within_9 (lv_at hl 3 rfl) ?_
    refine lv_iload_n hx hb dX2_within_11 rfl (lv_at hl 0 rfl) ?_
    refine lv_icmp_ge (tgt := 36) hx hb dX2_within_12 (by decide) (fun c12 => ?_) (fun c12 => ?_)
    · have hf := gb_t c12 hf
      exact (hk36 _ hf _ _ _ hG hS (lv_sub hl [2] rfl))
    · have hf := gb_f c12 hf
      refine lv_iload hx hb dX2_within_15 (lv_at hl 3 rfl) ?_
      refine lv_bipush (v := 36) hx hb dX2_within_17 (by decide) ?_
      refine lv_icmp_ge (tgt := 36) hx hb dX2_within_19 (by decide) (fun c19 => ?_) (fun c19 => ?_)
      · have hf := gb_t c19 hf
        exact (hk36 _ hf _ _ _ hG hS (lv_sub hl [2] rfl))
      · have hf := gb_f c19 hf
        refine lv_lload hx hb dX2_within_22 (lv_at hl 2 rfl) ?_
        refine lv_lload_n hx hb dX2_within_24 rfl (lv_at hl 1 rfl) ?_
        obtain ⟨o25, hc25, hf⟩ := gb_b hf
        refine gp_callL (va_runS (As := [.long v4, .long v2]) (rest := []) ⟨hx, hb, hml, hown, hts⟩ (c_X2_spread (l := l) (D := D) (b := b) (cI := cI) (cL := cL) hc25) (va_cwS 2 hts gX2_within_X2_spread rfl rfl rfl (by decide +kernel) ⟨Nat.le_of_ble_eq_true rfl, Nat.le_of_ble_eq_true rfl⟩) (gp_preS hKn hG) rfl rfl hl.1 rfl (lv_room (Nat.le_of_ble_eq_true rfl)) dX2_within_25 ⟨Nat.le_of_ble_eq_true rfl, Nat.le_of_ble_eq_true rfl⟩) hS (fun H locs hG hS => ?_)
        refine lv_lstore (lv' := [(4, .long o25), (1, .int v1), (2, .long v2), (6, .int v6)]) hx hb dX2_within_28 hl (by decide) rfl (fun ls hl => ?_)
        refine lv_iinc (v := v6 + 1) (lv' := [(6, .int (v6 + 1)), (4, .long o25), (1, .int v1), (2, .long v2)]) hx hb dX2_within_30 hl (k := 3) rfl rfl (by decide) rfl (fun ls hl => ?_)
        refine lv_goto (tgt := 9) hx hb dX2_within_33 (by decide) ?_
        exact ih _ _ hf hk36 _ _ _ hG hS (lv_sub hl [2, 3, 1, 0] rfl)
set_option maxHeartbeats 4000000 in
set_option maxRecDepth 100000 in
theorem c_X2_within {v0 : Int32} {v1 : Int32} {v2 : Int64} {R : Int64} (hf : f_X2_within v0 v1 v2 = some R) : Met l yX2_within wsX2_within rm_X2_within (va_Pc [.int v0, .int v1, .long v2] (gPre D b M (gh) (gTy cI cL))) (gQ D b (some (.long R)) M (gh)) 0 0 (gA b) := by
  refine gp_met (cc := cX2_within) (maxL := 7) (ret := (some .long)) (by decide) rfl (Nat.le_of_ble_eq_true rfl) ?_
  intro p e s m below meth c X ls hG hl
  obtain ⟨H, hH0⟩ : ∃ H : Heap, H = s.heap := ⟨_, rfl⟩
  rw [← hH0] at hG ⊢
  have hS : va_S (gA b) s.heap H [] := by rw [hH0]; exact va_S.rf
  obtain ⟨locs, hlo⟩ : ∃ z : List Loc, z = [] := ⟨_, rfl⟩
  rw [← hlo] at hS ⊢
  unfold f_X2_within at hf
  obtain ⟨hx, hb, hr, hml, hown, hts, hlocks, hKn, hBs⟩ := id X
  have hK := hKn.1
  have hl : lv_has ls 7 [(0, .int v0), (1, .int v1), (2, .long v2)] := hl
  refine lv_iload_n hx hb dX2_within_0 rfl (lv_at hl 0 rfl) ?_
  obtain ⟨o1, hc1, hf⟩ := gb_b hf
  refine gp_callL (va_runS (As := [.int v0]) (rest := []) ⟨hx, hb, hml, hown, hts⟩ (c_X2_only (l := l) (D := D) (b := b) (cI := cI) (cL := cL) hc1) (va_cwS 1 hts gX2_within_X2_only rfl rfl rfl (by decide +kernel) ⟨Nat.le_of_ble_eq_true rfl, Nat.le_of_ble_eq_true rfl⟩) (gp_preS hKn hG) rfl rfl hl.1 rfl (lv_room (Nat.le_of_ble_eq_true rfl)) dX2_within_1 ⟨Nat.le_of_ble_eq_true rfl, Nat.le_of_ble_eq_true rfl⟩) hS (fun H locs hG hS => ?_)
  refine lv_lstore (lv' := [(4, .long o1), (0, .int v0), (1, .int v1), (2, .long v2)]) hx hb dX2_within_4 hl (by decide) rfl (fun ls hl => ?_)
  refine lv_iconst (v := 0) hx hb dX2_within_6 (by decide) ?_
  refine lv_istore (lv' := [(6, .int 0), (4, .long o1), (0, .int v0), (1, .int v1), (2, .long v2)]) hx hb dX2_within_7 hl (by decide) rfl (fun ls hl => ?_)
  refine w_X2_within_9 X _ _ _ hf (fun x9_36 hf H locs ls hG hS hl => ?_) _ _ _ hG hS (lv_sub hl [3, 4, 1, 0] rfl)
  · refine lv_lload hx hb dX2_within_36 (lv_at hl 0 rfl) ?_
    have hf := Option.some.inj hf
    subst hf
    exact gp_retL hx hb hr hlocks hG hS (Nat.le_of_ble_eq_true rfl) (Nat.le_of_ble_eq_true rfl) dX2_within_38
end
