section
variable {p : Program} {l : Launch} {e : Env} {s : State} {m : MethodId} {args : Array Value} {below : List Frame} {meth : Method} {c : Code} {D : va_G} {b : GB} {M : Nat} {cI cL : ClassId} {h0 : Nat} {gv : Nat → GV} {gh : Nat → va_E} {Q : State → Prop}
-- X6_add
abbrev rm_X6_add : Room := { frames := 0, cells := 0, slots := 0, locals := 0 }
def f_X6_add (gv : Nat → GV) (h0 : Nat) (v1 : Int32) : Option (Int32 × (Nat → GV)) :=
  (gfI gv h0 [5] 1).bind fun t1 => (if t1 < 0 then some gv else (gfI gv h0 [5] 1).bind fun t8 => (gfR gv h0 [5] 0).bind fun t12 => t12.bind fun q15 => (gal gv q15).bind fun t15 => if t15 ≤ t8 then some gv else (gfR gv h0 [5] 0).bind fun t20 => (gfI gv h0 [5] 1).bind fun t24 => t20.bind fun q28 => (gas gv q28 t24 v1).bind fun g28 => (gfI g28 h0 [5] 1).bind fun t31 => (gpu g28 h0 [5] 1 (.int (t31 + 1))).bind fun g36 => some g36 : Option ((Nat → GV))).bind fun j4 => (gfI j4 h0 [5] 1).bind fun t40 => some (t40, j4)
set_option maxHeartbeats 4000000 in
set_option maxRecDepth 100000 in
theorem c_X6_add {v1 : Int32} {R : Int32 × (Nat → GV)} (hf : f_X6_add gv h0 v1 = some R) : Met l yX6_add wsX6_add rm_X6_add (va_Pc [.ref h0, .int v1] (gPre D b M (gW cI cL gv) (gTy cI cL))) (gQ D b (some (.int R.1)) M (gW cI cL R.2)) 0 0 (gA b) := by
  refine gp_met (cc := cX6_add) (maxL := 2) (ret := (some .int)) (by decide) rfl (Nat.le_of_ble_eq_true rfl) ?_
  intro p e s m below meth c X ls hG hl
  obtain ⟨H, hH0⟩ : ∃ H : Heap, H = s.heap := ⟨_, rfl⟩
  rw [← hH0] at hG ⊢
  have hS : va_S (gA b) s.heap H [] := by rw [hH0]; exact va_S.rf
  obtain ⟨locs, hlo⟩ : ∃ z : List Loc, z = [] := ⟨_, rfl⟩
  rw [← hlo] at hS ⊢
  unfold f_X6_add at hf
  obtain ⟨hx, hb, hr, hml, hown, hts, hlocks, hKn⟩ := id X
  have hK := hKn.1
  have gclX6 : gcl [5] TX6 2 wsX6_add := gcl_1 rfl (fun _ h => List.mem_cons_of_mem _ (List.mem_append_right _ h))
  have hl : lv_has ls 2 [(0, .ref h0), (1, .int v1)] := hl
  refine lv_aload_n hx hb dX6_add_0 rfl (lv_at hl 0 rfl) ?_
  obtain ⟨t1, ht1, hf⟩ := gb_b hf
  refine cp_get (v := .int t1) hx hb hts gclX6 hown hK hG 1 (gfI_s ht1) (by decide) (hts _ (List.mem_of_getElem? (i := 1) rfl)) (fun _ h9 => h9) dX6_add_1 ?_
  obtain ⟨j4, hj4, hf⟩ := gb_b hf
  have hJ4 : ∀ (H : Heap) (locs : List Loc) (ls : Array Slot), GP D b M (gW cI cL j4) H → va_S (gA b) s.heap H locs → lv_has ls 2 [(0, .ref h0)] → W p l e rm_X6_add s m [.ref h0, .int v1].toArray below meth c H locs 0 0 (MQ below (gQ D b (some (.int R.1)) M (gW cI cL R.2)) [.ref h0, .int v1].toArray s 0 0 (gA b)) (F0 m 39 ls []) := by
    intro H locs ls hG hS hl
    refine lv_aload_n hx hb dX6_add_39 rfl (lv_at hl 0 rfl) ?_
    obtain ⟨t40, ht40, hf⟩ := gb_b hf
    refine cp_get (v := .int t40) hx hb hts gclX6 hown hK hG 1 (gfI_s ht40) (by decide) (hts _ (List.mem_of_getElem? (i := 1) rfl)) (fun _ h9 => h9) dX6_add_40 ?_
    cases hf
    exact gp_retI hx hb hr hlocks hG hS (Nat.le_of_ble_eq_true rfl) (Nat.le_of_ble_eq_true rfl) dX6_add_43
  refine lv_if_lt (tgt := 39) hx hb dX6_add_4 (by decide) (fun c4 => ?_) (fun c4 => ?_)
  · have hj4 := gb_t c4 hj4
    have hj4 := Option.some.inj hj4
    subst hj4
    exact (hJ4 H locs ls hG hS (lv_sub hl [0] rfl))
  · have hj4 := gb_f c4 hj4
    refine lv_aload_n hx hb dX6_add_7 rfl (lv_at hl 0 rfl) ?_
    obtain ⟨t8, ht8, hj4⟩ := gb_b hj4
    refine cp_get (v := .int t8) hx hb hts gclX6 hown hK hG 1 (gfI_s ht8) (by decide) (hts _ (List.mem_of_getElem? (i := 1) rfl)) (fun _ h9 => h9) dX6_add_8 ?_
    refine lv_aload_n hx hb dX6_add_11 rfl (lv_at hl 0 rfl) ?_
    obtain ⟨t12, ht12, hj4⟩ := gb_b hj4
    refine cp_get (v := va_rf t12) hx hb hts gclX6 hown hK hG 0 (gfR_s ht12) (by decide) (hts _ (List.mem_of_getElem? (i := 2) rfl)) (fun _ h9 => h9) dX6_add_12 ?_
    obtain ⟨q15, hq15, hj4⟩ := gb_b hj4
    rw [hq15]
    obtain ⟨t15, ht15, hj4⟩ := gb_b hj4
    refine cp_alenI hx hb hK hG ht15 dX6_add_15 ?_
    refine lv_icmp_ge (tgt := 39) hx hb dX6_add_16 (by decide) (fun c16 => ?_) (fun c16 => ?_)
    · have hj4 := gb_t c16 hj4
      have hj4 := Option.some.inj hj4
      subst hj4
      exact (hJ4 H locs ls hG hS (lv_sub hl [0] rfl))
    · have hj4 := gb_f c16 hj4
      refine lv_aload_n hx hb dX6_add_19 rfl (lv_at hl 0 rfl) ?_
      obtain ⟨t20, ht20, hj4⟩ := gb_b hj4
      refine cp_get (v := va_rf t20) hx hb hts gclX6 hown hK hG 0 (gfR_s ht20) (by decide) (hts _ (List.mem_of_getElem? (i := 2) rfl)) (fun _ h9 => h9) dX6_add_20 ?_
      refine lv_aload_n hx hb dX6_add_23 rfl (lv_at hl 0 rfl) ?_
      obtain ⟨t24, ht24, hj4⟩ := gb_b hj4
      refine cp_get (v := .int t24) hx hb hts gclX6 hown hK hG 1 (gfI_s ht24) (by decide) (hts _ (List.mem_of_getElem? (i := 1) rfl)) (fun _ h9 => h9) dX6_add_24 ?_
      refine lv_iload_n hx hb dX6_add_27 rfl (lv_at hl 1 rfl) ?_
      obtain ⟨q28, hq28, hj4⟩ := gb_b hj4
      rw [hq28]
      obtain ⟨g28, ht28, hj4⟩ := gb_b hj4
      refine cp_iast hx hb hK hG hS ht28 dX6_add_28 (fun H locs hG hS => ?_)
      refine lv_aload_n hx hb dX6_add_29 rfl (lv_at hl 0 rfl) ?_
      refine lv_dup hx hb dX6_add_30 rfl ?_
      obtain ⟨t31, ht31, hj4⟩ := gb_b hj4
      refine cp_get (v := .int t31) hx hb hts gclX6 hown hK hG 1 (gfI_s ht31) (by decide) (hts _ (List.mem_of_getElem? (i := 1) rfl)) (fun _ h9 => h9) dX6_add_31 ?_
      refine lv_iconst (v := 1) hx hb dX6_add_34 (by decide) ?_
      refine lv_iadd hx hb dX6_add_35 ?_
      obtain ⟨g36, ht36, hj4⟩ := gb_b hj4
      refine cp_put (tyk := .int) hx hb hts gclX6 tyX6 tyX6_ok nmX6 hown hK hG hS 1 ht36 (by decide) (hts _ (List.mem_of_getElem? (i := 1) rfl)) (fun _ h9 => h9) rfl (by decide +kernel) rfl rfl dX6_add_36 (fun H locs hG hS => ?_)
      have hj4 := Option.some.inj hj4
      subst hj4
      exact (hJ4 H locs ls hG hS (lv_sub hl [0] rfl))
-- X6_at
abbrev rm_X6_at : Room := { frames := 0, cells := 0, slots := 0, locals := 0 }
def f_X6_at (gv : Nat → GV) (h0 : Nat) (v1 : Int32) : Option (Int32) :=
  (if v1 < 0 then some (-9 : Int32) else (gfI gv h0 [5] 1).bind fun t6 => if t6 ≤ v1 then some (-9 : Int32) else (gfR gv h0 [5] 0).bind fun t14 => t14.bind fun q17 => (gal gv q17).bind fun t17 => if t17 ≤ v1 then some (-9 : Int32) else (gfR gv h0 [5] 0).bind fun t22 => t22.bind fun q26 => (gai gv q26 v1).bind fun t26 => some t26 : Option (Int32)).bind fun j1 => some j1
set_option maxHeartbeats 4000000 in
set_option maxRecDepth 100000 in
theorem c_X6_at {v1 : Int32} {R : Int32} (hf : f_X6_at gv h0 v1 = some R) : Met l yX6_at wsX6_at rm_X6_at (va_Pc [.ref h0, .int v1] (gPre D b M (gW cI cL gv) (gTy cI cL))) (gQ D b (some (.int R)) M (gW cI cL gv)) 0 0 (gA b) := by
  refine gp_met (cc := cX6_at) (maxL := 2) (ret := (some .int)) (by decide) rfl (Nat.le_of_ble_eq_true rfl) ?_
  intro p e s m below meth c X ls hG hl
  obtain ⟨H, hH0⟩ : ∃ H : Heap, H = s.heap := ⟨_, rfl⟩
  rw [← hH0] at hG ⊢
  have hS : va_S (gA b) s.heap H [] := by rw [hH0]; exact va_S.rf
  obtain ⟨locs, hlo⟩ : ∃ z : List Loc, z = [] := ⟨_, rfl⟩
  rw [← hlo] at hS ⊢
  unfold f_X6_at at hf
  obtain ⟨hx, hb, hr, hml, hown, hts, hlocks, hKn⟩ := id X
  have hK := hKn.1
  have gclX6 : gcl [5] TX6 2 wsX6_at := gcl_1 rfl (fun _ h => List.mem_cons_of_mem _ (List.mem_append_right _ h))
  have hl : lv_has ls 2 [(0, .ref h0), (1, .int v1)] := hl
  refine lv_iload_n hx hb dX6_at_0 rfl (lv_at hl 1 rfl) ?_
  obtain ⟨j1, hj1, hf⟩ := gb_b hf
  have hJ1 : ∀ (H : Heap) (locs : List Loc) (ls : Array Slot), GP D b M (gW cI cL gv) H → va_S (gA b) s.heap H locs → lv_has ls 2 [] → W p l e rm_X6_at s m [.ref h0, .int v1].toArray below meth c H locs 0 0 (MQ below (gQ D b (some (.int R)) M (gW cI cL gv)) [.ref h0, .int v1].toArray s 0 0 (gA b)) (F0 m 32 ls [.int j1]) := by
    intro H locs ls hG hS hl
    cases hf
    exact gp_retI hx hb hr hlocks hG hS (Nat.le_of_ble_eq_true rfl) (Nat.le_of_ble_eq_true rfl) dX6_at_32
  refine lv_if_lt (tgt := 30) hx hb dX6_at_1 (by decide) (fun c1 => ?_) (fun c1 => ?_)
  · have hj1 := gb_t c1 hj1
    refine lv_bipush (v := (-9 : Int32)) hx hb dX6_at_30 (by decide) ?_
    have hj1 := Option.some.inj hj1
    subst hj1
    exact (hJ1 H locs ls hG hS (lv_sub hl [] rfl))
  · have hj1 := gb_f c1 hj1
    refine lv_iload_n hx hb dX6_at_4 rfl (lv_at hl 1 rfl) ?_
    refine lv_aload_n hx hb dX6_at_5 rfl (lv_at hl 0 rfl) ?_
    obtain ⟨t6, ht6, hj1⟩ := gb_b hj1
    refine cp_get (v := .int t6) hx hb hts gclX6 hown hK hG 1 (gfI_s ht6) (by decide) (hts _ (List.mem_of_getElem? (i := 1) rfl)) (fun _ h9 => h9) dX6_at_6 ?_
    refine lv_icmp_ge (tgt := 30) hx hb dX6_at_9 (by decide) (fun c9 => ?_) (fun c9 => ?_)
    · have hj1 := gb_t c9 hj1
      refine lv_bipush (v := (-9 : Int32)) hx hb dX6_at_30 (by decide) ?_
      have hj1 := Option.some.inj hj1
      subst hj1
      exact (hJ1 H locs ls hG hS (lv_sub hl [] rfl))
    · have hj1 := gb_f c9 hj1
      refine lv_iload_n hx hb dX6_at_12 rfl (lv_at hl 1 rfl) ?_
      refine lv_aload_n hx hb dX6_at_13 rfl (lv_at hl 0 rfl) ?_
      obtain ⟨t14, ht14, hj1⟩ := gb_b hj1
      refine cp_get (v := va_rf t14) hx hb hts gclX6 hown hK hG 0 (gfR_s ht14) (by decide) (hts _ (List.mem_of_getElem? (i := 2) rfl)) (fun _ h9 => h9) dX6_at_14 ?_
      obtain ⟨q17, hq17, hj1⟩ := gb_b hj1
      rw [hq17]
      obtain ⟨t17, ht17, hj1⟩ := gb_b hj1
      refine cp_alenI hx hb hK hG ht17 dX6_at_17 ?_
      refine lv_icmp_ge (tgt := 30) hx hb dX6_at_18 (by decide) (fun c18 => ?_) (fun c18 => ?_)
      · have hj1 := gb_t c18 hj1
        refine lv_bipush (v := (-9 : Int32)) hx hb dX6_at_30 (by decide) ?_
        have hj1 := Option.some.inj hj1
        subst hj1
        exact (hJ1 H locs ls hG hS (lv_sub hl [] rfl))
      · have hj1 := gb_f c18 hj1
        refine lv_aload_n hx hb dX6_at_21 rfl (lv_at hl 0 rfl) ?_
        obtain ⟨t22, ht22, hj1⟩ := gb_b hj1
        refine cp_get (v := va_rf t22) hx hb hts gclX6 hown hK hG 0 (gfR_s ht22) (by decide) (hts _ (List.mem_of_getElem? (i := 2) rfl)) (fun _ h9 => h9) dX6_at_22 ?_
        refine lv_iload_n hx hb dX6_at_25 rfl (lv_at hl 1 rfl) ?_
        obtain ⟨q26, hq26, hj1⟩ := gb_b hj1
        rw [hq26]
        obtain ⟨t26, ht26, hj1⟩ := gb_b hj1
        refine cp_iald hx hb hK hG ht26 dX6_at_26 ?_
        refine lv_goto (tgt := 32) hx hb dX6_at_27 (by decide) ?_
        have hj1 := Option.some.inj hj1
        subst hj1
        exact (hJ1 H locs ls hG hS (lv_sub hl [] rfl))
-- X6_breakLamp
def fv_X5_breakDown (gv : Nat → GV) (a : Nat) : Option ((Nat → GV)) := (gfO gv a gLC).bind fun o => f_X5_breakDown gv a
abbrev rm_X6_breakLamp : Room := { frames := 1, cells := 0, slots := 0, locals := 20 }
def f_X6_breakLamp (gv : Nat → GV) (v0 : Option Nat) : Option (Int32 × (Nat → GV)) :=
  match v0 with | none => some ((-1 : Int32), gv) | some n1 => (fv_X5_breakDown gv n1).bind fun o7 => some (0, o7)
set_option maxHeartbeats 4000000 in
set_option maxRecDepth 100000 in
theorem c_X6_breakLamp {v0 : Option Nat} {R : Int32 × (Nat → GV)} (hf : f_X6_breakLamp gv v0 = some R) : Met l yX6_breakLamp wsX6_breakLamp rm_X6_breakLamp (va_Pc [va_rf v0] (gPre D b M (gW cI cL gv) (gTy cI cL))) (gQ D b (some (.int R.1)) M (gW cI cL R.2)) 0 0 (gA b) := by
  refine gp_met (cc := cX6_breakLamp) (maxL := 1) (ret := (some .int)) (by decide) rfl (by simp [lg_sl, gcat_rf, gcat_ref, gcat_int, gcat_long]) ?_
  intro p e s m below meth c X ls hG hl
  obtain ⟨H, hH0⟩ : ∃ H : Heap, H = s.heap := ⟨_, rfl⟩
  rw [← hH0] at hG ⊢
  have hS : va_S (gA b) s.heap H [] := by rw [hH0]; exact va_S.rf
  obtain ⟨locs, hlo⟩ : ∃ z : List Loc, z = [] := ⟨_, rfl⟩
  rw [← hlo] at hS ⊢
  unfold f_X6_breakLamp at hf
  obtain ⟨hx, hb, hr, hml, hown, hts, hlocks, hKn⟩ := id X
  have hK := hKn.1
  have hl : lv_has ls 1 [(0, va_rf v0)] := by simpa [lv_args, gcat_rf, gcat_ref, gcat_int, gcat_long] using hl
  refine gp_aload_n (x := v0) hx hb dX6_breakLamp_0 rfl (lv_at hl 0 rfl) ?_
  refine gp_ifnonnull (x := v0) (tgt := 6) hx hb dX6_breakLamp_1 (by decide) ?_ ?_
  · intro n1 e1
    rw [e1] at hl
    rw [e1] at hf
    dsimp only at hf
    refine lv_aload_n hx hb dX6_breakLamp_6 rfl (lv_at hl 0 rfl) ?_
    obtain ⟨o7, hc7, hf⟩ := gb_b hf
    have hrun7 : va_Run p l e rm_X6_breakLamp s m [va_rf v0].toArray below meth c H locs 0 0 0 0 (F0 m 7 ls ([].reverse ++ .ref n1 :: [])) [] (gQ D b none M (gW cI cL o7) (Value.ref n1 :: []).toArray) (gA b) := by
      obtain ⟨oc, hcO, hc7⟩ := gb_b hc7
      obtain ⟨hcg, hci⟩ := gfO_s hcO
      obtain ⟨kc, fc⟩ := oc
      dsimp only at hci hcg hc7
      rcases gLC_7 hci with rfl | rfl | rfl | rfl | rfl | rfl | rfl
      · exact va_runU (As := []) (rest := []) ⟨hx, hb, hml, hown, hts⟩ (c_X5_breakDown (l := l) (D := D) (b := b) (cI := cI) (cL := cL) hc7) (va_cwU 0 hts gX6_breakLamp_X5_breakDown_u112X0 rfl rfl rfl rfl (by decide +kernel) ⟨Nat.le_of_ble_eq_true rfl, Nat.le_of_ble_eq_true rfl⟩) (gp_preV hKn hG (cp_obj hcg) rfl) rfl rfl hl.1 rfl (lv_room (Nat.le_of_ble_eq_true rfl)) dX6_breakLamp_7 ⟨Nat.le_of_ble_eq_true rfl, Nat.le_of_ble_eq_true rfl⟩
      · exact va_runU (As := []) (rest := []) ⟨hx, hb, hml, hown, hts⟩ (c_X5_breakDown (l := l) (D := D) (b := b) (cI := cI) (cL := cL) hc7) (va_cwU 0 hts gX6_breakLamp_X5_breakDown_u112X1 rfl rfl rfl rfl (by decide +kernel) ⟨Nat.le_of_ble_eq_true rfl, Nat.le_of_ble_eq_true rfl⟩) (gp_preV hKn hG (cp_obj hcg) rfl) rfl rfl hl.1 rfl (lv_room (Nat.le_of_ble_eq_true rfl)) dX6_breakLamp_7 ⟨Nat.le_of_ble_eq_true rfl, Nat.le_of_ble_eq_true rfl⟩
      · exact va_runU (As := []) (rest := []) ⟨hx, hb, hml, hown, hts⟩ (c_X5_breakDown (l := l) (D := D) (b := b) (cI := cI) (cL := cL) hc7) (va_cwU 0 hts gX6_breakLamp_X5_breakDown_u112X3 rfl rfl rfl rfl (by decide +kernel) ⟨Nat.le_of_ble_eq_true rfl, Nat.le_of_ble_eq_true rfl⟩) (gp_preV hKn hG (cp_obj hcg) rfl) rfl rfl hl.1 rfl (lv_room (Nat.le_of_ble_eq_true rfl)) dX6_breakLamp_7 ⟨Nat.le_of_ble_eq_true rfl, Nat.le_of_ble_eq_true rfl⟩
      · exact va_runU (As := []) (rest := []) ⟨hx, hb, hml, hown, hts⟩ (c_X5_breakDown (l := l) (D := D) (b := b) (cI := cI) (cL := cL) hc7) (va_cwU 0 hts gX6_breakLamp_X5_breakDown_u112X4 rfl rfl rfl rfl (by decide +kernel) ⟨Nat.le_of_ble_eq_true rfl, Nat.le_of_ble_eq_true rfl⟩) (gp_preV hKn hG (cp_obj hcg) rfl) rfl rfl hl.1 rfl (lv_room (Nat.le_of_ble_eq_true rfl)) dX6_breakLamp_7 ⟨Nat.le_of_ble_eq_true rfl, Nat.le_of_ble_eq_true rfl⟩
      · exact va_runV (As := []) (rest := []) ⟨hx, hb, hml, hown, hts⟩ (c_X5_breakDown (l := l) (D := D) (b := b) (cI := cI) (cL := cL) hc7) (cwV 0 hts gX6_breakLamp_X5_breakDown rfl rfl rfl (by decide +kernel) ⟨Nat.le_of_ble_eq_true rfl, Nat.le_of_ble_eq_true rfl⟩) (gp_preV hKn hG (cp_obj hcg) rfl) rfl rfl hl.1 rfl (lv_room (Nat.le_of_ble_eq_true rfl)) dX6_breakLamp_7 ⟨Nat.le_of_ble_eq_true rfl, Nat.le_of_ble_eq_true rfl⟩
      · exact va_runU (As := []) (rest := []) ⟨hx, hb, hml, hown, hts⟩ (c_X5_breakDown (l := l) (D := D) (b := b) (cI := cI) (cL := cL) hc7) (va_cwU 0 hts gX6_breakLamp_X5_breakDown_u112X7 rfl rfl rfl rfl (by decide +kernel) ⟨Nat.le_of_ble_eq_true rfl, Nat.le_of_ble_eq_true rfl⟩) (gp_preV hKn hG (cp_obj hcg) rfl) rfl rfl hl.1 rfl (lv_room (Nat.le_of_ble_eq_true rfl)) dX6_breakLamp_7 ⟨Nat.le_of_ble_eq_true rfl, Nat.le_of_ble_eq_true rfl⟩
      · exact va_runU (As := []) (rest := []) ⟨hx, hb, hml, hown, hts⟩ (c_X5_breakDown (l := l) (D := D) (b := b) (cI := cI) (cL := cL) hc7) (va_cwU 0 hts gX6_breakLamp_X5_breakDown_u112X8 rfl rfl rfl rfl (by decide +kernel) ⟨Nat.le_of_ble_eq_true rfl, Nat.le_of_ble_eq_true rfl⟩) (gp_preV hKn hG (cp_obj hcg) rfl) rfl rfl hl.1 rfl (lv_room (Nat.le_of_ble_eq_true rfl)) dX6_breakLamp_7 ⟨Nat.le_of_ble_eq_true rfl, Nat.le_of_ble_eq_true rfl⟩
    refine gp_callV hrun7 hS (fun H locs hG hS => ?_)
    refine lv_iconst (v := 0) hx hb dX6_breakLamp_10 (by decide) ?_
    cases hf
    exact gp_retI hx hb hr hlocks hG hS (Nat.le_of_ble_eq_true rfl) (Nat.le_of_ble_eq_true rfl) dX6_breakLamp_11
  · intro e1
    rw [e1] at hl
    rw [e1] at hf
    dsimp only at hf
    refine lv_iconst (v := (-1 : Int32)) hx hb dX6_breakLamp_4 (by decide) ?_
    cases hf
    exact gp_retI hx hb hr hlocks hG hS (Nat.le_of_ble_eq_true rfl) (Nat.le_of_ble_eq_true rfl) dX6_breakLamp_5
-- X6_digitAt
abbrev rm_X6_digitAt : Room := { frames := 1, cells := 0, slots := 0, locals := 21 }
def f_X6_digitAt (gv : Nat → GV) (h0 : Nat) (v1 : Int32) : Option (Int32) :=
  ((gfO gv h0 [5]).bind fun _ => f_X6_at gv h0 v1).bind fun o2 => some (o2 - 48)
set_option maxHeartbeats 4000000 in
set_option maxRecDepth 100000 in
theorem c_X6_digitAt {v1 : Int32} {R : Int32} (hf : f_X6_digitAt gv h0 v1 = some R) : Met l yX6_digitAt wsX6_digitAt rm_X6_digitAt (va_Pc [.ref h0, .int v1] (gPre D b M (gW cI cL gv) (gTy cI cL))) (gQ D b (some (.int R)) M (gW cI cL gv)) 0 0 (gA b) := by
  refine gp_met (cc := cX6_digitAt) (maxL := 2) (ret := (some .int)) (by decide) rfl (Nat.le_of_ble_eq_true rfl) ?_
  intro p e s m below meth c X ls hG hl
  obtain ⟨H, hH0⟩ : ∃ H : Heap, H = s.heap := ⟨_, rfl⟩
  rw [← hH0] at hG ⊢
  have hS : va_S (gA b) s.heap H [] := by rw [hH0]; exact va_S.rf
  obtain ⟨locs, hlo⟩ : ∃ z : List Loc, z = [] := ⟨_, rfl⟩
  rw [← hlo] at hS ⊢
  unfold f_X6_digitAt at hf
  obtain ⟨hx, hb, hr, hml, hown, hts, hlocks, hKn⟩ := id X
  have hK := hKn.1
  have hl : lv_has ls 2 [(0, .ref h0), (1, .int v1)] := hl
  refine lv_aload_n hx hb dX6_digitAt_0 rfl (lv_at hl 0 rfl) ?_
  refine lv_iload_n hx hb dX6_digitAt_1 rfl (lv_at hl 1 rfl) ?_
  obtain ⟨o2, hc2, hf⟩ := gb_b hf
  obtain ⟨oc2, hcO2, hc2⟩ := gb_b hc2
  obtain ⟨hcg2, hci2⟩ := gfO_s hcO2
  have hci2 := List.mem_singleton.mp hci2
  obtain ⟨kc2, fc2⟩ := oc2
  dsimp only at hci2 hcg2
  subst hci2
  refine gp_callI (va_runV (As := [.int v1]) (rest := []) ⟨hx, hb, hml, hown, hts⟩ (c_X6_at (l := l) (D := D) (b := b) (cI := cI) (cL := cL) hc2) (cwV 1 hts gX6_digitAt_X6_at rfl rfl rfl (by decide +kernel) ⟨Nat.le_of_ble_eq_true rfl, Nat.le_of_ble_eq_true rfl⟩) (gp_preV hKn hG (cp_obj hcg2) rfl) rfl rfl hl.1 rfl (lv_room (Nat.le_of_ble_eq_true rfl)) dX6_digitAt_2 ⟨Nat.le_of_ble_eq_true rfl, Nat.le_of_ble_eq_true rfl⟩) hS (fun H locs hG hS => ?_)
  refine lv_bipush (v := 48) hx hb dX6_digitAt_5 (by decide) ?_
  refine lv_isub hx hb dX6_digitAt_7 ?_
  cases hf
  exact gp_retI hx hb hr hlocks hG hS (Nat.le_of_ble_eq_true rfl) (Nat.le_of_ble_eq_true rfl) dX6_digitAt_8
-- X6_cellAt
abbrev rm_X6_cellAt : Room := { frames := 2, cells := 0, slots := 0, locals := 42 }
def f_X6_cellAt (gv : Nat → GV) (h0 : Nat) (v1 : Int32) : Option (Int32) :=
  ((gfO gv h0 [5]).bind fun _ => f_X6_digitAt gv h0 v1).bind fun o2 => ((gfO gv h0 [5]).bind fun _ => f_X6_digitAt gv h0 (v1 + 1)).bind fun o12 => some ((o2 * 10) + o12)
set_option maxHeartbeats 4000000 in
set_option maxRecDepth 100000 in
theorem c_X6_cellAt {v1 : Int32} {R : Int32} (hf : f_X6_cellAt gv h0 v1 = some R) : Met l yX6_cellAt wsX6_cellAt rm_X6_cellAt (va_Pc [.ref h0, .int v1] (gPre D b M (gW cI cL gv) (gTy cI cL))) (gQ D b (some (.int R)) M (gW cI cL gv)) 0 0 (gA b) := by
  refine gp_met (cc := cX6_cellAt) (maxL := 2) (ret := (some .int)) (by decide) rfl (Nat.le_of_ble_eq_true rfl) ?_
  intro p e s m below meth c X ls hG hl
  obtain ⟨H, hH0⟩ : ∃ H : Heap, H = s.heap := ⟨_, rfl⟩
  rw [← hH0] at hG ⊢
  have hS : va_S (gA b) s.heap H [] := by rw [hH0]; exact va_S.rf
  obtain ⟨locs, hlo⟩ : ∃ z : List Loc, z = [] := ⟨_, rfl⟩
  rw [← hlo] at hS ⊢
  unfold f_X6_cellAt at hf
  obtain ⟨hx, hb, hr, hml, hown, hts, hlocks, hKn⟩ := id X
  have hK := hKn.1
  have hl : lv_has ls 2 [(0, .ref h0), (1, .int v1)] := hl
  refine lv_aload_n hx hb dX6_cellAt_0 rfl (lv_at hl 0 rfl) ?_
  refine lv_iload_n hx hb dX6_cellAt_1 rfl (lv_at hl 1 rfl) ?_
  obtain ⟨o2, hc2, hf⟩ := gb_b hf
  obtain ⟨oc2, hcO2, hc2⟩ := gb_b hc2
  obtain ⟨hcg2, hci2⟩ := gfO_s hcO2
  have hci2 := List.mem_singleton.mp hci2
  obtain ⟨kc2, fc2⟩ := oc2
  dsimp only at hci2 hcg2
  subst hci2
  refine gp_callI (va_runV (As := [.int v1]) (rest := []) ⟨hx, hb, hml, hown, hts⟩ (c_X6_digitAt (l := l) (D := D) (b := b) (cI := cI) (cL := cL) hc2) (cwV 1 hts gX6_cellAt_X6_digitAt rfl rfl rfl (by decide +kernel) ⟨Nat.le_of_ble_eq_true rfl, Nat.le_of_ble_eq_true rfl⟩) (gp_preV hKn hG (cp_obj hcg2) rfl) rfl rfl hl.1 rfl (lv_room (Nat.le_of_ble_eq_true rfl)) dX6_cellAt_2 ⟨Nat.le_of_ble_eq_true rfl, Nat.le_of_ble_eq_true rfl⟩) hS (fun H locs hG hS => ?_)
  refine lv_bipush (v := 10) hx hb dX6_cellAt_5 (by decide) ?_
  refine lv_imul hx hb dX6_cellAt_7 ?_
  refine lv_aload_n hx hb dX6_cellAt_8 rfl (lv_at hl 0 rfl) ?_
  refine lv_iload_n hx hb dX6_cellAt_9 rfl (lv_at hl 1 rfl) ?_
  refine lv_iconst (v := 1) hx hb dX6_cellAt_10 (by decide) ?_
  refine lv_iadd hx hb dX6_cellAt_11 ?_
  obtain ⟨o12, hc12, hf⟩ := gb_b hf
  obtain ⟨oc12, hcO12, hc12⟩ := gb_b hc12
  obtain ⟨hcg12, hci12⟩ := gfO_s hcO12
  have hci12 := List.mem_singleton.mp hci12
  obtain ⟨kc12, fc12⟩ := oc12
  dsimp only at hci12 hcg12
  subst hci12
  refine gp_callI (va_runV (As := [.int (v1 + 1)]) (rest := [.int (o2 * 10)]) ⟨hx, hb, hml, hown, hts⟩ (c_X6_digitAt (l := l) (D := D) (b := b) (cI := cI) (cL := cL) hc12) (cwV 1 hts gX6_cellAt_X6_digitAt rfl rfl rfl (by decide +kernel) ⟨Nat.le_of_ble_eq_true rfl, Nat.le_of_ble_eq_true rfl⟩) (gp_preV hKn hG (cp_obj hcg12) rfl) rfl rfl hl.1 rfl (lv_room (Nat.le_of_ble_eq_true rfl)) dX6_cellAt_12 ⟨Nat.le_of_ble_eq_true rfl, Nat.le_of_ble_eq_true rfl⟩) hS (fun H locs hG hS => ?_)
  refine lv_iadd hx hb dX6_cellAt_15 ?_
  cases hf
  exact gp_retI hx hb hr hlocks hG hS (Nat.le_of_ble_eq_true rfl) (Nat.le_of_ble_eq_true rfl) dX6_cellAt_16
-- X6_clear
abbrev rm_X6_clear : Room := { frames := 0, cells := 0, slots := 0, locals := 0 }
def f_X6_clear (gv : Nat → GV) (h0 : Nat) : Option ((Nat → GV)) :=
  (gpu gv h0 [5] 1 (.int 0)).bind fun g2 => some g2
set_option maxHeartbeats 4000000 in
set_option maxRecDepth 100000 in
theorem c_X6_clear {R : (Nat → GV)} (hf : f_X6_clear gv h0 = some R) : Met l yX6_clear wsX6_clear rm_X6_clear (va_Pc [.ref h0] (gPre D b M (gW cI cL gv) (gTy cI cL))) (gQ D b none M (gW cI cL R)) 0 0 (gA b) := by
  refine gp_met (cc := cX6_clear) (maxL := 1) (ret := none) (by decide) rfl (Nat.le_of_ble_eq_true rfl) ?_
  intro p e s m below meth c X ls hG hl
  obtain ⟨H, hH0⟩ : ∃ H : Heap, H = s.heap := ⟨_, rfl⟩
  rw [← hH0] at hG ⊢
  have hS : va_S (gA b) s.heap H [] := by rw [hH0]; exact va_S.rf
  obtain ⟨locs, hlo⟩ : ∃ z : List Loc, z = [] := ⟨_, rfl⟩
  rw [← hlo] at hS ⊢
  unfold f_X6_clear at hf
  obtain ⟨hx, hb, hr, hml, hown, hts, hlocks, hKn⟩ := id X
  have hK := hKn.1
  have gclX6 : gcl [5] TX6 2 wsX6_clear := gcl_1 rfl (fun _ h => List.mem_cons_of_mem _ (List.mem_append_right _ h))
  have hl : lv_has ls 1 [(0, .ref h0)] := hl
  refine lv_aload_n hx hb dX6_clear_0 rfl (lv_at hl 0 rfl) ?_
  refine lv_iconst (v := 0) hx hb dX6_clear_1 (by decide) ?_
  obtain ⟨g2, ht2, hf⟩ := gb_b hf
  refine cp_put (tyk := .int) hx hb hts gclX6 tyX6 tyX6_ok nmX6 hown hK hG hS 1 ht2 (by decide) (hts _ (List.mem_of_getElem? (i := 1) rfl)) (fun _ h9 => h9) rfl (by decide +kernel) rfl rfl dX6_clear_2 (fun H locs hG hS => ?_)
  cases hf
  exact gp_retV hx hb hr hlocks hG hS (Nat.le_of_ble_eq_true rfl) (Nat.le_of_ble_eq_true rfl) dX6_clear_5
-- X6_formAfter
abbrev rm_X6_formAfter : Room := { frames := 0, cells := 0, slots := 0, locals := 0 }
def f_X6_formAfter (v0 : Int32) : Option (Nat) :=
  if v0 = 98 then some 3 else if v0 = 103 then some 1 else if v0 = 108 then some 0 else if v0 = 112 then some 2 else if v0 = 115 then some 3 else if v0 = 119 then some 2 else some 4
set_option maxHeartbeats 4000000 in
set_option maxRecDepth 100000 in
theorem c_X6_formAfter {v0 : Int32} {R : Nat} (hf : f_X6_formAfter v0 = some R) : Met l yX6_formAfter wsX6_formAfter rm_X6_formAfter (va_Pc [.int v0] (gPre D b M (gh) (gTy cI cL))) (gQ D b (some (.ref (b.2.2.1 R))) M (gh)) 0 0 (gA b) := by
  refine gp_met (cc := cX6_formAfter) (maxL := 1) (ret := (some (.object "java/lang/String"))) (by decide) rfl (Nat.le_of_ble_eq_true rfl) ?_
  intro p e s m below meth c X ls hG hl
  obtain ⟨H, hH0⟩ : ∃ H : Heap, H = s.heap := ⟨_, rfl⟩
  rw [← hH0] at hG ⊢
  have hS : va_S (gA b) s.heap H [] := by rw [hH0]; exact va_S.rf
  obtain ⟨locs, hlo⟩ : ∃ z : List Loc, z = [] := ⟨_, rfl⟩
  rw [← hlo] at hS ⊢
  unfold f_X6_formAfter at hf
  obtain ⟨hx, hb, hr, hml, hown, hts, hlocks, hKn⟩ := id X
  have hK := hKn.1
  have hl : lv_has ls 1 [(0, .int v0)] := hl
  refine lv_iload_n hx hb dX6_formAfter_0 rfl (lv_at hl 0 rfl) ?_
  by_cases c1_98 : v0 = 98
  · have hf := gb_t c1_98 hf
    refine lv_lookup (tgt := 69) (off := 68) hx hb dX6_formAfter_1 (by decide) (by rw [c1_98]; decide) (by decide) ?_
    refine va_ldcS hx hb hown (hKn.2.2.2.2.2.1 3 (by decide)) dX6_formAfter_69 ?_
    cases hf
    exact gp_retS hx hb hr hlocks hG hS (Nat.le_of_ble_eq_true rfl) (Nat.le_of_ble_eq_true rfl) dX6_formAfter_71
  · have hf := gb_f c1_98 hf
    by_cases c1_103 : v0 = 103
    · have hf := gb_t c1_103 hf
      refine lv_lookup (tgt := 63) (off := 62) hx hb dX6_formAfter_1 (by decide) (by rw [c1_103]; decide) (by decide) ?_
      refine va_ldcS hx hb hown (hKn.2.2.2.2.2.1 1 (by decide)) dX6_formAfter_63 ?_
      cases hf
      exact gp_retS hx hb hr hlocks hG hS (Nat.le_of_ble_eq_true rfl) (Nat.le_of_ble_eq_true rfl) dX6_formAfter_65
    · have hf := gb_f c1_103 hf
      by_cases c1_108 : v0 = 108
      · have hf := gb_t c1_108 hf
        refine lv_lookup (tgt := 60) (off := 59) hx hb dX6_formAfter_1 (by decide) (by rw [c1_108]; decide) (by decide) ?_
        refine va_ldcS hx hb hown (hKn.2.2.2.2.2.1 0 (by decide)) dX6_formAfter_60 ?_
        cases hf
        exact gp_retS hx hb hr hlocks hG hS (Nat.le_of_ble_eq_true rfl) (Nat.le_of_ble_eq_true rfl) dX6_formAfter_62
      · have hf := gb_f c1_108 hf
        by_cases c1_112 : v0 = 112
        · have hf := gb_t c1_112 hf
          refine lv_lookup (tgt := 66) (off := 65) hx hb dX6_formAfter_1 (by decide) (by rw [c1_112]; decide) (by decide) ?_
          refine va_ldcS hx hb hown (hKn.2.2.2.2.2.1 2 (by decide)) dX6_formAfter_66 ?_
          cases hf
          exact gp_retS hx hb hr hlocks hG hS (Nat.le_of_ble_eq_true rfl) (Nat.le_of_ble_eq_true rfl) dX6_formAfter_68
        · have hf := gb_f c1_112 hf
          by_cases c1_115 : v0 = 115
          · have hf := gb_t c1_115 hf
            refine lv_lookup (tgt := 69) (off := 68) hx hb dX6_formAfter_1 (by decide) (by rw [c1_115]; decide) (by decide) ?_
            refine va_ldcS hx hb hown (hKn.2.2.2.2.2.1 3 (by decide)) dX6_formAfter_69 ?_
            cases hf
            exact gp_retS hx hb hr hlocks hG hS (Nat.le_of_ble_eq_true rfl) (Nat.le_of_ble_eq_true rfl) dX6_formAfter_71
          · have hf := gb_f c1_115 hf
            by_cases c1_119 : v0 = 119
            · have hf := gb_t c1_119 hf
              refine lv_lookup (tgt := 66) (off := 65) hx hb dX6_formAfter_1 (by decide) (by rw [c1_119]; decide) (by decide) ?_
              refine va_ldcS hx hb hown (hKn.2.2.2.2.2.1 2 (by decide)) dX6_formAfter_66 ?_
              cases hf
              exact gp_retS hx hb hr hlocks hG hS (Nat.le_of_ble_eq_true rfl) (Nat.le_of_ble_eq_true rfl) dX6_formAfter_68
            · have hf := gb_f c1_119 hf
              refine lv_lookup (tgt := 72) (off := 71) hx hb dX6_formAfter_1 (by decide) (by show Op.lookupswitch.offset [(98, 68), (103, 62), (108, 59), (112, 65), (115, 68), (119, 65)] _ _ = _; rw [lv_osw (k := 98) (a := 98) c1_98 rfl]; rw [lv_osw (k := 103) (a := 103) c1_103 rfl]; rw [lv_osw (k := 108) (a := 108) c1_108 rfl]; rw [lv_osw (k := 112) (a := 112) c1_112 rfl]; rw [lv_osw (k := 115) (a := 115) c1_115 rfl]; rw [lv_osw (k := 119) (a := 119) c1_119 rfl]; rfl) (by decide) ?_
              refine va_ldcS hx hb hown (hKn.2.2.2.2.2.1 4 (by decide)) dX6_formAfter_72 ?_
              cases hf
              exact gp_retS hx hb hr hlocks hG hS (Nat.le_of_ble_eq_true rfl) (Nat.le_of_ble_eq_true rfl) dX6_formAfter_74
-- X6_init
abbrev rm_X6_init : Room := { frames := 1, cells := 1, slots := 96, locals := 28 }
def f_X6_init (gv : Nat → GV) (M : Nat) (h0 : Nat) : Option ((Nat → GV) × Nat) :=
  (gpu (va_up gv M (.inr (.inl (96, fun _ => 0)))) h0 [5] 0 (.ref M)).bind fun g9 => some (g9, M + 1)
set_option maxHeartbeats 4000000 in
set_option maxRecDepth 100000 in
theorem c_X6_init {R : (Nat → GV) × Nat} (hf : f_X6_init gv M h0 = some R) : Met l yX6_init wsX6_init rm_X6_init (va_Pc [.ref h0] (gPre D b M (gW cI cL gv) (gTy cI cL))) (gQ D b none R.2 (gW cI cL R.1)) 1 96 (gA b) := by
  refine gp_metI (cc := cX6_init) (maxL := 1) (ret := none) (by decide) rfl (Nat.le_of_ble_eq_true rfl) ?_
  intro p e s m below meth c X hin0 ls hG hl
  obtain ⟨H, hH0⟩ : ∃ H : Heap, H = s.heap := ⟨_, rfl⟩
  rw [← hH0] at hG ⊢
  have hS : va_S (gA b) s.heap H [] := by rw [hH0]; exact va_S.rf
  obtain ⟨locs, hlo⟩ : ∃ z : List Loc, z = [] := ⟨_, rfl⟩
  rw [← hlo] at hS ⊢
  unfold f_X6_init at hf
  obtain ⟨hx, hb, hr, hml, hown, hts, hlocks, hKn⟩ := id X
  have hK := hKn.1
  have gclX6 : gcl [5] TX6 2 wsX6_init := gcl_1 rfl (fun _ h => List.mem_cons_of_mem _ (List.mem_append_right _ h))
  have hl : lv_has ls 1 [(0, .ref h0)] := hl
  refine lv_aload_n hx hb dX6_init_0 rfl (lv_at hl 0 rfl) ?_
  refine W.objInit hx hb hown (hts _ (List.mem_of_getElem? (i := 1) rfl)) (hts _ (List.mem_of_getElem? (i := 2) rfl)) (hts _ (List.mem_of_getElem? (i := 3) rfl)) rfl (by rw [hml]; exact hl.1) rfl dX6_init_1 (Nat.le_of_ble_eq_true rfl) (Nat.le_of_ble_eq_true rfl) ?_
  refine W.eq (g2 := F0 m 4 ls []) rfl ?_
  refine lv_aload_n hx hb dX6_init_4 rfl (lv_at hl 0 rfl) ?_
  refine lv_bipush (v := 96) hx hb dX6_init_5 (by decide) ?_
  refine gp_newa (N' := 96) (g1 := gW cI cL (va_up gv M (.inr (.inl (96, fun _ => 0))))) hx hb (hts _ (List.mem_of_getElem? (i := 4) rfl)) hK hG hS (by decide) (by decide) (by decide) (Nat.le_of_ble_eq_true rfl) (Nat.le_of_ble_eq_true rfl) (gW_up (e := .inr (.inl (96, fun _ => 0)))) dX6_init_7 (fun H hG hS => ?_)
  obtain ⟨g9, ht9, hf⟩ := gb_b hf
  refine cp_putF (tyk := .array .int) hx hb hts gclX6 tyX6 tyX6_ok nmX6 hown hK hG hS 0 ht9 (by decide) (hts _ (List.mem_of_getElem? (i := 5) rfl)) (fun _ h9 => h9) rfl hin0 rfl (by decide +kernel) rfl rfl dX6_init_9 (fun H locs hG hS => ?_)
  cases hf
  exact gp_retV hx hb hr hlocks hG hS (Nat.le_of_ble_eq_true rfl) (Nat.le_of_ble_eq_true rfl) dX6_init_12
-- X6_isFull
abbrev rm_X6_isFull : Room := { frames := 0, cells := 0, slots := 0, locals := 0 }
def f_X6_isFull (gv : Nat → GV) (h0 : Nat) : Option (Int32) :=
  (gfI gv h0 [5] 1).bind fun t1 => (gfR gv h0 [5] 0).bind fun t5 => t5.bind fun q8 => (gal gv q8).bind fun t8 => gzb (if t1 < t8 then 0 else 1) (some (if t1 < t8 then 0 else 1))
set_option maxHeartbeats 4000000 in
set_option maxRecDepth 100000 in
theorem c_X6_isFull {R : Int32} (hf : f_X6_isFull gv h0 = some R) : Met l yX6_isFull wsX6_isFull rm_X6_isFull (va_Pc [.ref h0] (gPre D b M (gW cI cL gv) (gTy cI cL))) (gQ D b (some (.int R)) M (gW cI cL gv)) 0 0 (gA b) := by
  refine gp_met (cc := cX6_isFull) (maxL := 1) (ret := (some .boolean)) (by decide) rfl (Nat.le_of_ble_eq_true rfl) ?_
  intro p e s m below meth c X ls hG hl
  obtain ⟨H, hH0⟩ : ∃ H : Heap, H = s.heap := ⟨_, rfl⟩
  rw [← hH0] at hG ⊢
  have hS : va_S (gA b) s.heap H [] := by rw [hH0]; exact va_S.rf
  obtain ⟨locs, hlo⟩ : ∃ z : List Loc, z = [] := ⟨_, rfl⟩
  rw [← hlo] at hS ⊢
  unfold f_X6_isFull at hf
  obtain ⟨hx, hb, hr, hml, hown, hts, hlocks, hKn⟩ := id X
  have hK := hKn.1
  have gclX6 : gcl [5] TX6 2 wsX6_isFull := gcl_1 rfl (fun _ h => List.mem_cons_of_mem _ (List.mem_append_right _ h))
  have hl : lv_has ls 1 [(0, .ref h0)] := hl
  refine lv_aload_n hx hb dX6_isFull_0 rfl (lv_at hl 0 rfl) ?_
  obtain ⟨t1, ht1, hf⟩ := gb_b hf
  refine cp_get (v := .int t1) hx hb hts gclX6 hown hK hG 1 (gfI_s ht1) (by decide) (hts _ (List.mem_of_getElem? (i := 1) rfl)) (fun _ h9 => h9) dX6_isFull_1 ?_
  refine lv_aload_n hx hb dX6_isFull_4 rfl (lv_at hl 0 rfl) ?_
  obtain ⟨t5, ht5, hf⟩ := gb_b hf
  refine cp_get (v := va_rf t5) hx hb hts gclX6 hown hK hG 0 (gfR_s ht5) (by decide) (hts _ (List.mem_of_getElem? (i := 2) rfl)) (fun _ h9 => h9) dX6_isFull_5 ?_
  obtain ⟨q8, hq8, hf⟩ := gb_b hf
  rw [hq8]
  obtain ⟨t8, ht8, hf⟩ := gb_b hf
  refine cp_alenI hx hb hK hG ht8 dX6_isFull_8 ?_
  have hJ9 : ∀ Z : Int32, Z = (if t1 < t8 then 0 else 1) → W p l e rm_X6_isFull s m [.ref h0].toArray below meth c H locs 0 0 (MQ below (gQ D b (some (.int R)) M (gW cI cL gv)) [.ref h0].toArray s 0 0 (gA b)) (F0 m 17 ls (.int Z :: [])) := by
    intro Z hZ
    subst hZ
    obtain ⟨z17, hf⟩ := gb_zb hf
    cases hf
    exact gp_retZ hx hb hr z17 hlocks hG hS (Nat.le_of_ble_eq_true rfl) (Nat.le_of_ble_eq_true rfl) dX6_isFull_17
  refine lv_icmp_lt (tgt := 16) hx hb dX6_isFull_9 (by decide) (fun c9 => ?_) (fun c9 => ?_)
  · rw [if_pos c9] at hJ9
    refine lv_iconst (v := 0) hx hb dX6_isFull_16 (by decide) ?_
    exact hJ9 _ rfl
  · rw [if_neg c9] at hJ9
    refine lv_iconst (v := 1) hx hb dX6_isFull_12 (by decide) ?_
    refine lv_goto (tgt := 17) hx hb dX6_isFull_13 (by decide) ?_
    exact hJ9 _ rfl
-- X10_addLamp
abbrev rm_X10_addLamp : Room := { frames := 5, cells := 2, slots := 14, locals := 108 }
def f_X10_addLamp (gv : Nat → GV) (M : Nat) (h0 : Nat) (v1 : Int32) (v2 : Int32) (v3 : Int32) : Option (Int32 × (Nat → GV) × Nat) :=
  (f_X2_isOne v2).bind fun o1 => if o1 = 0 then some ((-1 : Int32), gv, M) else if v3 < 0 then some ((-1 : Int32), gv, M) else if v3 ≤ 5 then (gfI gv h0 [8] 3).bind fun t19 => if t19 < 0 then some ((-6 : Int32), gv, M) else (gfI gv h0 [8] 3).bind fun t26 => (gfR gv h0 [8] 0).bind fun t30 => t30.bind fun q33 => (garl gv q33).bind fun t33 => if t26 < t33 then (f_X5_ofKind gv M v1).bind fun o41 => o41.1.bind fun q49 => (gpu o41.2.1 q49 gLC 0 (.int v2)).bind fun g49 => (gpu g49 q49 gLC 1 (.int v3)).bind fun g55 => (gfR g55 h0 [8] 0).bind fun t59 => (gfI g55 h0 [8] 3).bind fun t63 => t59.bind fun q68 => (gars g55 q68 t63 (some q49)).bind fun g68 => (gfI g68 h0 [8] 3).bind fun t71 => (gpu g68 h0 [8] 3 (.int (t71 + 1))).bind fun g76 => (gfI g76 h0 [8] 3).bind fun t80 => some (t80 - 1, g76, o41.2.2) else some ((-6 : Int32), gv, M) else some ((-1 : Int32), gv, M)
set_option maxHeartbeats 4000000 in
set_option maxRecDepth 100000 in
theorem c_X10_addLamp {v1 : Int32} {v2 : Int32} {v3 : Int32} {R : Int32 × (Nat → GV) × Nat} (hf : f_X10_addLamp gv M h0 v1 v2 v3 = some R) : Met l yX10_addLamp wsX10_addLamp rm_X10_addLamp (va_Pc [.ref h0, .int v1, .int v2, .int v3] (gPre D b M (gW cI cL gv) (gTy cI cL))) (gQ D b (some (.int R.1)) R.2.2 (gW cI cL R.2.1)) 2 14 (gA b) := by
  refine gp_met (cc := cX10_addLamp) (maxL := 5) (ret := (some .int)) (by decide) rfl (Nat.le_of_ble_eq_true rfl) ?_
  intro p e s m below meth c X ls hG hl
  obtain ⟨H, hH0⟩ : ∃ H : Heap, H = s.heap := ⟨_, rfl⟩
  rw [← hH0] at hG ⊢
  have hS : va_S (gA b) s.heap H [] := by rw [hH0]; exact va_S.rf
  obtain ⟨locs, hlo⟩ : ∃ z : List Loc, z = [] := ⟨_, rfl⟩
  rw [← hlo] at hS ⊢
  unfold f_X10_addLamp at hf
  obtain ⟨hx, hb, hr, hml, hown, hts, hlocks, hKn⟩ := id X
  have hK := hKn.1
  have gclL : gcl gLC TX5 5 wsX10_addLamp := gcl_L (fun _ h => List.mem_cons_of_mem _ (List.mem_append_left _ (List.mem_append_left _ (List.mem_append_left _ (List.mem_append_left _ (List.mem_append_left _ (List.mem_append_left _ (List.mem_append_right _ h)))))))) (fun _ h => List.mem_cons_of_mem _ (List.mem_append_left _ (List.mem_append_left _ (List.mem_append_left _ (List.mem_append_left _ (List.mem_append_left _ (List.mem_append_right _ h))))))) (fun _ h => List.mem_cons_of_mem _ (List.mem_append_left _ (List.mem_append_left _ (List.mem_append_left _ (List.mem_append_left _ (List.mem_append_right _ h)))))) (fun _ h => List.mem_cons_of_mem _ (List.mem_append_left _ (List.mem_append_left _ (List.mem_append_left _ (List.mem_append_right _ h))))) (fun _ h => List.mem_cons_of_mem _ (List.mem_append_left _ (List.mem_append_left _ (List.mem_append_right _ h)))) (fun _ h => List.mem_cons_of_mem _ (List.mem_append_left _ (List.mem_append_right _ h))) (fun _ h => List.mem_cons_of_mem _ (List.mem_append_right _ h))
  have gclX10 : gcl [8] TX10 6 wsX10_addLamp := gcl_1 rfl (fun _ h => List.mem_cons_of_mem _ (List.mem_append_left _ (List.mem_append_left _ (List.mem_append_left _ (List.mem_append_left _ (List.mem_append_left _ (List.mem_append_left _ (List.mem_append_left _ (List.mem_append_right _ h)))))))))
  have hl : lv_has ls 5 [(0, .ref h0), (1, .int v1), (2, .int v2), (3, .int v3)] := hl
  refine lv_iload_n hx hb dX10_addLamp_0 rfl (lv_at hl 2 rfl) ?_
  obtain ⟨o1, hc1, hf⟩ := gb_b hf
  refine gp_callI (va_runS (As := [.int v2]) (rest := []) ⟨hx, hb, hml, hown, hts⟩ (c_X2_isOne (l := l) (D := D) (b := b) (cI := cI) (cL := cL) hc1) (va_cwS 1 hts gX10_addLamp_X2_isOne rfl rfl rfl (by decide +kernel) ⟨Nat.le_of_ble_eq_true rfl, Nat.le_of_ble_eq_true rfl⟩) (gp_preS hKn hG) rfl rfl hl.1 rfl (lv_room (Nat.le_of_ble_eq_true rfl)) dX10_addLamp_1 ⟨Nat.le_of_ble_eq_true rfl, Nat.le_of_ble_eq_true rfl⟩) hS (fun H locs hG hS => ?_)
  refine lv_if_eq (tgt := 16) hx hb dX10_addLamp_4 (by decide) (fun c4 => ?_) (fun c4 => ?_)
  · have hf := gb_t c4 hf
    refine lv_iconst (v := (-1 : Int32)) hx hb dX10_addLamp_16 (by decide) ?_
    cases hf
    exact gp_retI hx hb hr hlocks hG hS (Nat.le_of_ble_eq_true rfl) (Nat.le_of_ble_eq_true rfl) dX10_addLamp_17
  · have hf := gb_f c4 hf
    refine lv_iload_n hx hb dX10_addLamp_7 rfl (lv_at hl 3 rfl) ?_
    refine lv_if_lt (tgt := 16) hx hb dX10_addLamp_8 (by decide) (fun c8 => ?_) (fun c8 => ?_)
    · have hf := gb_t c8 hf
      refine lv_iconst (v := (-1 : Int32)) hx hb dX10_addLamp_16 (by decide) ?_
      cases hf
      exact gp_retI hx hb hr hlocks hG hS (Nat.le_of_ble_eq_true rfl) (Nat.le_of_ble_eq_true rfl) dX10_addLamp_17
    · have hf := gb_f c8 hf
      refine lv_iload_n hx hb dX10_addLamp_11 rfl (lv_at hl 3 rfl) ?_
      refine lv_iconst (v := 5) hx hb dX10_addLamp_12 (by decide) ?_
      refine lv_icmp_le (tgt := 18) hx hb dX10_addLamp_13 (by decide) (fun c13 => ?_) (fun c13 => ?_)
      · have hf := gb_t c13 hf
        refine lv_aload_n hx hb dX10_addLamp_18 rfl (lv_at hl 0 rfl) ?_
        obtain ⟨t19, ht19, hf⟩ := gb_b hf
        refine cp_get (v := .int t19) hx hb hts gclX10 hown hK hG 3 (gfI_s ht19) (by decide) (hts _ (List.mem_of_getElem? (i := 1) rfl)) (fun _ h9 => h9) dX10_addLamp_19 ?_
        refine lv_if_lt (tgt := 37) hx hb dX10_addLamp_22 (by decide) (fun c22 => ?_) (fun c22 => ?_)
        · have hf := gb_t c22 hf
          refine lv_bipush (v := (-6 : Int32)) hx hb dX10_addLamp_37 (by decide) ?_
          cases hf
          exact gp_retI hx hb hr hlocks hG hS (Nat.le_of_ble_eq_true rfl) (Nat.le_of_ble_eq_true rfl) dX10_addLamp_39
        · have hf := gb_f c22 hf
          refine lv_aload_n hx hb dX10_addLamp_25 rfl (lv_at hl 0 rfl) ?_
          obtain ⟨t26, ht26, hf⟩ := gb_b hf
          refine cp_get (v := .int t26) hx hb hts gclX10 hown hK hG 3 (gfI_s ht26) (by decide) (hts _ (List.mem_of_getElem? (i := 1) rfl)) (fun _ h9 => h9) dX10_addLamp_26 ?_
          refine lv_aload_n hx hb dX10_addLamp_29 rfl (lv_at hl 0 rfl) ?_
          obtain ⟨t30, ht30, hf⟩ := gb_b hf
          refine cp_get (v := va_rf t30) hx hb hts gclX10 hown hK hG 0 (gfR_s ht30) (by decide) (hts _ (List.mem_of_getElem? (i := 2) rfl)) (fun _ h9 => h9) dX10_addLamp_30 ?_
          obtain ⟨q33, hq33, hf⟩ := gb_b hf
          rw [hq33]
          obtain ⟨t33, ht33, hf⟩ := gb_b hf
          refine cp_alenR hx hb hK hG ht33 dX10_addLamp_33 ?_
          refine lv_icmp_lt (tgt := 40) hx hb dX10_addLamp_34 (by decide) (fun c34 => ?_) (fun c34 => ?_)
          · have hf := gb_t c34 hf
            refine lv_iload_n hx hb dX10_addLamp_40 rfl (lv_at hl 1 rfl) ?_
            obtain ⟨o41, hc41, hf⟩ := gb_b hf
            refine gp_callR (va_runS (As := [.int v1]) (rest := []) ⟨hx, hb, hml, hown, hts⟩ (c_X5_ofKind (l := l) (D := D) (b := b) (cI := cI) (cL := cL) hc41) (va_cwS 1 hts gX10_addLamp_X5_ofKind rfl rfl rfl (by decide +kernel) ⟨Nat.le_of_ble_eq_true rfl, Nat.le_of_ble_eq_true rfl⟩) (gp_preS hKn hG) rfl rfl hl.1 rfl (lv_room (Nat.le_of_ble_eq_true rfl)) dX10_addLamp_41 ⟨Nat.le_of_ble_eq_true rfl, Nat.le_of_ble_eq_true rfl⟩) hS (fun H locs hG hS => ?_)
            refine gp_astore (lv' := [(4, va_rf o41.1), (0, .ref h0), (1, .int v1), (2, .int v2), (3, .int v3)]) hx hb dX10_addLamp_44 hl (by decide) rfl (fun ls hl => ?_)
            refine gp_aload (x := o41.1) hx hb dX10_addLamp_46 (lv_at hl 0 rfl) ?_
            refine lv_iload_n hx hb dX10_addLamp_48 rfl (lv_at hl 3 rfl) ?_
            obtain ⟨q49, hq49, hf⟩ := gb_b hf
            rw [hq49]
            rw [hq49] at hl
            obtain ⟨g49, ht49, hf⟩ := gb_b hf
            refine cp_put (tyk := .int) hx hb hts gclL tyX5 tyX5_ok nmX5 hown hK hG hS 0 ht49 (by decide) (hts _ (List.mem_of_getElem? (i := 3) rfl)) (fun _ h9 => h9) rfl (by decide +kernel) rfl rfl dX10_addLamp_49 (fun H locs hG hS => ?_)
            refine lv_aload hx hb dX10_addLamp_52 (lv_at hl 0 rfl) ?_
            refine lv_iload_n hx hb dX10_addLamp_54 rfl (lv_at hl 4 rfl) ?_
            obtain ⟨g55, ht55, hf⟩ := gb_b hf
            refine cp_put (tyk := .int) hx hb hts gclL tyX5 tyX5_ok nmX5 hown hK hG hS 1 ht55 (by decide) (hts _ (List.mem_of_getElem? (i := 4) rfl)) (fun _ h9 => h9) rfl (by decide +kernel) rfl rfl dX10_addLamp_55 (fun H locs hG hS => ?_)
            refine lv_aload_n hx hb dX10_addLamp_58 rfl (lv_at hl 1 rfl) ?_
            obtain ⟨t59, ht59, hf⟩ := gb_b hf
            refine cp_get (v := va_rf t59) hx hb hts gclX10 hown hK hG 0 (gfR_s ht59) (by decide) (hts _ (List.mem_of_getElem? (i := 2) rfl)) (fun _ h9 => h9) dX10_addLamp_59 ?_
            refine lv_aload_n hx hb dX10_addLamp_62 rfl (lv_at hl 1 rfl) ?_
            obtain ⟨t63, ht63, hf⟩ := gb_b hf
            refine cp_get (v := .int t63) hx hb hts gclX10 hown hK hG 3 (gfI_s ht63) (by decide) (hts _ (List.mem_of_getElem? (i := 1) rfl)) (fun _ h9 => h9) dX10_addLamp_63 ?_
            refine lv_aload hx hb dX10_addLamp_66 (lv_at hl 0 rfl) ?_
            obtain ⟨q68, hq68, hf⟩ := gb_b hf
            rw [hq68]
            obtain ⟨g68, ht68, hf⟩ := gb_b hf
            refine cp_aast (x := (some q49)) hx hb hKn hG hS ht68 dX10_addLamp_68 (fun H locs hG hS => ?_)
            refine lv_aload_n hx hb dX10_addLamp_69 rfl (lv_at hl 1 rfl) ?_
            refine lv_dup hx hb dX10_addLamp_70 rfl ?_
            obtain ⟨t71, ht71, hf⟩ := gb_b hf
            refine cp_get (v := .int t71) hx hb hts gclX10 hown hK hG 3 (gfI_s ht71) (by decide) (hts _ (List.mem_of_getElem? (i := 1) rfl)) (fun _ h9 => h9) dX10_addLamp_71 ?_
            refine lv_iconst (v := 1) hx hb dX10_addLamp_74 (by decide) ?_
            refine lv_iadd hx hb dX10_addLamp_75 ?_
            obtain ⟨g76, ht76, hf⟩ := gb_b hf
            refine cp_put (tyk := .int) hx hb hts gclX10 tyX10 tyX10_ok nmX10 hown hK hG hS 3 ht76 (by decide) (hts _ (List.mem_of_getElem? (i := 1) rfl)) (fun _ h9 => h9) rfl (by decide +kernel) rfl rfl dX10_addLamp_76 (fun H locs hG hS => ?_)
            refine lv_aload_n hx hb dX10_addLamp_79 rfl (lv_at hl 1 rfl) ?_
            obtain ⟨t80, ht80, hf⟩ := gb_b hf
            refine cp_get (v := .int t80) hx hb hts gclX10 hown hK hG 3 (gfI_s ht80) (by decide) (hts _ (List.mem_of_getElem? (i := 1) rfl)) (fun _ h9 => h9) dX10_addLamp_80 ?_
            refine lv_iconst (v := 1) hx hb dX10_addLamp_83 (by decide) ?_
            refine lv_isub hx hb dX10_addLamp_84 ?_
            cases hf
            exact gp_retI hx hb hr hlocks hG hS (Nat.le_of_ble_eq_true rfl) (Nat.le_of_ble_eq_true rfl) dX10_addLamp_85
          · have hf := gb_f c34 hf
            refine lv_bipush (v := (-6 : Int32)) hx hb dX10_addLamp_37 (by decide) ?_
            cases hf
            exact gp_retI hx hb hr hlocks hG hS (Nat.le_of_ble_eq_true rfl) (Nat.le_of_ble_eq_true rfl) dX10_addLamp_39
      · have hf := gb_f c13 hf
        refine lv_iconst (v := (-1 : Int32)) hx hb dX10_addLamp_16 (by decide) ?_
        cases hf
        exact gp_retI hx hb hr hlocks hG hS (Nat.le_of_ble_eq_true rfl) (Nat.le_of_ble_eq_true rfl) dX10_addLamp_17
-- X10_peopled
abbrev rm_X10_peopled : Room := { frames := 1, cells := 0, slots := 0, locals := 22 }
def L_X10_peopled_4 {α : Type} (K29 : Int64 → Option α) (gv : Nat → GV) (v0 : Nat) : Nat → Int64 → Int32 → Option α
  | 0, _, _ => none
  | n + 1, v1, v3 => (gfI gv v0 [8] 4).bind fun t6 => if t6 ≤ v3 then K29 v1 else ((gfO gv v0 [8]).bind fun _ => f_X10_cellOf gv v0 v3).bind fun o15 => (f_X2_only o15).bind fun o18 => L_X10_peopled_4 K29 gv v0 n (v1 ||| o18) (v3 + 1)
set_option maxHeartbeats 4000000 in
set_option maxRecDepth 100000 in
theorem w_X10_peopled_4 {α : Type} {R : α} {K29 : Int64 → Option α} {v0 : Nat} (X : gC p s m args meth c cX10_peopled 4 (some .long) wsX10_peopled RX10 D b (gTy cI cL)) : ∀ (n : Nat) (v1 : Int64) (v3 : Int32), L_X10_peopled_4 K29 gv v0 n v1 v3 = some R → (∀ (x : Int64), K29 x = some R → ∀ (H : Heap) (locs : List Loc) (ls : Array Slot), GP D b M (gW cI cL gv) H → va_S (gA b) s.heap H locs → lv_has ls 4 [(1, .long x)] → W p l e rm_X10_peopled s m args below meth c H locs 0 0 Q (F0 m 29 ls [])) → ∀ (H : Heap) (locs : List Loc) (ls : Array Slot), GP D b M (gW cI cL gv) H → va_S (gA b) s.heap H locs → lv_has ls 4 [(0, .ref v0), (1, .long v1), (3, .int v3)] → W p l e rm_X10_peopled s m args below meth c H locs 0 0 Q (F0 m 4 ls []) := by
  obtain ⟨hx, hb, hr, hml, hown, hts, hlocks, hKn⟩ := id X
  have hK := hKn.1
  have gclX10 : gcl [8] TX10 6 wsX10_peopled := gcl_1 rfl (fun _ h => List.mem_cons_of_mem _ (List.mem_append_right _ h))
  intro n
  induction n with
  | zero =>
    intro v1 v3 hf
    cases hf
  | succ n ih =>
    intro v1 v3 hf hk29 H locs ls hG hS hl
    rw [L_X10_peopled_4.eq_2] at hf
    refine lv_iload_n hx hb dX10_peopled_4 rfl (lv_at hl 2 rfl) ?_
    refine lv_aload_n hx hb dX10_peopled_5 rfl (lv_at hl 0 rfl) ?_
    obtain ⟨t6, ht6, hf⟩ := gb_b hf
    refine cp_get (v := .int t6) hx hb hts gclX10 hown hK hG 4 (gfI_s ht6) (by decide) (hts _ (List.mem_of_getElem? (i := 1) rfl)) (fun _ h9 => h9) dX10_peopled_6 ?_
    refine lv_icmp_ge (tgt := 29) hx hb dX10_peopled_9 (by decide) (fun c9 => ?_) (fun c9 => ?_)
    · have hf := gb_t c9 hf
      exact (hk29 _ hf _ _ _ hG hS (lv_sub hl [1] rfl))
    · have hf := gb_f c9 hf
      refine lv_lload_n hx hb dX10_peopled_12 rfl (lv_at hl 1 rfl) ?_
      refine lv_aload_n hx hb dX10_peopled_13 rfl (lv_at hl 0 rfl) ?_
      refine lv_iload_n hx hb dX10_peopled_14 rfl (lv_at hl 2 rfl) ?_
      obtain ⟨o15, hc15, hf⟩ := gb_b hf
      obtain ⟨oc15, hcO15, hc15⟩ := gb_b hc15
      obtain ⟨hcg15, hci15⟩ := gfO_s hcO15
      have hci15 := List.mem_singleton.mp hci15
      obtain ⟨kc15, fc15⟩ := oc15
      dsimp only at hci15 hcg15
      subst hci15
      refine gp_callI (va_runV (As := [.int v3]) (rest := [.long v1]) ⟨hx, hb, hml, hown, hts⟩ (c_X10_cellOf (l := l) (D := D) (b := b) (cI := cI) (cL := cL) hc15) (cwV 1 hts gX10_peopled_X10_cellOf rfl rfl rfl (by decide +kernel) ⟨Nat.le_of_ble_eq_true rfl, Nat.le_of_ble_eq_true rfl⟩) (gp_preV hKn hG (cp_obj hcg15) rfl) rfl rfl hl.1 rfl (lv_room (Nat.le_of_ble_eq_true rfl)) dX10_peopled_15 ⟨Nat.le_of_ble_eq_true rfl, Nat.le_of_ble_eq_true rfl⟩) hS (fun H locs hG hS => ?_)
      obtain ⟨o18, hc18, hf⟩ := gb_b hf
      refine gp_callL (va_runS (As := [.int o15]) (rest := [.long v1]) ⟨hx, hb, hml, hown, hts⟩ (c_X2_only (l := l) (D := D) (b := b) (cI := cI) (cL := cL) hc18) (va_cwS 1 hts gX10_peopled_X2_only rfl rfl rfl (by decide +kernel) ⟨Nat.le_of_ble_eq_true rfl, Nat.le_of_ble_eq_true rfl⟩) (gp_preS hKn hG) rfl rfl hl.1 rfl (lv_room (Nat.le_of_ble_eq_true rfl)) dX10_peopled_18 ⟨Nat.le_of_ble_eq_true rfl, Nat.le_of_ble_eq_true rfl⟩) hS (fun H locs hG hS => ?_)
      refine lv_lor hx hb dX10_peopled_21 ?_
      refine lv_lstore_n (lv' := [(1, .long (v1 ||| o18)), (0, .ref v0), (3, .int v3)]) hx hb dX10_peopled_22 rfl hl (by decide) rfl (fun ls hl => ?_)
      refine lv_iinc (v := v3 + 1) (lv' := [(3, .int (v3 + 1)), (1, .long (v1 ||| o18)), (0, .ref v0)]) hx hb dX10_peopled_23 hl (k := 2) rfl rfl (by decide) rfl (fun ls hl => ?_)
      refine lv_goto (tgt := 4) hx hb dX10_peopled_26 (by decide) ?_
      exact ih _ _ hf hk29 _ _ _ hG hS (lv_sub hl [2, 1, 0] rfl)
def f_X10_peopled (gv : Nat → GV) (h0 : Nat) : Option (Int64) :=
  L_X10_peopled_4 (fun x4_29 => some x4_29) gv h0 gF (0 : Int64) 0
set_option maxHeartbeats 4000000 in
set_option maxRecDepth 100000 in
theorem c_X10_peopled {R : Int64} (hf : f_X10_peopled gv h0 = some R) : Met l yX10_peopled wsX10_peopled rm_X10_peopled (va_Pc [.ref h0] (gPre D b M (gW cI cL gv) (gTy cI cL))) (gQ D b (some (.long R)) M (gW cI cL gv)) 0 0 (gA b) := by
  refine gp_met (cc := cX10_peopled) (maxL := 4) (ret := (some .long)) (by decide) rfl (Nat.le_of_ble_eq_true rfl) ?_
  intro p e s m below meth c X ls hG hl
  obtain ⟨H, hH0⟩ : ∃ H : Heap, H = s.heap := ⟨_, rfl⟩
  rw [← hH0] at hG ⊢
  have hS : va_S (gA b) s.heap H [] := by rw [hH0]; exact va_S.rf
  obtain ⟨locs, hlo⟩ : ∃ z : List Loc, z = [] := ⟨_, rfl⟩
  rw [← hlo] at hS ⊢
  unfold f_X10_peopled at hf
  obtain ⟨hx, hb, hr, hml, hown, hts, hlocks, hKn⟩ := id X
  have hK := hKn.1
  have gclX10 : gcl [8] TX10 6 wsX10_peopled := gcl_1 rfl (fun _ h => List.mem_cons_of_mem _ (List.mem_append_right _ h))
  have hl : lv_has ls 4 [(0, .ref h0)] := hl
  refine lv_lconst (v := (0 : Int64)) hx hb dX10_peopled_0 (by decide) ?_
  refine lv_lstore_n (lv' := [(1, .long (0 : Int64)), (0, .ref h0)]) hx hb dX10_peopled_1 rfl hl (by decide) rfl (fun ls hl => ?_)
  refine lv_iconst (v := 0) hx hb dX10_peopled_2 (by decide) ?_
  refine lv_istore_n (lv' := [(3, .int 0), (1, .long (0 : Int64)), (0, .ref h0)]) hx hb dX10_peopled_3 rfl hl (by decide) rfl (fun ls hl => ?_)
  refine w_X10_peopled_4 X _ _ _ hf (fun x4_29 hf H locs ls hG hS hl => ?_) _ _ _ hG hS (lv_sub hl [2, 1, 0] rfl)
  · refine lv_lload_n hx hb dX10_peopled_29 rfl (lv_at hl 0 rfl) ?_
    cases hf
    exact gp_retL hx hb hr hlocks hG hS (Nat.le_of_ble_eq_true rfl) (Nat.le_of_ble_eq_true rfl) dX10_peopled_30
-- X11_yes
abbrev rm_X11_yes : Room := { frames := 0, cells := 0, slots := 0, locals := 0 }
def f_X11_yes (v0 : Int32) : Option (Int32) :=
  some (if v0 = 0 then 0 else 1)
set_option maxHeartbeats 4000000 in
set_option maxRecDepth 100000 in
theorem c_X11_yes {v0 : Int32} {R : Int32} (hf : f_X11_yes v0 = some R) : Met l yX11_yes wsX11_yes rm_X11_yes (va_Pc [.int v0] (gPre D b M (gh) (gTy cI cL))) (gQ D b (some (.int R)) M (gh)) 0 0 (gA b) := by
  refine gp_met (cc := cX11_yes) (maxL := 1) (ret := (some .int)) (by decide) rfl (Nat.le_of_ble_eq_true rfl) ?_
  intro p e s m below meth c X ls hG hl
  obtain ⟨H, hH0⟩ : ∃ H : Heap, H = s.heap := ⟨_, rfl⟩
  rw [← hH0] at hG ⊢
  have hS : va_S (gA b) s.heap H [] := by rw [hH0]; exact va_S.rf
  obtain ⟨locs, hlo⟩ : ∃ z : List Loc, z = [] := ⟨_, rfl⟩
  rw [← hlo] at hS ⊢
  unfold f_X11_yes at hf
  obtain ⟨hx, hb, hr, hml, hown, hts, hlocks, hKn⟩ := id X
  have hK := hKn.1
  have hl : lv_has ls 1 [(0, .int v0)] := hl
  refine lv_iload_n hx hb dX11_yes_0 rfl (lv_at hl 0 rfl) ?_
  have hJ1 : ∀ Z : Int32, Z = (if v0 = 0 then 0 else 1) → W p l e rm_X11_yes s m [.int v0].toArray below meth c H locs 0 0 (MQ below (gQ D b (some (.int R)) M (gh)) [.int v0].toArray s 0 0 (gA b)) (F0 m 9 ls (.int Z :: [])) := by
    intro Z hZ
    subst hZ
    cases hf
    exact gp_retI hx hb hr hlocks hG hS (Nat.le_of_ble_eq_true rfl) (Nat.le_of_ble_eq_true rfl) dX11_yes_9
  refine lv_if_eq (tgt := 8) hx hb dX11_yes_1 (by decide) (fun c1 => ?_) (fun c1 => ?_)
  · rw [if_pos c1] at hJ1
    refine lv_iconst (v := 0) hx hb dX11_yes_8 (by decide) ?_
    exact hJ1 _ rfl
  · rw [if_neg c1] at hJ1
    refine lv_iconst (v := 1) hx hb dX11_yes_4 (by decide) ?_
    refine lv_goto (tgt := 9) hx hb dX11_yes_5 (by decide) ?_
    exact hJ1 _ rfl
end
