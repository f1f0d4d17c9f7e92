section
variable {p : Program} {l : Launch} {e : Env} {s : State} {m : MethodId} {args : Array Value} {below : List Frame} {meth : Method} {c : Code} {D : va_G} {b : GB} {M : Nat} {cI cL : ClassId} {h0 : Nat} {gv : Nat → GV} {gh : Nat → va_E} {Q : State → Prop}
-- J3_checkIndex_8e157
abbrev rm_J3_checkIndex_8e157 : Room := { frames := 0, cells := 0, slots := 0, locals := 0 }
set_option maxHeartbeats 4000000 in
set_option maxRecDepth 100000 in
theorem c_J3_checkIndex_8e157 {v0 : Int32} {v1 : Int32} {v2 : Option Nat} {R : Int32} (hf : f_J3_checkIndex_8e157 v0 v1 = some R) : Met l yJ3_checkIndex_8e157 wsJ3_checkIndex_8e157 rm_J3_checkIndex_8e157 (va_Pc [.int v0, .int v1, va_rf v2] (gPre D b M (gh) (gTy cI cL))) (gQ D b (some (.int R)) M (gh)) 0 0 (gA b) := by
  refine gp_met (cc := cJ3_checkIndex_8e157) (maxL := 3) (ret := (some .int)) (by decide) rfl (by simp [lg_sl, gcat_rf, gcat_ref, gcat_int, gcat_long]) ?_
  intro p e s m below meth c X ls hG hl
  obtain ⟨H, hH0⟩ : ∃ H : Heap, H = s.heap := ⟨_, rfl⟩
  rw [← hH0] at hG ⊢
  have hS : va_S (gA b) s.heap H [] := by rw [hH0]; exact va_S.rf
  obtain ⟨locs, hlo⟩ : ∃ z : List Loc, z = [] := ⟨_, rfl⟩
  rw [← hlo] at hS ⊢
  unfold f_J3_checkIndex_8e157 at hf
  obtain ⟨hx, hb, hr, hml, hown, hts, hlocks, hKn, hBs⟩ := id X
  have hK := hKn.1
  have hl : lv_has ls 3 [(0, .int v0), (1, .int v1), (2, va_rf v2)] := by simpa [lv_args, gcat_rf, gcat_ref, gcat_int, gcat_long] using hl
  refine lv_iload_n hx hb dJ3_checkIndex_8e157_0 rfl (lv_at hl 0 rfl) ?_
  refine lv_if_lt (tgt := 9) hx hb dJ3_checkIndex_8e157_1 (by decide) (fun c1 => ?_) (fun c1 => ?_)
  · have hf := gb_t c1 hf
    cases hf
  · have hf := gb_f c1 hf
    refine lv_iload_n hx hb dJ3_checkIndex_8e157_4 rfl (lv_at hl 0 rfl) ?_
    refine lv_iload_n hx hb dJ3_checkIndex_8e157_5 rfl (lv_at hl 1 rfl) ?_
    refine lv_icmp_lt (tgt := 16) hx hb dJ3_checkIndex_8e157_6 (by decide) (fun c6 => ?_) (fun c6 => ?_)
    · have hf := gb_t c6 hf
      refine lv_iload_n hx hb dJ3_checkIndex_8e157_16 rfl (lv_at hl 0 rfl) ?_
      have hf := Option.some.inj hf
      subst hf
      exact gp_retI hx hb hr hlocks hG hS (Nat.le_of_ble_eq_true rfl) (Nat.le_of_ble_eq_true rfl) dJ3_checkIndex_8e157_17
    · have hf := gb_f c6 hf
      cases hf
-- J0_checkIndex_df160
abbrev rm_J0_checkIndex_df160 : Room := { frames := 1, cells := 0, slots := 0, locals := 22 }
set_option maxHeartbeats 4000000 in
set_option maxRecDepth 100000 in
theorem c_J0_checkIndex_df160 {v0 : Int32} {v1 : Int32} {R : Unit} (hf : f_J0_checkIndex_df160 v0 v1 = some R) : Met l yJ0_checkIndex_df160 wsJ0_checkIndex_df160 rm_J0_checkIndex_df160 (va_Pc [.int v0, .int v1] (gPre D b M (gh) (gTy cI cL))) (gQ D b none M (gh)) 0 0 (gA b) := by
  refine gp_met (cc := cJ0_checkIndex_df160) (maxL := 2) (ret := none) (by decide) rfl (Nat.le_of_ble_eq_true rfl) ?_
  intro p e s m below meth c X ls hG hl
  obtain ⟨H, hH0⟩ : ∃ H : Heap, H = s.heap := ⟨_, rfl⟩
  rw [← hH0] at hG ⊢
  have hS : va_S (gA b) s.heap H [] := by rw [hH0]; exact va_S.rf
  obtain ⟨locs, hlo⟩ : ∃ z : List Loc, z = [] := ⟨_, rfl⟩
  rw [← hlo] at hS ⊢
  unfold f_J0_checkIndex_df160 at hf
  obtain ⟨hx, hb, hr, hml, hown, hts, hlocks, hKn, hBs⟩ := id X
  have hK := hKn.1
  have hE : vk_S 6 gSl gSb b.2.2.1 b.2.2.2 (gA b) s s.heap := gs_E hKn hBs
  have hZ : va_Z "java/lang/String" "COMPACT_STRINGS" "Z" (.int 1) (gA b) s s.heap := gs_Z hKn hBs
  have hZq : va_Zq "jdk/internal/util/Preconditions" "SIOOBE_FORMATTER" "Ljava/util/function/BiFunction;" (gA b) s s.heap := gs_Zq hKn hBs
  have hl : lv_has ls 2 [(0, .int v0), (1, .int v1)] := hl
  refine lv_iload_n hx hb dJ0_checkIndex_df160_0 rfl (lv_at hl 0 rfl) ?_
  refine lv_iload_n hx hb dJ0_checkIndex_df160_1 rfl (lv_at hl 1 rfl) ?_
  obtain ⟨z2, hz2⟩ := gzq hZq
  refine va_gets (v := va_rf z2) hx hb hz2 hS hown (hts _ (List.mem_of_getElem? (i := 1) rfl)) (fun _ h9 => h9) dJ0_checkIndex_df160_2 ?_
  obtain ⟨o5, hc5, hf⟩ := gb_b hf
  refine gp_callI (va_runS (As := [.int v0, .int v1, va_rf z2]) (rest := []) ⟨hx, hb, hml, hown, hts⟩ (c_J3_checkIndex_8e157 (l := l) (D := D) (b := b) (cI := cI) (cL := cL) hc5) (va_cwS 3 hts gJ0_checkIndex_df160_J3_checkIndex_8e157 rfl rfl rfl (by decide +kernel) ⟨Nat.le_of_ble_eq_true rfl, Nat.le_of_ble_eq_true rfl⟩) (gp_preS hKn hG) rfl rfl hl.1 rfl (lv_room (Nat.le_of_ble_eq_true rfl)) dJ0_checkIndex_df160_5 ⟨Nat.le_of_ble_eq_true rfl, Nat.le_of_ble_eq_true rfl⟩) hS (fun H locs hG hS => ?_)
  refine lv_pop hx hb dJ0_checkIndex_df160_8 rfl ?_
  have hf := Option.some.inj hf
  subst hf
  exact gp_retV hx hb hr hlocks hG hS (Nat.le_of_ble_eq_true rfl) (Nat.le_of_ble_eq_true rfl) dJ0_checkIndex_df160_9
-- J1_charAt_3b067
abbrev rm_J1_charAt_3b067 : Room := { frames := 2, cells := 0, slots := 0, locals := 43 }
set_option maxHeartbeats 4000000 in
set_option maxRecDepth 100000 in
theorem c_J1_charAt_3b067 {v0 : Nat} {v1 : Int32} {R : Int32} (hf : f_J1_charAt_3b067 v0 v1 = some R) : Met l yJ1_charAt_3b067 wsJ1_charAt_3b067 rm_J1_charAt_3b067 (va_Pc [.ref (b.2.2.2 v0), .int v1] (gPre D b M (gh) (gTy cI cL))) (gQ D b (some (.int R)) M (gh)) 0 0 (gA b) := by
  refine gp_met (cc := cJ1_charAt_3b067) (maxL := 2) (ret := (some .char)) (by decide) rfl (Nat.le_of_ble_eq_true rfl) ?_
  intro p e s m below meth c X ls hG hl
  obtain ⟨H, hH0⟩ : ∃ H : Heap, H = s.heap := ⟨_, rfl⟩
  rw [← hH0] at hG ⊢
  have hS : va_S (gA b) s.heap H [] := by rw [hH0]; exact va_S.rf
  obtain ⟨locs, hlo⟩ : ∃ z : List Loc, z = [] := ⟨_, rfl⟩
  rw [← hlo] at hS ⊢
  unfold f_J1_charAt_3b067 at hf
  obtain ⟨hx, hb, hr, hml, hown, hts, hlocks, hKn, hBs⟩ := id X
  have hK := hKn.1
  have hE : vk_S 6 gSl gSb b.2.2.1 b.2.2.2 (gA b) s s.heap := gs_E hKn hBs
  have hZ : va_Z "java/lang/String" "COMPACT_STRINGS" "Z" (.int 1) (gA b) s s.heap := gs_Z hKn hBs
  have hZq : va_Zq "jdk/internal/util/Preconditions" "SIOOBE_FORMATTER" "Ljava/util/function/BiFunction;" (gA b) s s.heap := gs_Zq hKn hBs
  have hl : lv_has ls 2 [(0, .ref (b.2.2.2 v0)), (1, .int v1)] := hl
  refine lv_iload_n hx hb dJ1_charAt_3b067_0 rfl (lv_at hl 1 rfl) ?_
  refine lv_aload_n hx hb dJ1_charAt_3b067_1 rfl (lv_at hl 0 rfl) ?_
  obtain ⟨hi2, hf⟩ := gb_si hf
  refine va_tlen hx hb (hE.1 _ hi2).2.2.2 hS rfl dJ1_charAt_3b067_2 ?_
  obtain ⟨o3, hc3, hf⟩ := gb_b hf
  refine gp_callV (va_runS (As := [.int v1, .int (Int32.ofNat (gSl.getD v0 0))]) (rest := []) ⟨hx, hb, hml, hown, hts⟩ (c_J0_checkIndex_df160 (l := l) (D := D) (b := b) (cI := cI) (cL := cL) hc3) (va_cwS 2 hts gJ1_charAt_3b067_J0_checkIndex_df160 rfl rfl rfl (by decide +kernel) ⟨Nat.le_of_ble_eq_true rfl, Nat.le_of_ble_eq_true rfl⟩) (gp_preS hKn hG) rfl rfl hl.1 rfl (lv_room (Nat.le_of_ble_eq_true rfl)) dJ1_charAt_3b067_3 ⟨Nat.le_of_ble_eq_true rfl, Nat.le_of_ble_eq_true rfl⟩) hS (fun H locs hG hS => ?_)
  refine lv_aload_n hx hb dJ1_charAt_3b067_6 rfl (lv_at hl 0 rfl) ?_
  refine lv_iload_n hx hb dJ1_charAt_3b067_7 rfl (lv_at hl 1 rfl) ?_
  obtain ⟨hi8, hf⟩ := gb_si hf
  obtain ⟨hb8, hf⟩ := gb_ix hf
  refine va_tb hx hb (hE.1 _ hi8).2.2.2 hS hb8 rfl dJ1_charAt_3b067_8 ?_
  refine lv_sipush (v := 255) hx hb dJ1_charAt_3b067_9 (by decide) ?_
  refine lv_iand hx hb dJ1_charAt_3b067_12 ?_
  refine lv_i2c hx hb dJ1_charAt_3b067_13 rfl ?_
  obtain ⟨z14, hf⟩ := gb_nc hf
  have hf := Option.some.inj hf
  subst hf
  exact gp_retC hx hb hr z14 hlocks hG hS (Nat.le_of_ble_eq_true rfl) (Nat.le_of_ble_eq_true rfl) dJ1_charAt_3b067_14
-- J0_charAt_5068e
abbrev rm_J0_charAt_5068e : Room := { frames := 3, cells := 0, slots := 0, locals := 64 }
set_option maxHeartbeats 4000000 in
set_option maxRecDepth 100000 in
theorem c_J0_charAt_5068e {v0 : Nat} {v1 : Int32} {R : Int32} (hf : f_J0_charAt_5068e v0 v1 = some R) : Met l yJ0_charAt_5068e wsJ0_charAt_5068e rm_J0_charAt_5068e (va_Pc [.ref (b.2.2.1 v0), .int v1] (gPre D b M (gh) (gTy cI cL))) (gQ D b (some (.int R)) M (gh)) 0 0 (gA b) := by
  refine gp_met (cc := cJ0_charAt_5068e) (maxL := 2) (ret := (some .char)) (by decide) rfl (Nat.le_of_ble_eq_true rfl) ?_
  intro p e s m below meth c X ls hG hl
  obtain ⟨H, hH0⟩ : ∃ H : Heap, H = s.heap := ⟨_, rfl⟩
  rw [← hH0] at hG ⊢
  have hS : va_S (gA b) s.heap H [] := by rw [hH0]; exact va_S.rf
  obtain ⟨locs, hlo⟩ : ∃ z : List Loc, z = [] := ⟨_, rfl⟩
  rw [← hlo] at hS ⊢
  unfold f_J0_charAt_5068e at hf
  obtain ⟨hx, hb, hr, hml, hown, hts, hlocks, hKn, hBs⟩ := id X
  have hK := hKn.1
  have hE : vk_S 6 gSl gSb b.2.2.1 b.2.2.2 (gA b) s s.heap := gs_E hKn hBs
  have hZ : va_Z "java/lang/String" "COMPACT_STRINGS" "Z" (.int 1) (gA b) s s.heap := gs_Z hKn hBs
  have hZq : va_Zq "jdk/internal/util/Preconditions" "SIOOBE_FORMATTER" "Ljava/util/function/BiFunction;" (gA b) s s.heap := gs_Zq hKn hBs
  have hl : lv_has ls 2 [(0, .ref (b.2.2.1 v0)), (1, .int v1)] := hl
  refine lv_aload_n hx hb dJ0_charAt_5068e_0 rfl (lv_at hl 0 rfl) ?_
  obtain ⟨hi1, hf⟩ := gb_si hf
  obtain ⟨o1, hc1, hf⟩ := gb_b hf
  refine gp_callI (va_runV (As := []) (rest := []) ⟨hx, hb, hml, hown, hts⟩ (c_J0_isLatin1_aae02 (l := l) (D := D) (b := b) (cI := cI) (cL := cL) hc1) (cwV 0 hts gJ0_charAt_5068e_J0_isLatin1_aae02 rfl rfl rfl (by decide +kernel) ⟨Nat.le_of_ble_eq_true rfl, Nat.le_of_ble_eq_true rfl⟩) (gs_preV hKn hG hE hi1 hS) rfl rfl hl.1 rfl (lv_room (Nat.le_of_ble_eq_true rfl)) dJ0_charAt_5068e_1 ⟨Nat.le_of_ble_eq_true rfl, Nat.le_of_ble_eq_true rfl⟩) hS (fun H locs hG hS => ?_)
  refine lv_if_eq (tgt := 16) hx hb dJ0_charAt_5068e_4 (by decide) (fun c4 => ?_) (fun c4 => ?_)
  · have hf := gb_t c4 hf
    cases hf
  · have hf := gb_f c4 hf
    refine lv_aload_n hx hb dJ0_charAt_5068e_7 rfl (lv_at hl 0 rfl) ?_
    obtain ⟨hi8, hf⟩ := gb_si hf
    refine vk_getf (v := .ref (b.2.2.2 v0)) hx hb (hE.1 _ hi8).2.2.1 hS hown (hts _ (List.mem_of_getElem? (i := 1) rfl)) (fun _ h9 => h9) dJ0_charAt_5068e_8 ?_
    refine lv_iload_n hx hb dJ0_charAt_5068e_11 rfl (lv_at hl 1 rfl) ?_
    obtain ⟨o12, hc12, hf⟩ := gb_b hf
    refine gp_callI (va_runS (As := [.ref (b.2.2.2 v0), .int v1]) (rest := []) ⟨hx, hb, hml, hown, hts⟩ (c_J1_charAt_3b067 (l := l) (D := D) (b := b) (cI := cI) (cL := cL) hc12) (va_cwS 2 hts gJ0_charAt_5068e_J1_charAt_3b067 rfl rfl rfl (by decide +kernel) ⟨Nat.le_of_ble_eq_true rfl, Nat.le_of_ble_eq_true rfl⟩) (gp_preS hKn hG) rfl rfl hl.1 rfl (lv_room (Nat.le_of_ble_eq_true rfl)) dJ0_charAt_5068e_12 ⟨Nat.le_of_ble_eq_true rfl, Nat.le_of_ble_eq_true rfl⟩) hS (fun H locs hG hS => ?_)
    obtain ⟨z15, hf⟩ := gb_nc hf
    have hf := Option.some.inj hf
    subst hf
    exact gp_retC hx hb hr z15 hlocks hG hS (Nat.le_of_ble_eq_true rfl) (Nat.le_of_ble_eq_true rfl) dJ0_charAt_5068e_15
-- X6_misplaced
abbrev rm_X6_misplaced : Room := { frames := 5, cells := 0, slots := 0, locals := 112 }
set_option maxHeartbeats 4000000 in
set_option maxRecDepth 100000 in
theorem w_X6_misplaced_22 {α : Type} {R : α} {K49 : Int32 → Option α} {K57 : Int32 → Option α} {v0 : Nat} {v2 : Nat} (X : gC p s m args meth c cX6_misplaced 4 (some .int) wsX6_misplaced RX6 D b (gTy cI cL)) : ∀ (n : Nat) (v1 : Int32) (v3 : Int32), L_X6_misplaced_22 K49 K57 gv v0 v2 n v1 v3 = some R → (∀ (x : Int32), K49 x = some R → ∀ (H : Heap) (locs : List Loc) (ls : Array Slot), GP D b M (gW cI cL gv) H → va_S (gA b) s.heap H locs → lv_has ls 4 [(1, .int x)] → W p l e rm_X6_misplaced s m args below meth c H locs 0 0 Q (F0 m 49 ls [])) → (∀ (x : Int32), K57 x = some R → ∀ (H : Heap) (locs : List Loc) (ls : Array Slot), GP D b M (gW cI cL gv) H → va_S (gA b) s.heap H locs → lv_has ls 4 [(0, .ref v0), (1, .int x)] → W p l e rm_X6_misplaced s m args below meth c H locs 0 0 Q (F0 m 57 ls [])) → ∀ (H : Heap) (locs : List Loc) (ls : Array Slot), GP D b M (gW cI cL gv) H → va_S (gA b) s.heap H locs → lv_has ls 4 [(0, .ref v0), (1, .int v1), (2, .ref (b.2.2.1 v2)), (3, .int v3)] → W p l e rm_X6_misplaced s m args below meth c H locs 0 0 Q (F0 m 22 ls []) := by
  obtain ⟨hx, hb, hr, hml, hown, hts, hlocks, hKn, hBs⟩ := id X
  have hK := hKn.1
  have hE : vk_S 6 gSl gSb b.2.2.1 b.2.2.2 (gA b) s s.heap := gs_E hKn hBs
  have hZ : va_Z "java/lang/String" "COMPACT_STRINGS" "Z" (.int 1) (gA b) s s.heap := gs_Z hKn hBs
  have hZq : va_Zq "jdk/internal/util/Preconditions" "SIOOBE_FORMATTER" "Ljava/util/function/BiFunction;" (gA b) s s.heap := gs_Zq hKn hBs
  have gclX6 : gcl [5] TX6 2 wsX6_misplaced := gcl_1 rfl (fun _ h => List.mem_cons_of_mem _ (List.mem_append_right _ h))
  intro n
  induction n with
  | zero =>
    intro v1 v3 hf
    cases hf
  | succ n ih =>
    intro v1 v3 hf hk49 hk57 H locs ls hG hS hl
    rw [L_X6_misplaced_22.eq_2] at hf
    refine lv_iload_n hx hb dX6_misplaced_22 rfl (lv_at hl 3 rfl) ?_
    refine lv_aload_n hx hb dX6_misplaced_23 rfl (lv_at hl 2 rfl) ?_
    obtain ⟨hi24, hf⟩ := gb_si hf
    obtain ⟨o24, hc24, hf⟩ := gb_b hf
    refine gp_callI (va_runV (As := []) (rest := [.int v3]) ⟨hx, hb, hml, hown, hts⟩ (c_J0_length_8abf5 (l := l) (D := D) (b := b) (cI := cI) (cL := cL) hc24) (cwV 0 hts gX6_misplaced_J0_length_8abf5 rfl rfl rfl (by decide +kernel) ⟨Nat.le_of_ble_eq_true rfl, Nat.le_of_ble_eq_true rfl⟩) (gs_preV hKn hG hE hi24 hS) rfl rfl hl.1 rfl (lv_room (Nat.le_of_ble_eq_true rfl)) dX6_misplaced_24 ⟨Nat.le_of_ble_eq_true rfl, Nat.le_of_ble_eq_true rfl⟩) hS (fun H locs hG hS => ?_)
    refine lv_icmp_ge (tgt := 57) hx hb dX6_misplaced_27 (by decide) (fun c27 => ?_) (fun c27 => ?_)
    · have hf := gb_t c27 hf
      exact (hk57 _ hf _ _ _ hG hS (lv_sub hl [0, 1] rfl))
    · have hf := gb_f c27 hf
      refine lv_iinc (v := v1 + 1) (lv' := [(1, .int (v1 + 1)), (0, .ref v0), (2, .ref (b.2.2.1 v2)), (3, .int v3)]) hx hb dX6_misplaced_30 hl (k := 1) rfl rfl (by decide) rfl (fun ls hl => ?_)
      refine lv_aload_n hx hb dX6_misplaced_33 rfl (lv_at hl 2 rfl) ?_
      refine lv_iload_n hx hb dX6_misplaced_34 rfl (lv_at hl 3 rfl) ?_
      obtain ⟨hi35, hf⟩ := gb_si hf
      obtain ⟨o35, hc35, hf⟩ := gb_b hf
      refine gp_callI (va_runV (As := [.int v3]) (rest := []) ⟨hx, hb, hml, hown, hts⟩ (c_J0_charAt_5068e (l := l) (D := D) (b := b) (cI := cI) (cL := cL) hc35) (cwV 1 hts gX6_misplaced_J0_charAt_5068e rfl rfl rfl (by decide +kernel) ⟨Nat.le_of_ble_eq_true rfl, Nat.le_of_ble_eq_true rfl⟩) (gs_preV hKn hG hE hi35 hS) rfl rfl hl.1 rfl (lv_room (Nat.le_of_ble_eq_true rfl)) dX6_misplaced_35 ⟨Nat.le_of_ble_eq_true rfl, Nat.le_of_ble_eq_true rfl⟩) hS (fun H locs hG hS => ?_)
      refine lv_aload_n hx hb dX6_misplaced_38 rfl (lv_at hl 1 rfl) ?_
      refine lv_iload_n hx hb dX6_misplaced_39 rfl (lv_at hl 0 rfl) ?_
      obtain ⟨o40, hc40, hf⟩ := gb_b hf
      obtain ⟨oc40, hcO40, hc40⟩ := gb_b hc40
      obtain ⟨hcg40, hci40⟩ := gfO_s hcO40
      have hci40 := List.mem_singleton.mp hci40
      obtain ⟨kc40, fc40⟩ := oc40
      dsimp only at hci40 hcg40
      subst hci40
      refine gp_callI (va_runV (As := [.int (v1 + 1)]) (rest := [.int o35]) ⟨hx, hb, hml, hown, hts⟩ (c_X6_at (l := l) (D := D) (b := b) (cI := cI) (cL := cL) hc40) (cwV 1 hts gX6_misplaced_X6_at rfl rfl rfl (by decide +kernel) ⟨Nat.le_of_ble_eq_true rfl, Nat.le_of_ble_eq_true rfl⟩) (gp_preV hKn hG (cp_obj hcg40) rfl) rfl rfl hl.1 rfl (lv_room (Nat.le_of_ble_eq_true rfl)) dX6_misplaced_40 ⟨Nat.le_of_ble_eq_true rfl, Nat.le_of_ble_eq_true rfl⟩) hS (fun H locs hG hS => ?_)
      obtain ⟨o43, hc43, hf⟩ := gb_b hf
      refine gp_callI (va_runS (As := [.int o35, .int o40]) (rest := []) ⟨hx, hb, hml, hown, hts⟩ (c_X6_fits (l := l) (D := D) (b := b) (cI := cI) (cL := cL) hc43) (va_cwS 2 hts gX6_misplaced_X6_fits rfl rfl rfl (by decide +kernel) ⟨Nat.le_of_ble_eq_true rfl, Nat.le_of_ble_eq_true rfl⟩) (gp_preS hKn hG) rfl rfl hl.1 rfl (lv_room (Nat.le_of_ble_eq_true rfl)) dX6_misplaced_43 ⟨Nat.le_of_ble_eq_true rfl, Nat.le_of_ble_eq_true rfl⟩) hS (fun H locs hG hS => ?_)
      refine lv_if_ne (tgt := 51) hx hb dX6_misplaced_46 (by decide) (fun c46 => ?_) (fun c46 => ?_)
      · have hf := gb_f c46 hf
        refine lv_iinc (v := v3 + 1) (lv' := [(3, .int (v3 + 1)), (1, .int (v1 + 1)), (0, .ref v0), (2, .ref (b.2.2.1 v2))]) hx hb dX6_misplaced_51 hl (k := 3) rfl rfl (by decide) rfl (fun ls hl => ?_)
        refine lv_goto (tgt := 22) hx hb dX6_misplaced_54 (by decide) ?_
        exact ih _ _ hf hk49 hk57 _ _ _ hG hS (lv_sub hl [2, 1, 3, 0] rfl)
      · have hf := gb_t c46 hf
        exact (hk49 _ hf _ _ _ hG hS (lv_sub hl [0] rfl))
set_option maxHeartbeats 4000000 in
set_option maxRecDepth 100000 in
theorem w_X6_misplaced_2 {α : Type} {R : α} {K18 : Int32 → Option α} {K49 : Int32 → Option α} {K68 : Unit → Option α} {v0 : Nat} (X : gC p s m args meth c cX6_misplaced 4 (some .int) wsX6_misplaced RX6 D b (gTy cI cL)) : ∀ (n : Nat) (v1 : Int32), L_X6_misplaced_2 K18 K49 K68 gv v0 n v1 = some R → (∀ (x : Int32), K18 x = some R → ∀ (H : Heap) (locs : List Loc) (ls : Array Slot), GP D b M (gW cI cL gv) H → va_S (gA b) s.heap H locs → lv_has ls 4 [(1, .int x)] → W p l e rm_X6_misplaced s m args below meth c H locs 0 0 Q (F0 m 18 ls [])) → (∀ (x : Int32), K49 x = some R → ∀ (H : Heap) (locs : List Loc) (ls : Array Slot), GP D b M (gW cI cL gv) H → va_S (gA b) s.heap H locs → lv_has ls 4 [(1, .int x)] → W p l e rm_X6_misplaced s m args below meth c H locs 0 0 Q (F0 m 49 ls [])) → (∀ (x : Unit), K68 x = some R → ∀ (H : Heap) (locs : List Loc) (ls : Array Slot), GP D b M (gW cI cL gv) H → va_S (gA b) s.heap H locs → lv_has ls 4 [] → W p l e rm_X6_misplaced s m args below meth c H locs 0 0 Q (F0 m 68 ls [])) → ∀ (H : Heap) (locs : List Loc) (ls : Array Slot), GP D b M (gW cI cL gv) H → va_S (gA b) s.heap H locs → lv_has ls 4 [(0, .ref v0), (1, .int v1)] → W p l e rm_X6_misplaced s m args below meth c H locs 0 0 Q (F0 m 2 ls []) := by
  obtain ⟨hx, hb, hr, hml, hown, hts, hlocks, hKn, hBs⟩ := id X
  have hK := hKn.1
  have hE : vk_S 6 gSl gSb b.2.2.1 b.2.2.2 (gA b) s s.heap := gs_E hKn hBs
  have hZ : va_Z "java/lang/String" "COMPACT_STRINGS" "Z" (.int 1) (gA b) s s.heap := gs_Z hKn hBs
  have hZq : va_Zq "jdk/internal/util/Preconditions" "SIOOBE_FORMATTER" "Ljava/util/function/BiFunction;" (gA b) s s.heap := gs_Zq hKn hBs
  have gclX6 : gcl [5] TX6 2 wsX6_misplaced := gcl_1 rfl (fun _ h => List.mem_cons_of_mem _ (List.mem_append_right _ h))
  intro n
  induction n with
  | zero =>
    intro v1 hf
    cases hf
  | succ n ih =>
    intro v1 hf hk18 hk49 hk68 H locs ls hG hS hl
    rw [L_X6_misplaced_2.eq_2] at hf
    refine lv_aload_n hx hb dX6_misplaced_2 rfl (lv_at hl 0 rfl) ?_
    refine lv_iload_n hx hb dX6_misplaced_3 rfl (lv_at hl 1 rfl) ?_
    obtain ⟨o4, hc4, hf⟩ := gb_b hf
    obtain ⟨oc4, hcO4, hc4⟩ := gb_b hc4
    obtain ⟨hcg4, hci4⟩ := gfO_s hcO4
    have hci4 := List.mem_singleton.mp hci4
    obtain ⟨kc4, fc4⟩ := oc4
    dsimp only at hci4 hcg4
    subst hci4
    refine gp_callI (va_runV (As := [.int v1]) (rest := []) ⟨hx, hb, hml, hown, hts⟩ (c_X6_at (l := l) (D := D) (b := b) (cI := cI) (cL := cL) hc4) (cwV 1 hts gX6_misplaced_X6_at rfl rfl rfl (by decide +kernel) ⟨Nat.le_of_ble_eq_true rfl, Nat.le_of_ble_eq_true rfl⟩) (gp_preV hKn hG (cp_obj hcg4) rfl) rfl rfl hl.1 rfl (lv_room (Nat.le_of_ble_eq_true rfl)) dX6_misplaced_4 ⟨Nat.le_of_ble_eq_true rfl, Nat.le_of_ble_eq_true rfl⟩) hS (fun H locs hG hS => ?_)
    obtain ⟨o7, hc7, hf⟩ := gb_b hf
    refine gp_callS (va_runS (As := [.int o4]) (rest := []) ⟨hx, hb, hml, hown, hts⟩ (c_X6_formAfter (l := l) (D := D) (b := b) (cI := cI) (cL := cL) hc7) (va_cwS 1 hts gX6_misplaced_X6_formAfter rfl rfl rfl (by decide +kernel) ⟨Nat.le_of_ble_eq_true rfl, Nat.le_of_ble_eq_true rfl⟩) (gp_preS hKn hG) rfl rfl hl.1 rfl (lv_room (Nat.le_of_ble_eq_true rfl)) dX6_misplaced_7 ⟨Nat.le_of_ble_eq_true rfl, Nat.le_of_ble_eq_true rfl⟩) hS (fun H locs hG hS => ?_)
    refine lv_astore_n (lv' := [(2, .ref (b.2.2.1 o7)), (0, .ref v0), (1, .int v1)]) hx hb dX6_misplaced_10 rfl hl (by decide) rfl (fun ls hl => ?_)
    refine lv_aload_n hx hb dX6_misplaced_11 rfl (lv_at hl 0 rfl) ?_
    obtain ⟨hi12, hf⟩ := gb_si hf
    obtain ⟨o12, hc12, hf⟩ := gb_b hf
    refine gp_callI (va_runV (As := []) (rest := []) ⟨hx, hb, hml, hown, hts⟩ (c_J0_isEmpty_aae02 (l := l) (D := D) (b := b) (cI := cI) (cL := cL) hc12) (cwV 0 hts gX6_misplaced_J0_isEmpty_aae02 rfl rfl rfl (by decide +kernel) ⟨Nat.le_of_ble_eq_true rfl, Nat.le_of_ble_eq_true rfl⟩) (gs_preV hKn hG hE hi12 hS) rfl rfl hl.1 rfl (lv_room (Nat.le_of_ble_eq_true rfl)) dX6_misplaced_12 ⟨Nat.le_of_ble_eq_true rfl, Nat.le_of_ble_eq_true rfl⟩) hS (fun H locs hG hS => ?_)
    refine lv_if_eq (tgt := 20) hx hb dX6_misplaced_15 (by decide) (fun c15 => ?_) (fun c15 => ?_)
    · have hf := gb_t c15 hf
      refine lv_iconst (v := 0) hx hb dX6_misplaced_20 (by decide) ?_
      refine lv_istore_n (lv' := [(3, .int 0), (2, .ref (b.2.2.1 o7)), (0, .ref v0), (1, .int v1)]) hx hb dX6_misplaced_21 rfl hl (by decide) rfl (fun ls hl => ?_)
      refine w_X6_misplaced_22 X _ _ _ hf (fun x22_49 hf H locs ls hG hS hl => ?_) (fun x22_57 hf H locs ls hG hS hl => ?_) _ _ _ hG hS (lv_sub hl [2, 3, 1, 0] rfl)
      · exact (hk49 _ hf _ _ _ hG hS (lv_sub hl [0] rfl))
      · refine lv_iinc (v := x22_57 + 1) (lv' := [(1, .int (x22_57 + 1)), (0, .ref v0)]) hx hb dX6_misplaced_57 hl (k := 1) rfl rfl (by decide) rfl (fun ls hl => ?_)
        refine lv_iload_n hx hb dX6_misplaced_60 rfl (lv_at hl 0 rfl) ?_
        refine lv_aload_n hx hb dX6_misplaced_61 rfl (lv_at hl 1 rfl) ?_
        obtain ⟨t62, ht62, hf⟩ := gb_b hf
        refine cp_get (v := .int t62) hx hb hts gclX6 hown hK hG 1 (gfI_s ht62) (by decide) (hts _ (List.mem_of_getElem? (i := 1) rfl)) (fun _ h9 => h9) dX6_misplaced_62 ?_
        refine lv_icmp_lt (tgt := 2) hx hb dX6_misplaced_65 (by decide) (fun c65 => ?_) (fun c65 => ?_)
        · have hf := gb_t c65 hf
          exact ih _ hf hk18 hk49 hk68 _ _ _ hG hS (lv_sub hl [1, 0] rfl)
        · have hf := gb_f c65 hf
          exact (hk68 _ hf _ _ _ hG hS (lv_sub hl [] rfl))
    · have hf := gb_f c15 hf
      exact (hk18 _ hf _ _ _ hG hS (lv_sub hl [2] rfl))
set_option maxHeartbeats 4000000 in
set_option maxRecDepth 100000 in
theorem c_X6_misplaced {R : Int32} (hf : f_X6_misplaced gv h0 = some R) : Met l yX6_misplaced wsX6_misplaced rm_X6_misplaced (va_Pc [.ref h0] (gPre D b M (gW cI cL gv) (gTy cI cL))) (gQ D b (some (.int R)) M (gW cI cL gv)) 0 0 (gA b) := by
  refine gp_met (cc := cX6_misplaced) (maxL := 4) (ret := (some .int)) (by decide) rfl (Nat.le_of_ble_eq_true rfl) ?_
  intro p e s m below meth c X ls hG hl
  obtain ⟨H, hH0⟩ : ∃ H : Heap, H = s.heap := ⟨_, rfl⟩
  rw [← hH0] at hG ⊢
  have hS : va_S (gA b) s.heap H [] := by rw [hH0]; exact va_S.rf
  obtain ⟨locs, hlo⟩ : ∃ z : List Loc, z = [] := ⟨_, rfl⟩
  rw [← hlo] at hS ⊢
  unfold f_X6_misplaced at hf
  obtain ⟨hx, hb, hr, hml, hown, hts, hlocks, hKn, hBs⟩ := id X
  have hK := hKn.1
  have hE : vk_S 6 gSl gSb b.2.2.1 b.2.2.2 (gA b) s s.heap := gs_E hKn hBs
  have hZ : va_Z "java/lang/String" "COMPACT_STRINGS" "Z" (.int 1) (gA b) s s.heap := gs_Z hKn hBs
  have hZq : va_Zq "jdk/internal/util/Preconditions" "SIOOBE_FORMATTER" "Ljava/util/function/BiFunction;" (gA b) s s.heap := gs_Zq hKn hBs
  have gclX6 : gcl [5] TX6 2 wsX6_misplaced := gcl_1 rfl (fun _ h => List.mem_cons_of_mem _ (List.mem_append_right _ h))
  have hl : lv_has ls 4 [(0, .ref h0)] := hl
  refine lv_iconst (v := 0) hx hb dX6_misplaced_0 (by decide) ?_
  refine lv_istore_n (lv' := [(1, .int 0), (0, .ref h0)]) hx hb dX6_misplaced_1 rfl hl (by decide) rfl (fun ls hl => ?_)
  refine w_X6_misplaced_2 X _ _ hf (fun x2_18 hf H locs ls hG hS hl => ?_) (fun x2_49 hf H locs ls hG hS hl => ?_) (fun x2_68 hf H locs ls hG hS hl => ?_) _ _ _ hG hS (lv_sub hl [1, 0] rfl)
  · refine lv_iload_n hx hb dX6_misplaced_18 rfl (lv_at hl 0 rfl) ?_
    have hf := Option.some.inj hf
    subst hf
    exact gp_retI hx hb hr hlocks hG hS (Nat.le_of_ble_eq_true rfl) (Nat.le_of_ble_eq_true rfl) dX6_misplaced_19
  · refine lv_iload_n hx hb dX6_misplaced_49 rfl (lv_at hl 0 rfl) ?_
    have hf := Option.some.inj hf
    subst hf
    exact gp_retI hx hb hr hlocks hG hS (Nat.le_of_ble_eq_true rfl) (Nat.le_of_ble_eq_true rfl) dX6_misplaced_50
  · refine lv_bipush (v := (-9 : Int32)) hx hb dX6_misplaced_68 (by decide) ?_
    have hf := Option.some.inj hf
    subst hf
    exact gp_retI hx hb hr hlocks hG hS (Nat.le_of_ble_eq_true rfl) (Nat.le_of_ble_eq_true rfl) dX6_misplaced_70
-- X10_addLamp
abbrev rm_X10_addLamp : Room := { frames := 5, cells := 2, slots := 14, locals := 108 }
set_option maxHeartbeats 4000000 in
set_option maxRecDepth 100000 in
theorem c_X10_addLamp {v1 : Int32} {v2 : Int32} {v3 : Int32} {R : Int32 × (Nat → GV) × Nat} (hf : f_X10_addLamp gv M h0 v1 v2 v3 = some R) : Met l yX10_addLamp wsX10_addLamp rm_X10_addLamp (va_Pc [.ref h0, .int v1, .int v2, .int v3] (gPre D b M (gW cI cL gv) (gTy cI cL))) (gQ D b (some (.int R.1)) R.2.2 (gW cI cL R.2.1)) 2 14 (gA b) := by
  refine gp_met (cc := cX10_addLamp) (maxL := 5) (ret := (some .int)) (by decide) rfl (Nat.le_of_ble_eq_true rfl) ?_
  intro p e s m below meth c X ls hG hl
  obtain ⟨H, hH0⟩ : ∃ H : Heap, H = s.heap := ⟨_, rfl⟩
  rw [← hH0] at hG ⊢
  have hS : va_S (gA b) s.heap H [] := by rw [hH0]; exact va_S.rf
  obtain ⟨locs, hlo⟩ : ∃ z : List Loc, z = [] := ⟨_, rfl⟩
  rw [← hlo] at hS ⊢
  unfold f_X10_addLamp at hf
  obtain ⟨hx, hb, hr, hml, hown, hts, hlocks, hKn, hBs⟩ := id X
  have hK := hKn.1
  have gclL : gcl gLC TX5 5 wsX10_addLamp := gcl_L (fun _ h => List.mem_cons_of_mem _ (List.mem_append_left _ (List.mem_append_left _ (List.mem_append_left _ (List.mem_append_left _ (List.mem_append_left _ (List.mem_append_left _ (List.mem_append_right _ h)))))))) (fun _ h => List.mem_cons_of_mem _ (List.mem_append_left _ (List.mem_append_left _ (List.mem_append_left _ (List.mem_append_left _ (List.mem_append_left _ (List.mem_append_right _ h))))))) (fun _ h => List.mem_cons_of_mem _ (List.mem_append_left _ (List.mem_append_left _ (List.mem_append_left _ (List.mem_append_left _ (List.mem_append_right _ h)))))) (fun _ h => List.mem_cons_of_mem _ (List.mem_append_left _ (List.mem_append_left _ (List.mem_append_left _ (List.mem_append_right _ h))))) (fun _ h => List.mem_cons_of_mem _ (List.mem_append_left _ (List.mem_append_left _ (List.mem_append_right _ h)))) (fun _ h => List.mem_cons_of_mem _ (List.mem_append_left _ (List.mem_append_right _ h))) (fun _ h => List.mem_cons_of_mem _ (List.mem_append_right _ h))
  have gclX10 : gcl [8] TX10 6 wsX10_addLamp := gcl_1 rfl (fun _ h => List.mem_cons_of_mem _ (List.mem_append_left _ (List.mem_append_left _ (List.mem_append_left _ (List.mem_append_left _ (List.mem_append_left _ (List.mem_append_left _ (List.mem_append_left _ (List.mem_append_right _ h)))))))))
  have hl : lv_has ls 5 [(0, .ref h0), (1, .int v1), (2, .int v2), (3, .int v3)] := hl
  refine lv_iload_n hx hb dX10_addLamp_0 rfl (lv_at hl 2 rfl) ?_
  obtain ⟨o1, hc1, hf⟩ := gb_b hf
  refine gp_callI (va_runS (As := [.int v2]) (rest := []) ⟨hx, hb, hml, hown, hts⟩ (c_X2_isOne (l := l) (D := D) (b := b) (cI := cI) (cL := cL) hc1) (va_cwS 1 hts gX10_addLamp_X2_isOne rfl rfl rfl (by decide +kernel) ⟨Nat.le_of_ble_eq_true rfl, Nat.le_of_ble_eq_true rfl⟩) (gp_preS hKn hG) rfl rfl hl.1 rfl (lv_room (Nat.le_of_ble_eq_true rfl)) dX10_addLamp_1 ⟨Nat.le_of_ble_eq_true rfl, Nat.le_of_ble_eq_true rfl⟩) hS (fun H locs hG hS => ?_)
  refine lv_if_eq (tgt := 16) hx hb dX10_addLamp_4 (by decide) (fun c4 => ?_) (fun c4 => ?_)
  · have hf := gb_t c4 hf
    refine lv_iconst (v := (-1 : Int32)) hx hb dX10_addLamp_16 (by decide) ?_
    have hf := Option.some.inj hf
    subst hf
    exact gp_retI hx hb hr hlocks hG hS (Nat.le_of_ble_eq_true rfl) (Nat.le_of_ble_eq_true rfl) dX10_addLamp_17
  · have hf := gb_f c4 hf
    refine lv_iload_n hx hb dX10_addLamp_7 rfl (lv_at hl 3 rfl) ?_
    refine lv_if_lt (tgt := 16) hx hb dX10_addLamp_8 (by decide) (fun c8 => ?_) (fun c8 => ?_)
    · have hf := gb_t c8 hf
      refine lv_iconst (v := (-1 : Int32)) hx hb dX10_addLamp_16 (by decide) ?_
      have hf := Option.some.inj hf
      subst hf
      exact gp_retI hx hb hr hlocks hG hS (Nat.le_of_ble_eq_true rfl) (Nat.le_of_ble_eq_true rfl) dX10_addLamp_17
    · have hf := gb_f c8 hf
      refine lv_iload_n hx hb dX10_addLamp_11 rfl (lv_at hl 3 rfl) ?_
      refine lv_iconst (v := 5) hx hb dX10_addLamp_12 (by decide) ?_
      refine lv_icmp_le (tgt := 18) hx hb dX10_addLamp_13 (by decide) (fun c13 => ?_) (fun c13 => ?_)
      · have hf := gb_t c13 hf
        refine lv_aload_n hx hb dX10_addLamp_18 rfl (lv_at hl 0 rfl) ?_
        obtain ⟨t19, ht19, hf⟩ := gb_b hf
        refine cp_get (v := .int t19) hx hb hts gclX10 hown hK hG 3 (gfI_s ht19) (by decide) (hts _ (List.mem_of_getElem? (i := 1) rfl)) (fun _ h9 => h9) dX10_addLamp_19 ?_
        refine lv_if_lt (tgt := 37) hx hb dX10_addLamp_22 (by decide) (fun c22 => ?_) (fun c22 => ?_)
        · have hf := gb_t c22 hf
          refine lv_bipush (v := (-6 : Int32)) hx hb dX10_addLamp_37 (by decide) ?_
          have hf := Option.some.inj hf
          subst hf
          exact gp_retI hx hb hr hlocks hG hS (Nat.le_of_ble_eq_true rfl) (Nat.le_of_ble_eq_true rfl) dX10_addLamp_39
        · have hf := gb_f c22 hf
          refine lv_aload_n hx hb dX10_addLamp_25 rfl (lv_at hl 0 rfl) ?_
          obtain ⟨t26, ht26, hf⟩ := gb_b hf
          refine cp_get (v := .int t26) hx hb hts gclX10 hown hK hG 3 (gfI_s ht26) (by decide) (hts _ (List.mem_of_getElem? (i := 1) rfl)) (fun _ h9 => h9) dX10_addLamp_26 ?_
          refine lv_aload_n hx hb dX10_addLamp_29 rfl (lv_at hl 0 rfl) ?_
          obtain ⟨t30, ht30, hf⟩ := gb_b hf
          refine cp_get (v := va_rf t30) hx hb hts gclX10 hown hK hG 0 (gfR_s ht30) (by decide) (hts _ (List.mem_of_getElem? (i := 2) rfl)) (fun _ h9 => h9) dX10_addLamp_30 ?_
          obtain ⟨q33, hq33, hf⟩ := gb_b hf
          refine W.eq (g2 := F0 m 33 ls [.ref q33, .int t26]) (congrArg (fun z => F0 m 33 ls [va_rf z, .int t26]) hq33) ?_
          obtain ⟨t33, ht33, hf⟩ := gb_b hf
          refine cp_alenR hx hb hK hG ht33 dX10_addLamp_33 ?_
          refine lv_icmp_lt (tgt := 40) hx hb dX10_addLamp_34 (by decide) (fun c34 => ?_) (fun c34 => ?_)
          · have hf := gb_t c34 hf
            refine lv_iload_n hx hb dX10_addLamp_40 rfl (lv_at hl 1 rfl) ?_
            obtain ⟨o41, hc41, hf⟩ := gb_b hf
            refine gp_callR (va_runS (As := [.int v1]) (rest := []) ⟨hx, hb, hml, hown, hts⟩ (c_X5_ofKind (l := l) (D := D) (b := b) (cI := cI) (cL := cL) hc41) (va_cwS 1 hts gX10_addLamp_X5_ofKind rfl rfl rfl (by decide +kernel) ⟨Nat.le_of_ble_eq_true rfl, Nat.le_of_ble_eq_true rfl⟩) (gp_preS hKn hG) rfl rfl hl.1 rfl (lv_room (Nat.le_of_ble_eq_true rfl)) dX10_addLamp_41 ⟨Nat.le_of_ble_eq_true rfl, Nat.le_of_ble_eq_true rfl⟩) hS (fun H locs hG hS => ?_)
            refine gp_astore (lv' := [(4, va_rf o41.1), (0, .ref h0), (1, .int v1), (2, .int v2), (3, .int v3)]) hx hb dX10_addLamp_44 hl (by decide) rfl (fun ls hl => ?_)
            refine gp_aload (x := o41.1) hx hb dX10_addLamp_46 (lv_at hl 0 rfl) ?_
            refine lv_iload_n hx hb dX10_addLamp_48 rfl (lv_at hl 3 rfl) ?_
            obtain ⟨q49, hq49, hf⟩ := gb_b hf
            refine W.eq (g2 := F0 m 49 ls [.int v2, .ref q49]) (congrArg (fun z => F0 m 49 ls [.int v2, va_rf z]) hq49) ?_
            rw [hq49] at hl
            obtain ⟨g49, ht49, hf⟩ := gb_b hf
            refine cp_put (tyk := .int) hx hb hts gclL tyX5 tyX5_ok nmX5 hown hK hG hS 0 ht49 (by decide) (hts _ (List.mem_of_getElem? (i := 3) rfl)) (fun _ h9 => h9) rfl (by decide +kernel) rfl rfl dX10_addLamp_49 (fun H locs hG hS => ?_)
            refine lv_aload hx hb dX10_addLamp_52 (lv_at hl 0 rfl) ?_
            refine lv_iload_n hx hb dX10_addLamp_54 rfl (lv_at hl 4 rfl) ?_
            obtain ⟨g55, ht55, hf⟩ := gb_b hf
            refine cp_put (tyk := .int) hx hb hts gclL tyX5 tyX5_ok nmX5 hown hK hG hS 1 ht55 (by decide) (hts _ (List.mem_of_getElem? (i := 4) rfl)) (fun _ h9 => h9) rfl (by decide +kernel) rfl rfl dX10_addLamp_55 (fun H locs hG hS => ?_)
            refine lv_aload_n hx hb dX10_addLamp_58 rfl (lv_at hl 1 rfl) ?_
            obtain ⟨t59, ht59, hf⟩ := gb_b hf
            refine cp_get (v := va_rf t59) hx hb hts gclX10 hown hK hG 0 (gfR_s ht59) (by decide) (hts _ (List.mem_of_getElem? (i := 2) rfl)) (fun _ h9 => h9) dX10_addLamp_59 ?_
            refine lv_aload_n hx hb dX10_addLamp_62 rfl (lv_at hl 1 rfl) ?_
            obtain ⟨t63, ht63, hf⟩ := gb_b hf
            refine cp_get (v := .int t63) hx hb hts gclX10 hown hK hG 3 (gfI_s ht63) (by decide) (hts _ (List.mem_of_getElem? (i := 1) rfl)) (fun _ h9 => h9) dX10_addLamp_63 ?_
            refine lv_aload hx hb dX10_addLamp_66 (lv_at hl 0 rfl) ?_
            obtain ⟨q68, hq68, hf⟩ := gb_b hf
            refine W.eq (g2 := F0 m 68 ls [.ref q49, .int t63, .ref q68]) (congrArg (fun z => F0 m 68 ls [.ref q49, .int t63, va_rf z]) hq68) ?_
            obtain ⟨g68, ht68, hf⟩ := gb_b hf
            refine cp_aast (x := (some q49)) hx hb hKn hG hS ht68 dX10_addLamp_68 (fun H locs hG hS => ?_)
            refine lv_aload_n hx hb dX10_addLamp_69 rfl (lv_at hl 1 rfl) ?_
            refine lv_dup hx hb dX10_addLamp_70 rfl ?_
            obtain ⟨t71, ht71, hf⟩ := gb_b hf
            refine cp_get (v := .int t71) hx hb hts gclX10 hown hK hG 3 (gfI_s ht71) (by decide) (hts _ (List.mem_of_getElem? (i := 1) rfl)) (fun _ h9 => h9) dX10_addLamp_71 ?_
            refine lv_iconst (v := 1) hx hb dX10_addLamp_74 (by decide) ?_
            refine lv_iadd hx hb dX10_addLamp_75 ?_
            obtain ⟨g76, ht76, hf⟩ := gb_b hf
            refine cp_put (tyk := .int) hx hb hts gclX10 tyX10 tyX10_ok nmX10 hown hK hG hS 3 ht76 (by decide) (hts _ (List.mem_of_getElem? (i := 1) rfl)) (fun _ h9 => h9) rfl (by decide +kernel) rfl rfl dX10_addLamp_76 (fun H locs hG hS => ?_)
            refine lv_aload_n hx hb dX10_addLamp_79 rfl (lv_at hl 1 rfl) ?_
            obtain ⟨t80, ht80, hf⟩ := gb_b hf
            refine cp_get (v := .int t80) hx hb hts gclX10 hown hK hG 3 (gfI_s ht80) (by decide) (hts _ (List.mem_of_getElem? (i := 1) rfl)) (fun _ h9 => h9) dX10_addLamp_80 ?_
            refine lv_iconst (v := 1) hx hb dX10_addLamp_83 (by decide) ?_
            refine lv_isub hx hb dX10_addLamp_84 ?_
            have hf := Option.some.inj hf
            subst hf
            exact gp_retI hx hb hr hlocks hG hS (Nat.le_of_ble_eq_true rfl) (Nat.le_of_ble_eq_true rfl) dX10_addLamp_85
          · have hf := gb_f c34 hf
            refine lv_bipush (v := (-6 : Int32)) hx hb dX10_addLamp_37 (by decide) ?_
            have hf := Option.some.inj hf
            subst hf
            exact gp_retI hx hb hr hlocks hG hS (Nat.le_of_ble_eq_true rfl) (Nat.le_of_ble_eq_true rfl) dX10_addLamp_39
      · have hf := gb_f c13 hf
        refine lv_iconst (v := (-1 : Int32)) hx hb dX10_addLamp_16 (by decide) ?_
        have hf := Option.some.inj hf
        subst hf
        exact gp_retI hx hb hr hlocks hG hS (Nat.le_of_ble_eq_true rfl) (Nat.le_of_ble_eq_true rfl) dX10_addLamp_17
-- X10_peopled
abbrev rm_X10_peopled : Room := { frames := 1, cells := 0, slots := 0, locals := 22 }
set_option maxHeartbeats 4000000 in
set_option maxRecDepth 100000 in
theorem w_X10_peopled_4 {α : Type} {R : α} {K29 : Int64 → Option α} {v0 : Nat} (X : gC p s m args meth c cX10_peopled 4 (some .long) wsX10_peopled RX10 D b (gTy cI cL)) : ∀ (n : Nat) (v1 : Int64) (v3 : Int32), L_X10_peopled_4 K29 gv v0 n v1 v3 = some R → (∀ (x : Int64), K29 x = some R → ∀ (H : Heap) (locs : List Loc) (ls : Array Slot), GP D b M (gW cI cL gv) H → va_S (gA b) s.heap H locs → lv_has ls 4 [(1, .long x)] → W p l e rm_X10_peopled s m args below meth c H locs 0 0 Q (F0 m 29 ls [])) → ∀ (H : Heap) (locs : List Loc) (ls : Array Slot), GP D b M (gW cI cL gv) H → va_S (gA b) s.heap H locs → lv_has ls 4 [(0, .ref v0), (1, .long v1), (3, .int v3)] → W p l e rm_X10_peopled s m args below meth c H locs 0 0 Q (F0 m 4 ls []) := by
  obtain ⟨hx, hb, hr, hml, hown, hts, hlocks, hKn, hBs⟩ := id X
  have hK := hKn.1
  have gclX10 : gcl [8] TX10 6 wsX10_peopled := gcl_1 rfl (fun _ h => List.mem_cons_of_mem _ (List.mem_append_right _ h))
  intro n
  induction n with
  | zero =>
    intro v1 v3 hf
    cases hf
  | succ n ih =>
    intro v1 v3 hf hk29 H locs ls hG hS hl
    rw [L_X10_peopled_4.eq_2] at hf
    refine lv_iload_n hx hb dX10_peopled_4 rfl (lv_at hl 2 rfl) ?_
    refine lv_aload_n hx hb dX10_peopled_5 rfl (lv_at hl 0 rfl) ?_
    obtain ⟨t6, ht6, hf⟩ := gb_b hf
    refine cp_get (v := .int t6) hx hb hts gclX10 hown hK hG 4 (gfI_s ht6) (by decide) (hts _ (List.mem_of_getElem? (i := 1) rfl)) (fun _ h9 => h9) dX10_peopled_6 ?_
    refine lv_icmp_ge (tgt := 29) hx hb dX10_peopled_9 (by decide) (fun c9 => ?_) (fun c9 => ?_)
    · have hf := gb_t c9 hf
      exact (hk29 _ hf _ _ _ hG hS (lv_sub hl [1] rfl))
    · have hf := gb_f c9 hf
      refine lv_lload_n hx hb dX10_peopled_12 rfl (lv_at hl 1 rfl) ?_
      refine lv_aload_n hx hb dX10_peopled_13 rfl (lv_at hl 0 rfl) ?_
      refine lv_iload_n hx hb dX10_peopled_14 rfl (lv_at hl 2 rfl) ?_
      obtain ⟨o15, hc15, hf⟩ := gb_b hf
      obtain ⟨oc15, hcO15, hc15⟩ := gb_b hc15
      obtain ⟨hcg15, hci15⟩ := gfO_s hcO15
      have hci15 := List.mem_singleton.mp hci15
      obtain ⟨kc15, fc15⟩ := oc15
      dsimp only at hci15 hcg15
      subst hci15
      refine gp_callI (va_runV (As := [.int v3]) (rest := [.long v1]) ⟨hx, hb, hml, hown, hts⟩ (c_X10_cellOf (l := l) (D := D) (b := b) (cI := cI) (cL := cL) hc15) (cwV 1 hts gX10_peopled_X10_cellOf rfl rfl rfl (by decide +kernel) ⟨Nat.le_of_ble_eq_true rfl, Nat.le_of_ble_eq_true rfl⟩) (gp_preV hKn hG (cp_obj hcg15) rfl) rfl rfl hl.1 rfl (lv_room (Nat.le_of_ble_eq_true rfl)) dX10_peopled_15 ⟨Nat.le_of_ble_eq_true rfl, Nat.le_of_ble_eq_true rfl⟩) hS (fun H locs hG hS => ?_)
      obtain ⟨o18, hc18, hf⟩ := gb_b hf
      refine gp_callL (va_runS (As := [.int o15]) (rest := [.long v1]) ⟨hx, hb, hml, hown, hts⟩ (c_X2_only (l := l) (D := D) (b := b) (cI := cI) (cL := cL) hc18) (va_cwS 1 hts gX10_peopled_X2_only rfl rfl rfl (by decide +kernel) ⟨Nat.le_of_ble_eq_true rfl, Nat.le_of_ble_eq_true rfl⟩) (gp_preS hKn hG) rfl rfl hl.1 rfl (lv_room (Nat.le_of_ble_eq_true rfl)) dX10_peopled_18 ⟨Nat.le_of_ble_eq_true rfl, Nat.le_of_ble_eq_true rfl⟩) hS (fun H locs hG hS => ?_)
      refine lv_lor hx hb dX10_peopled_21 ?_
      refine lv_lstore_n (lv' := [(1, .long (v1 ||| o18)), (0, .ref v0), (3, .int v3)]) hx hb dX10_peopled_22 rfl hl (by decide) rfl (fun ls hl => ?_)
      refine lv_iinc (v := v3 + 1) (lv' := [(3, .int (v3 + 1)), (1, .long (v1 ||| o18)), (0, .ref v0)]) hx hb dX10_peopled_23 hl (k := 2) rfl rfl (by decide) rfl (fun ls hl => ?_)
      refine lv_goto (tgt := 4) hx hb dX10_peopled_26 (by decide) ?_
      exact ih _ _ hf hk29 _ _ _ hG hS (lv_sub hl [2, 1, 0] rfl)
set_option maxHeartbeats 4000000 in
set_option maxRecDepth 100000 in
theorem c_X10_peopled {R : Int64} (hf : f_X10_peopled gv h0 = some R) : Met l yX10_peopled wsX10_peopled rm_X10_peopled (va_Pc [.ref h0] (gPre D b M (gW cI cL gv) (gTy cI cL))) (gQ D b (some (.long R)) M (gW cI cL gv)) 0 0 (gA b) := by
  refine gp_met (cc := cX10_peopled) (maxL := 4) (ret := (some .long)) (by decide) rfl (Nat.le_of_ble_eq_true rfl) ?_
  intro p e s m below meth c X ls hG hl
  obtain ⟨H, hH0⟩ : ∃ H : Heap, H = s.heap := ⟨_, rfl⟩
  rw [← hH0] at hG ⊢
  have hS : va_S (gA b) s.heap H [] := by rw [hH0]; exact va_S.rf
  obtain ⟨locs, hlo⟩ : ∃ z : List Loc, z = [] := ⟨_, rfl⟩
  rw [← hlo] at hS ⊢
  unfold f_X10_peopled at hf
  obtain ⟨hx, hb, hr, hml, hown, hts, hlocks, hKn, hBs⟩ := id X
  have hK := hKn.1
  have gclX10 : gcl [8] TX10 6 wsX10_peopled := gcl_1 rfl (fun _ h => List.mem_cons_of_mem _ (List.mem_append_right _ h))
  have hl : lv_has ls 4 [(0, .ref h0)] := hl
  refine lv_lconst (v := (0 : Int64)) hx hb dX10_peopled_0 (by decide) ?_
  refine lv_lstore_n (lv' := [(1, .long (0 : Int64)), (0, .ref h0)]) hx hb dX10_peopled_1 rfl hl (by decide) rfl (fun ls hl => ?_)
  refine lv_iconst (v := 0) hx hb dX10_peopled_2 (by decide) ?_
  refine lv_istore_n (lv' := [(3, .int 0), (1, .long (0 : Int64)), (0, .ref h0)]) hx hb dX10_peopled_3 rfl hl (by decide) rfl (fun ls hl => ?_)
  refine w_X10_peopled_4 X _ _ _ hf (fun x4_29 hf H locs ls hG hS hl => ?_) _ _ _ hG hS (lv_sub hl [2, 1, 0] rfl)
  · refine lv_lload_n hx hb dX10_peopled_29 rfl (lv_at hl 0 rfl) ?_
    have hf := Option.some.inj hf
    subst hf
    exact gp_retL hx hb hr hlocks hG hS (Nat.le_of_ble_eq_true rfl) (Nat.le_of_ble_eq_true rfl) dX10_peopled_30
-- X11_yes
abbrev rm_X11_yes : Room := { frames := 0, cells := 0, slots := 0, locals := 0 }
set_option maxHeartbeats 4000000 in
set_option maxRecDepth 100000 in
theorem c_X11_yes {v0 : Int32} {R : Int32} (hf : f_X11_yes v0 = some R) : Met l yX11_yes wsX11_yes rm_X11_yes (va_Pc [.int v0] (gPre D b M (gh) (gTy cI cL))) (gQ D b (some (.int R)) M (gh)) 0 0 (gA b) := by
  refine gp_met (cc := cX11_yes) (maxL := 1) (ret := (some .int)) (by decide) rfl (Nat.le_of_ble_eq_true rfl) ?_
  intro p e s m below meth c X ls hG hl
  obtain ⟨H, hH0⟩ : ∃ H : Heap, H = s.heap := ⟨_, rfl⟩
  rw [← hH0] at hG ⊢
  have hS : va_S (gA b) s.heap H [] := by rw [hH0]; exact va_S.rf
  obtain ⟨locs, hlo⟩ : ∃ z : List Loc, z = [] := ⟨_, rfl⟩
  rw [← hlo] at hS ⊢
  unfold f_X11_yes at hf
  obtain ⟨hx, hb, hr, hml, hown, hts, hlocks, hKn, hBs⟩ := id X
  have hK := hKn.1
  have hl : lv_has ls 1 [(0, .int v0)] := hl
  refine lv_iload_n hx hb dX11_yes_0 rfl (lv_at hl 0 rfl) ?_
  have hJ1 : ∀ Z : Int32, Z = (if v0 = 0 then 0 else 1) → W p l e rm_X11_yes s m [.int v0].toArray below meth c H locs 0 0 (MQ below (gQ D b (some (.int R)) M (gh)) [.int v0].toArray s 0 0 (gA b)) (F0 m 9 ls (.int Z :: [])) := by
    intro Z hZ
    subst hZ
    have hf := Option.some.inj hf
    subst hf
    exact gp_retI hx hb hr hlocks hG hS (Nat.le_of_ble_eq_true rfl) (Nat.le_of_ble_eq_true rfl) dX11_yes_9
  refine lv_if_eq (tgt := 8) hx hb dX11_yes_1 (by decide) (fun c1 => ?_) (fun c1 => ?_)
  · rw [if_pos c1] at hJ1
    refine lv_iconst (v := 0) hx hb dX11_yes_8 (by decide) ?_
    exact hJ1 _ rfl
  · rw [if_neg c1] at hJ1
    refine lv_iconst (v := 1) hx hb dX11_yes_4 (by decide) ?_
    refine lv_goto (tgt := 9) hx hb dX11_yes_5 (by decide) ?_
    exact hJ1 _ rfl
-- X10_turnWall
abbrev rm_X10_turnWall : Room := { frames := 2, cells := 0, slots := 0, locals := 45 }
set_option maxHeartbeats 4000000 in
set_option maxRecDepth 100000 in
theorem c_X10_turnWall {v1 : Int32} {R : Int32 × (Nat → GV)} (hf : f_X10_turnWall gv h0 v1 = some R) : Met l yX10_turnWall wsX10_turnWall rm_X10_turnWall (va_Pc [.ref h0, .int v1] (gPre D b M (gW cI cL gv) (gTy cI cL))) (gQ D b (some (.int R.1)) M (gW cI cL R.2)) 0 0 (gA b) := by
  refine gp_met (cc := cX10_turnWall) (maxL := 3) (ret := (some .int)) (by decide) rfl (Nat.le_of_ble_eq_true rfl) ?_
  intro p e s m below meth c X ls hG hl
  obtain ⟨H, hH0⟩ : ∃ H : Heap, H = s.heap := ⟨_, rfl⟩
  rw [← hH0] at hG ⊢
  have hS : va_S (gA b) s.heap H [] := by rw [hH0]; exact va_S.rf
  obtain ⟨locs, hlo⟩ : ∃ z : List Loc, z = [] := ⟨_, rfl⟩
  rw [← hlo] at hS ⊢
  unfold f_X10_turnWall at hf
  obtain ⟨hx, hb, hr, hml, hown, hts, hlocks, hKn, hBs⟩ := id X
  have hK := hKn.1
  have gclX10 : gcl [8] TX10 6 wsX10_turnWall := gcl_1 rfl (fun _ h => List.mem_cons_of_mem _ (List.mem_append_right _ h))
  have hl : lv_has ls 3 [(0, .ref h0), (1, .int v1)] := hl
  refine lv_iload_n hx hb dX10_turnWall_0 rfl (lv_at hl 1 rfl) ?_
  obtain ⟨o1, hc1, hf⟩ := gb_b hf
  refine gp_callI (va_runS (As := [.int v1]) (rest := []) ⟨hx, hb, hml, hown, hts⟩ (c_X2_isOne (l := l) (D := D) (b := b) (cI := cI) (cL := cL) hc1) (va_cwS 1 hts gX10_turnWall_X2_isOne rfl rfl rfl (by decide +kernel) ⟨Nat.le_of_ble_eq_true rfl, Nat.le_of_ble_eq_true rfl⟩) (gp_preS hKn hG) rfl rfl hl.1 rfl (lv_room (Nat.le_of_ble_eq_true rfl)) dX10_turnWall_1 ⟨Nat.le_of_ble_eq_true rfl, Nat.le_of_ble_eq_true rfl⟩) hS (fun H locs hG hS => ?_)
  refine lv_if_ne (tgt := 9) hx hb dX10_turnWall_4 (by decide) (fun c4 => ?_) (fun c4 => ?_)
  · have hf := gb_f c4 hf
    refine lv_aload_n hx hb dX10_turnWall_9 rfl (lv_at hl 0 rfl) ?_
    obtain ⟨o10, hc10, hf⟩ := gb_b hf
    obtain ⟨oc10, hcO10, hc10⟩ := gb_b hc10
    obtain ⟨hcg10, hci10⟩ := gfO_s hcO10
    have hci10 := List.mem_singleton.mp hci10
    obtain ⟨kc10, fc10⟩ := oc10
    dsimp only at hci10 hcg10
    subst hci10
    refine gp_callL (va_runV (As := []) (rest := []) ⟨hx, hb, hml, hown, hts⟩ (c_X10_peopled (l := l) (D := D) (b := b) (cI := cI) (cL := cL) hc10) (cwV 0 hts gX10_turnWall_X10_peopled rfl rfl rfl (by decide +kernel) ⟨Nat.le_of_ble_eq_true rfl, Nat.le_of_ble_eq_true rfl⟩) (gp_preV hKn hG (cp_obj hcg10) rfl) rfl rfl hl.1 rfl (lv_room (Nat.le_of_ble_eq_true rfl)) dX10_turnWall_10 ⟨Nat.le_of_ble_eq_true rfl, Nat.le_of_ble_eq_true rfl⟩) hS (fun H locs hG hS => ?_)
    refine lv_iload_n hx hb dX10_turnWall_13 rfl (lv_at hl 1 rfl) ?_
    obtain ⟨o14, hc14, hf⟩ := gb_b hf
    refine gp_callI (va_runS (As := [.long o10, .int v1]) (rest := []) ⟨hx, hb, hml, hown, hts⟩ (c_X2_has (l := l) (D := D) (b := b) (cI := cI) (cL := cL) hc14) (va_cwS 2 hts gX10_turnWall_X2_has rfl rfl rfl (by decide +kernel) ⟨Nat.le_of_ble_eq_true rfl, Nat.le_of_ble_eq_true rfl⟩) (gp_preS hKn hG) rfl rfl hl.1 rfl (lv_room (Nat.le_of_ble_eq_true rfl)) dX10_turnWall_14 ⟨Nat.le_of_ble_eq_true rfl, Nat.le_of_ble_eq_true rfl⟩) hS (fun H locs hG hS => ?_)
    refine lv_if_eq (tgt := 23) hx hb dX10_turnWall_17 (by decide) (fun c17 => ?_) (fun c17 => ?_)
    · have hf := gb_t c17 hf
      refine lv_aload_n hx hb dX10_turnWall_23 rfl (lv_at hl 0 rfl) ?_
      obtain ⟨t24, ht24, hf⟩ := gb_b hf
      refine cp_get (v := .long t24) hx hb hts gclX10 hown hK hG 2 (gfJ_s ht24) (by decide) (hts _ (List.mem_of_getElem? (i := 1) rfl)) (fun _ h9 => h9) dX10_turnWall_24 ?_
      refine lv_iload_n hx hb dX10_turnWall_27 rfl (lv_at hl 1 rfl) ?_
      obtain ⟨o28, hc28, hf⟩ := gb_b hf
      refine gp_callI (va_runS (As := [.long t24, .int v1]) (rest := []) ⟨hx, hb, hml, hown, hts⟩ (c_X2_has (l := l) (D := D) (b := b) (cI := cI) (cL := cL) hc28) (va_cwS 2 hts gX10_turnWall_X2_has rfl rfl rfl (by decide +kernel) ⟨Nat.le_of_ble_eq_true rfl, Nat.le_of_ble_eq_true rfl⟩) (gp_preS hKn hG) rfl rfl hl.1 rfl (lv_room (Nat.le_of_ble_eq_true rfl)) dX10_turnWall_28 ⟨Nat.le_of_ble_eq_true rfl, Nat.le_of_ble_eq_true rfl⟩) hS (fun H locs hG hS => ?_)
      refine lv_istore_n (lv' := [(2, .int o28), (0, .ref h0), (1, .int v1)]) hx hb dX10_turnWall_31 rfl hl (by decide) rfl (fun ls hl => ?_)
      refine lv_iload_n hx hb dX10_turnWall_32 rfl (lv_at hl 0 rfl) ?_
      refine lv_if_ne (tgt := 51) hx hb dX10_turnWall_33 (by decide) (fun c33 => ?_) (fun c33 => ?_)
      · have hf := gb_f c33 hf
        refine lv_aload_n hx hb dX10_turnWall_51 rfl (lv_at hl 1 rfl) ?_
        refine lv_dup hx hb dX10_turnWall_52 rfl ?_
        obtain ⟨t53, ht53, hf⟩ := gb_b hf
        refine cp_get (v := .long t53) hx hb hts gclX10 hown hK hG 2 (gfJ_s ht53) (by decide) (hts _ (List.mem_of_getElem? (i := 1) rfl)) (fun _ h9 => h9) dX10_turnWall_53 ?_
        refine lv_iload_n hx hb dX10_turnWall_56 rfl (lv_at hl 2 rfl) ?_
        obtain ⟨o57, hc57, hf⟩ := gb_b hf
        refine gp_callL (va_runS (As := [.int v1]) (rest := [.long t53, .ref h0]) ⟨hx, hb, hml, hown, hts⟩ (c_X2_only (l := l) (D := D) (b := b) (cI := cI) (cL := cL) hc57) (va_cwS 1 hts gX10_turnWall_X2_only rfl rfl rfl (by decide +kernel) ⟨Nat.le_of_ble_eq_true rfl, Nat.le_of_ble_eq_true rfl⟩) (gp_preS hKn hG) rfl rfl hl.1 rfl (lv_room (Nat.le_of_ble_eq_true rfl)) dX10_turnWall_57 ⟨Nat.le_of_ble_eq_true rfl, Nat.le_of_ble_eq_true rfl⟩) hS (fun H locs hG hS => ?_)
        refine lv_lxor hx hb dX10_turnWall_60 ?_
        obtain ⟨g61, ht61, hf⟩ := gb_b hf
        refine cp_put (tyk := .long) hx hb hts gclX10 tyX10 tyX10_ok nmX10 hown hK hG hS 2 ht61 (by decide) (hts _ (List.mem_of_getElem? (i := 1) rfl)) (fun _ h9 => h9) rfl (by decide +kernel) rfl rfl dX10_turnWall_61 (fun H locs hG hS => ?_)
        refine lv_iload_n hx hb dX10_turnWall_64 rfl (lv_at hl 0 rfl) ?_
        have hJ65 : ∀ Z : Int32, Z = (if o28 = 0 then 1 else 0) → W p l e rm_X10_turnWall s m [.ref h0, .int v1].toArray below meth c H locs 0 0 (MQ below (gQ D b (some (.int R.1)) M (gW cI cL R.2)) [.ref h0, .int v1].toArray s 0 0 (gA b)) (F0 m 73 ls (.int Z :: [])) := by
          intro Z hZ
          subst hZ
          obtain ⟨o73, hc73, hf⟩ := gb_b hf
          refine gp_callI (va_runSN (As := [.int (if o28 = 0 then 1 else 0)]) (rest := []) ⟨hx, hb, hml, hown, hts⟩ (c_X11_yes (l := l) (D := D) (b := b) (cI := cI) (cL := cL) hc73) ⟨va_cnB 1 hts gX10_turnWall_X11_yes_n82 rfl rfl rfl (hKn.2.1 _ (List.mem_of_getElem? (i := 14) rfl)) (hts _ (List.mem_of_getElem? (i := 36) rfl)) (by decide +kernel) ⟨Nat.le_of_ble_eq_true rfl, Nat.le_of_ble_eq_true rfl⟩, (hts _ (List.mem_of_getElem? (i := 35) rfl)), trivial⟩ (gp_preS hKn hG) rfl rfl hl.1 rfl (lv_room (Nat.le_of_ble_eq_true rfl)) dX10_turnWall_73 ⟨Nat.le_of_ble_eq_true rfl, Nat.le_of_ble_eq_true rfl⟩) hS (fun H locs hG hS => ?_)
          have hf := Option.some.inj hf
          subst hf
          exact gp_retI hx hb hr hlocks hG hS (Nat.le_of_ble_eq_true rfl) (Nat.le_of_ble_eq_true rfl) dX10_turnWall_76
        refine lv_if_ne (tgt := 72) hx hb dX10_turnWall_65 (by decide) (fun c65 => ?_) (fun c65 => ?_)
        · rw [if_neg c65] at hJ65
          refine lv_iconst (v := 0) hx hb dX10_turnWall_72 (by decide) ?_
          exact hJ65 _ rfl
        · rw [if_pos c65] at hJ65
          refine lv_iconst (v := 1) hx hb dX10_turnWall_68 (by decide) ?_
          refine lv_goto (tgt := 73) hx hb dX10_turnWall_69 (by decide) ?_
          exact hJ65 _ rfl
      · have hf := gb_t c33 hf
        refine lv_aload_n hx hb dX10_turnWall_36 rfl (lv_at hl 1 rfl) ?_
        obtain ⟨t37, ht37, hf⟩ := gb_b hf
        refine cp_get (v := .long t37) hx hb hts gclX10 hown hK hG 2 (gfJ_s ht37) (by decide) (hts _ (List.mem_of_getElem? (i := 1) rfl)) (fun _ h9 => h9) dX10_turnWall_37 ?_
        obtain ⟨o40, hc40, hf⟩ := gb_b hf
        refine gp_callI (va_runS (As := [.long t37]) (rest := []) ⟨hx, hb, hml, hown, hts⟩ (c_X2_howMany (l := l) (D := D) (b := b) (cI := cI) (cL := cL) hc40) (va_cwS 1 hts gX10_turnWall_X2_howMany rfl rfl rfl (by decide +kernel) ⟨Nat.le_of_ble_eq_true rfl, Nat.le_of_ble_eq_true rfl⟩) (gp_preS hKn hG) rfl rfl hl.1 rfl (lv_room (Nat.le_of_ble_eq_true rfl)) dX10_turnWall_40 ⟨Nat.le_of_ble_eq_true rfl, Nat.le_of_ble_eq_true rfl⟩) hS (fun H locs hG hS => ?_)
        refine lv_bipush (v := 18) hx hb dX10_turnWall_43 (by decide) ?_
        refine lv_icmp_lt (tgt := 51) hx hb dX10_turnWall_45 (by decide) (fun c45 => ?_) (fun c45 => ?_)
        · have hf := gb_t c45 hf
          refine lv_aload_n hx hb dX10_turnWall_51 rfl (lv_at hl 1 rfl) ?_
          refine lv_dup hx hb dX10_turnWall_52 rfl ?_
          obtain ⟨t53, ht53, hf⟩ := gb_b hf
          refine cp_get (v := .long t53) hx hb hts gclX10 hown hK hG 2 (gfJ_s ht53) (by decide) (hts _ (List.mem_of_getElem? (i := 1) rfl)) (fun _ h9 => h9) dX10_turnWall_53 ?_
          refine lv_iload_n hx hb dX10_turnWall_56 rfl (lv_at hl 2 rfl) ?_
          obtain ⟨o57, hc57, hf⟩ := gb_b hf
          refine gp_callL (va_runS (As := [.int v1]) (rest := [.long t53, .ref h0]) ⟨hx, hb, hml, hown, hts⟩ (c_X2_only (l := l) (D := D) (b := b) (cI := cI) (cL := cL) hc57) (va_cwS 1 hts gX10_turnWall_X2_only rfl rfl rfl (by decide +kernel) ⟨Nat.le_of_ble_eq_true rfl, Nat.le_of_ble_eq_true rfl⟩) (gp_preS hKn hG) rfl rfl hl.1 rfl (lv_room (Nat.le_of_ble_eq_true rfl)) dX10_turnWall_57 ⟨Nat.le_of_ble_eq_true rfl, Nat.le_of_ble_eq_true rfl⟩) hS (fun H locs hG hS => ?_)
          refine lv_lxor hx hb dX10_turnWall_60 ?_
          obtain ⟨g61, ht61, hf⟩ := gb_b hf
          refine cp_put (tyk := .long) hx hb hts gclX10 tyX10 tyX10_ok nmX10 hown hK hG hS 2 ht61 (by decide) (hts _ (List.mem_of_getElem? (i := 1) rfl)) (fun _ h9 => h9) rfl (by decide +kernel) rfl rfl dX10_turnWall_61 (fun H locs hG hS => ?_)
          refine lv_iload_n hx hb dX10_turnWall_64 rfl (lv_at hl 0 rfl) ?_
          have hJ65 : ∀ Z : Int32, Z = (if o28 = 0 then 1 else 0) → W p l e rm_X10_turnWall s m [.ref h0, .int v1].toArray below meth c H locs 0 0 (MQ below (gQ D b (some (.int R.1)) M (gW cI cL R.2)) [.ref h0, .int v1].toArray s 0 0 (gA b)) (F0 m 73 ls (.int Z :: [])) := by
            intro Z hZ
            subst hZ
            obtain ⟨o73, hc73, hf⟩ := gb_b hf
            refine gp_callI (va_runSN (As := [.int (if o28 = 0 then 1 else 0)]) (rest := []) ⟨hx, hb, hml, hown, hts⟩ (c_X11_yes (l := l) (D := D) (b := b) (cI := cI) (cL := cL) hc73) ⟨va_cnB 1 hts gX10_turnWall_X11_yes_n82 rfl rfl rfl (hKn.2.1 _ (List.mem_of_getElem? (i := 14) rfl)) (hts _ (List.mem_of_getElem? (i := 36) rfl)) (by decide +kernel) ⟨Nat.le_of_ble_eq_true rfl, Nat.le_of_ble_eq_true rfl⟩, (hts _ (List.mem_of_getElem? (i := 35) rfl)), trivial⟩ (gp_preS hKn hG) rfl rfl hl.1 rfl (lv_room (Nat.le_of_ble_eq_true rfl)) dX10_turnWall_73 ⟨Nat.le_of_ble_eq_true rfl, Nat.le_of_ble_eq_true rfl⟩) hS (fun H locs hG hS => ?_)
            have hf := Option.some.inj hf
            subst hf
            exact gp_retI hx hb hr hlocks hG hS (Nat.le_of_ble_eq_true rfl) (Nat.le_of_ble_eq_true rfl) dX10_turnWall_76
          refine lv_if_ne (tgt := 72) hx hb dX10_turnWall_65 (by decide) (fun c65 => ?_) (fun c65 => ?_)
          · rw [if_neg c65] at hJ65
            refine lv_iconst (v := 0) hx hb dX10_turnWall_72 (by decide) ?_
            exact hJ65 _ rfl
          · rw [if_pos c65] at hJ65
            refine lv_iconst (v := 1) hx hb dX10_turnWall_68 (by decide) ?_
            refine lv_goto (tgt := 73) hx hb dX10_turnWall_69 (by decide) ?_
            exact hJ65 _ rfl
        · have hf := gb_f c45 hf
          refine lv_bipush (v := (-6 : Int32)) hx hb dX10_turnWall_48 (by decide) ?_
          have hf := Option.some.inj hf
          subst hf
          exact gp_retI hx hb hr hlocks hG hS (Nat.le_of_ble_eq_true rfl) (Nat.le_of_ble_eq_true rfl) dX10_turnWall_50
    · have hf := gb_f c17 hf
      refine lv_bipush (v := (-3 : Int32)) hx hb dX10_turnWall_20 (by decide) ?_
      have hf := Option.some.inj hf
      subst hf
      exact gp_retI hx hb hr hlocks hG hS (Nat.le_of_ble_eq_true rfl) (Nat.le_of_ble_eq_true rfl) dX10_turnWall_22
  · have hf := gb_t c4 hf
    refine lv_iconst (v := (-1 : Int32)) hx hb dX10_turnWall_7 (by decide) ?_
    have hf := Option.some.inj hf
    subst hf
    exact gp_retI hx hb hr hlocks hG hS (Nat.le_of_ble_eq_true rfl) (Nat.le_of_ble_eq_true rfl) dX10_turnWall_8
-- X10_addPerson
abbrev rm_X10_addPerson : Room := { frames := 2, cells := 0, slots := 0, locals := 42 }
set_option maxHeartbeats 4000000 in
set_option maxRecDepth 100000 in
theorem c_X10_addPerson {v1 : Int32} {R : Int32 × (Nat → GV)} (hf : f_X10_addPerson gv h0 v1 = some R) : Met l yX10_addPerson wsX10_addPerson rm_X10_addPerson (va_Pc [.ref h0, .int v1] (gPre D b M (gW cI cL gv) (gTy cI cL))) (gQ D b (some (.int R.1)) M (gW cI cL R.2)) 0 0 (gA b) := by
  refine gp_met (cc := cX10_addPerson) (maxL := 2) (ret := (some .int)) (by decide) rfl (Nat.le_of_ble_eq_true rfl) ?_
  intro p e s m below meth c X ls hG hl
  obtain ⟨H, hH0⟩ : ∃ H : Heap, H = s.heap := ⟨_, rfl⟩
  rw [← hH0] at hG ⊢
  have hS : va_S (gA b) s.heap H [] := by rw [hH0]; exact va_S.rf
  obtain ⟨locs, hlo⟩ : ∃ z : List Loc, z = [] := ⟨_, rfl⟩
  rw [← hlo] at hS ⊢
  unfold f_X10_addPerson at hf
  obtain ⟨hx, hb, hr, hml, hown, hts, hlocks, hKn, hBs⟩ := id X
  have hK := hKn.1
  have gclX10 : gcl [8] TX10 6 wsX10_addPerson := gcl_1 rfl (fun _ h => List.mem_cons_of_mem _ (List.mem_append_right _ h))
  have hl : lv_has ls 2 [(0, .ref h0), (1, .int v1)] := hl
  refine lv_iload_n hx hb dX10_addPerson_0 rfl (lv_at hl 1 rfl) ?_
  obtain ⟨o1, hc1, hf⟩ := gb_b hf
  refine gp_callI (va_runS (As := [.int v1]) (rest := []) ⟨hx, hb, hml, hown, hts⟩ (c_X2_isOne (l := l) (D := D) (b := b) (cI := cI) (cL := cL) hc1) (va_cwS 1 hts gX10_addPerson_X2_isOne rfl rfl rfl (by decide +kernel) ⟨Nat.le_of_ble_eq_true rfl, Nat.le_of_ble_eq_true rfl⟩) (gp_preS hKn hG) rfl rfl hl.1 rfl (lv_room (Nat.le_of_ble_eq_true rfl)) dX10_addPerson_1 ⟨Nat.le_of_ble_eq_true rfl, Nat.le_of_ble_eq_true rfl⟩) hS (fun H locs hG hS => ?_)
  refine lv_if_ne (tgt := 9) hx hb dX10_addPerson_4 (by decide) (fun c4 => ?_) (fun c4 => ?_)
  · have hf := gb_f c4 hf
    refine lv_aload_n hx hb dX10_addPerson_9 rfl (lv_at hl 0 rfl) ?_
    obtain ⟨t10, ht10, hf⟩ := gb_b hf
    refine cp_get (v := .long t10) hx hb hts gclX10 hown hK hG 2 (gfJ_s ht10) (by decide) (hts _ (List.mem_of_getElem? (i := 1) rfl)) (fun _ h9 => h9) dX10_addPerson_10 ?_
    refine lv_iload_n hx hb dX10_addPerson_13 rfl (lv_at hl 1 rfl) ?_
    obtain ⟨o14, hc14, hf⟩ := gb_b hf
    refine gp_callI (va_runS (As := [.long t10, .int v1]) (rest := []) ⟨hx, hb, hml, hown, hts⟩ (c_X2_has (l := l) (D := D) (b := b) (cI := cI) (cL := cL) hc14) (va_cwS 2 hts gX10_addPerson_X2_has rfl rfl rfl (by decide +kernel) ⟨Nat.le_of_ble_eq_true rfl, Nat.le_of_ble_eq_true rfl⟩) (gp_preS hKn hG) rfl rfl hl.1 rfl (lv_room (Nat.le_of_ble_eq_true rfl)) dX10_addPerson_14 ⟨Nat.le_of_ble_eq_true rfl, Nat.le_of_ble_eq_true rfl⟩) hS (fun H locs hG hS => ?_)
    refine lv_if_eq (tgt := 23) hx hb dX10_addPerson_17 (by decide) (fun c17 => ?_) (fun c17 => ?_)
    · have hf := gb_t c17 hf
      refine lv_aload_n hx hb dX10_addPerson_23 rfl (lv_at hl 0 rfl) ?_
      obtain ⟨t24, ht24, hf⟩ := gb_b hf
      refine cp_get (v := .int t24) hx hb hts gclX10 hown hK hG 4 (gfI_s ht24) (by decide) (hts _ (List.mem_of_getElem? (i := 2) rfl)) (fun _ h9 => h9) dX10_addPerson_24 ?_
      refine lv_if_lt (tgt := 42) hx hb dX10_addPerson_27 (by decide) (fun c27 => ?_) (fun c27 => ?_)
      · have hf := gb_t c27 hf
        refine lv_bipush (v := (-6 : Int32)) hx hb dX10_addPerson_42 (by decide) ?_
        have hf := Option.some.inj hf
        subst hf
        exact gp_retI hx hb hr hlocks hG hS (Nat.le_of_ble_eq_true rfl) (Nat.le_of_ble_eq_true rfl) dX10_addPerson_44
      · have hf := gb_f c27 hf
        refine lv_aload_n hx hb dX10_addPerson_30 rfl (lv_at hl 0 rfl) ?_
        obtain ⟨t31, ht31, hf⟩ := gb_b hf
        refine cp_get (v := .int t31) hx hb hts gclX10 hown hK hG 4 (gfI_s ht31) (by decide) (hts _ (List.mem_of_getElem? (i := 2) rfl)) (fun _ h9 => h9) dX10_addPerson_31 ?_
        refine lv_aload_n hx hb dX10_addPerson_34 rfl (lv_at hl 0 rfl) ?_
        obtain ⟨t35, ht35, hf⟩ := gb_b hf
        refine cp_get (v := va_rf t35) hx hb hts gclX10 hown hK hG 1 (gfR_s ht35) (by decide) (hts _ (List.mem_of_getElem? (i := 3) rfl)) (fun _ h9 => h9) dX10_addPerson_35 ?_
        obtain ⟨q38, hq38, hf⟩ := gb_b hf
        refine W.eq (g2 := F0 m 38 ls [.ref q38, .int t31]) (congrArg (fun z => F0 m 38 ls [va_rf z, .int t31]) hq38) ?_
        obtain ⟨t38, ht38, hf⟩ := gb_b hf
        refine cp_alenI hx hb hK hG ht38 dX10_addPerson_38 ?_
        refine lv_icmp_lt (tgt := 45) hx hb dX10_addPerson_39 (by decide) (fun c39 => ?_) (fun c39 => ?_)
        · have hf := gb_t c39 hf
          refine lv_aload_n hx hb dX10_addPerson_45 rfl (lv_at hl 0 rfl) ?_
          obtain ⟨t46, ht46, hf⟩ := gb_b hf
          refine cp_get (v := va_rf t46) hx hb hts gclX10 hown hK hG 1 (gfR_s ht46) (by decide) (hts _ (List.mem_of_getElem? (i := 3) rfl)) (fun _ h9 => h9) dX10_addPerson_46 ?_
          refine lv_aload_n hx hb dX10_addPerson_49 rfl (lv_at hl 0 rfl) ?_
          obtain ⟨t50, ht50, hf⟩ := gb_b hf
          refine cp_get (v := .int t50) hx hb hts gclX10 hown hK hG 4 (gfI_s ht50) (by decide) (hts _ (List.mem_of_getElem? (i := 2) rfl)) (fun _ h9 => h9) dX10_addPerson_50 ?_
          refine lv_iload_n hx hb dX10_addPerson_53 rfl (lv_at hl 1 rfl) ?_
          obtain ⟨q54, hq54, hf⟩ := gb_b hf
          refine W.eq (g2 := F0 m 54 ls [.int v1, .int t50, .ref q54]) (congrArg (fun z => F0 m 54 ls [.int v1, .int t50, va_rf z]) hq54) ?_
          obtain ⟨g54, ht54, hf⟩ := gb_b hf
          refine cp_iast hx hb hK hG hS ht54 dX10_addPerson_54 (fun H locs hG hS => ?_)
          refine lv_aload_n hx hb dX10_addPerson_55 rfl (lv_at hl 0 rfl) ?_
          refine lv_dup hx hb dX10_addPerson_56 rfl ?_
          obtain ⟨t57, ht57, hf⟩ := gb_b hf
          refine cp_get (v := .int t57) hx hb hts gclX10 hown hK hG 4 (gfI_s ht57) (by decide) (hts _ (List.mem_of_getElem? (i := 2) rfl)) (fun _ h9 => h9) dX10_addPerson_57 ?_
          refine lv_iconst (v := 1) hx hb dX10_addPerson_60 (by decide) ?_
          refine lv_iadd hx hb dX10_addPerson_61 ?_
          obtain ⟨g62, ht62, hf⟩ := gb_b hf
          refine cp_put (tyk := .int) hx hb hts gclX10 tyX10 tyX10_ok nmX10 hown hK hG hS 4 ht62 (by decide) (hts _ (List.mem_of_getElem? (i := 2) rfl)) (fun _ h9 => h9) rfl (by decide +kernel) rfl rfl dX10_addPerson_62 (fun H locs hG hS => ?_)
          refine lv_aload_n hx hb dX10_addPerson_65 rfl (lv_at hl 0 rfl) ?_
          obtain ⟨t66, ht66, hf⟩ := gb_b hf
          refine cp_get (v := .int t66) hx hb hts gclX10 hown hK hG 4 (gfI_s ht66) (by decide) (hts _ (List.mem_of_getElem? (i := 2) rfl)) (fun _ h9 => h9) dX10_addPerson_66 ?_
          refine lv_iconst (v := 1) hx hb dX10_addPerson_69 (by decide) ?_
          refine lv_isub hx hb dX10_addPerson_70 ?_
          have hf := Option.some.inj hf
          subst hf
          exact gp_retI hx hb hr hlocks hG hS (Nat.le_of_ble_eq_true rfl) (Nat.le_of_ble_eq_true rfl) dX10_addPerson_71
        · have hf := gb_f c39 hf
          refine lv_bipush (v := (-6 : Int32)) hx hb dX10_addPerson_42 (by decide) ?_
          have hf := Option.some.inj hf
          subst hf
          exact gp_retI hx hb hr hlocks hG hS (Nat.le_of_ble_eq_true rfl) (Nat.le_of_ble_eq_true rfl) dX10_addPerson_44
    · have hf := gb_f c17 hf
      refine lv_bipush (v := (-3 : Int32)) hx hb dX10_addPerson_20 (by decide) ?_
      have hf := Option.some.inj hf
      subst hf
      exact gp_retI hx hb hr hlocks hG hS (Nat.le_of_ble_eq_true rfl) (Nat.le_of_ble_eq_true rfl) dX10_addPerson_22
  · have hf := gb_t c4 hf
    refine lv_iconst (v := (-1 : Int32)) hx hb dX10_addPerson_7 (by decide) ?_
    have hf := Option.some.inj hf
    subst hf
    exact gp_retI hx hb hr hlocks hG hS (Nat.le_of_ble_eq_true rfl) (Nat.le_of_ble_eq_true rfl) dX10_addPerson_8
end
