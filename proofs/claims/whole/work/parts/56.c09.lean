section
variable {p : Program} {l : Launch} {e : Env} {s : State} {m : MethodId} {args : Array Value} {below : List Frame} {meth : Method} {c : Code} {D : va_G} {b : GB} {M : Nat} {cI cL : ClassId} {h0 : Nat} {gv : Nat → GV} {gh : Nat → va_E} {Q : State → Prop}
-- J1_indexOfChar_4cfef
abbrev rm_J1_indexOfChar_4cfef : Room := { frames := 0, cells := 0, slots := 0, locals := 0 }
set_option maxHeartbeats 4000000 in
set_option maxRecDepth 100000 in
theorem w_J1_indexOfChar_4cfef_7 {α : Type} {R : α} {K22 : Int32 → Option α} {K31 : Unit → Option α} {v0 : Nat} {v3 : Int32} {v4 : Int32} (X : gC p s m args meth c cJ1_indexOfChar_4cfef 6 (some .int) wsJ1_indexOfChar_4cfef RJ1 D b (gTy cI cL)) : ∀ (n : Nat) (v5 : Int32), L_J1_indexOfChar_4cfef_7 K22 K31 v0 v3 v4 n v5 = some R → (∀ (x : Int32), K22 x = some R → ∀ (H : Heap) (locs : List Loc) (ls : Array Slot), GP D b M (gh) H → va_S (gA b) s.heap H locs → lv_has ls 6 [(5, .int x)] → W p l e rm_J1_indexOfChar_4cfef s m args below meth c H locs 0 0 Q (F0 m 22 ls [])) → (∀ (x : Unit), K31 x = some R → ∀ (H : Heap) (locs : List Loc) (ls : Array Slot), GP D b M (gh) H → va_S (gA b) s.heap H locs → lv_has ls 6 [] → W p l e rm_J1_indexOfChar_4cfef s m args below meth c H locs 0 0 Q (F0 m 31 ls [])) → ∀ (H : Heap) (locs : List Loc) (ls : Array Slot), GP D b M (gh) H → va_S (gA b) s.heap H locs → lv_has ls 6 [(0, .ref (b.2.2.2 v0)), (3, .int v3), (4, .int v4), (5, .int v5)] → W p l e rm_J1_indexOfChar_4cfef s m args below meth c H locs 0 0 Q (F0 m 7 ls []) := by
  obtain ⟨hx, hb, hr, hml, hown, hts, hlocks, hKn, hBs⟩ := id X
  have hK := hKn.1
  have hE : vk_S 6 gSl gSb b.2.2.1 b.2.2.2 (gA b) s s.heap := gs_E hKn hBs
  have hZ : va_Z "java/lang/String" "COMPACT_STRINGS" "Z" (.int 1) (gA b) s s.heap := gs_Z hKn hBs
  have hZq : va_Zq "jdk/internal/util/Preconditions" "SIOOBE_FORMATTER" "Ljava/util/function/BiFunction;" (gA b) s s.heap := gs_Zq hKn hBs
  intro n
  induction n with
  | zero =>
    intro v5 hf
    cases hf
  | succ n ih =>
    intro v5 hf hk22 hk31 H locs ls hG hS hl
    rw [L_J1_indexOfChar_4cfef_7.eq_2] at hf
    refine lv_iload hx hb dJ1_indexOfChar_4cfef_7 (lv_at hl 3 rfl) ?_
    refine lv_iload_n hx hb dJ1_indexOfChar_4cfef_9 rfl (lv_at hl 1 rfl) ?_
    refine lv_icmp_ge (tgt := 31) hx hb dJ1_indexOfChar_4cfef_10 (by decide) (fun c10 => ?_) (fun c10 => ?_)
    · have hf := gb_t c10 hf
      exact (hk31 _ hf _ _ _ hG hS (lv_sub hl [] rfl))
    · have hf := gb_f c10 hf
      refine lv_aload_n hx hb dJ1_indexOfChar_4cfef_13 rfl (lv_at hl 0 rfl) ?_
      refine lv_iload hx hb dJ1_indexOfChar_4cfef_14 (lv_at hl 3 rfl) ?_
      obtain ⟨hi16, hf⟩ := gb_si hf
      obtain ⟨hb16, hf⟩ := gb_ix hf
      refine va_tb hx hb (hE.1 _ hi16).2.2.2 hS hb16 rfl dJ1_indexOfChar_4cfef_16 ?_
      refine lv_iload hx hb dJ1_indexOfChar_4cfef_17 (lv_at hl 2 rfl) ?_
      refine lv_icmp_ne (tgt := 25) hx hb dJ1_indexOfChar_4cfef_19 (by decide) (fun c19 => ?_) (fun c19 => ?_)
      · have hf := gb_f c19 hf
        refine lv_iinc (v := v5 + 1) (lv' := [(5, .int (v5 + 1)), (0, .ref (b.2.2.2 v0)), (3, .int v3), (4, .int v4)]) hx hb dJ1_indexOfChar_4cfef_25 hl (k := 3) rfl rfl (by decide) rfl (fun ls hl => ?_)
        refine lv_goto (tgt := 7) hx hb dJ1_indexOfChar_4cfef_28 (by decide) ?_
        exact ih _ hf hk22 hk31 _ _ _ hG hS (lv_sub hl [1, 2, 3, 0] rfl)
      · have hf := gb_t c19 hf
        exact (hk22 _ hf _ _ _ hG hS (lv_sub hl [3] rfl))
set_option maxHeartbeats 4000000 in
set_option maxRecDepth 100000 in
theorem c_J1_indexOfChar_4cfef {v0 : Nat} {v1 : Int32} {v2 : Int32} {v3 : Int32} {R : Int32} (hf : f_J1_indexOfChar_4cfef v0 v1 v2 v3 = some R) : Met l yJ1_indexOfChar_4cfef wsJ1_indexOfChar_4cfef rm_J1_indexOfChar_4cfef (va_Pc [.ref (b.2.2.2 v0), .int v1, .int v2, .int v3] (gPre D b M (gh) (gTy cI cL))) (gQ D b (some (.int R)) M (gh)) 0 0 (gA b) := by
  refine gp_met (cc := cJ1_indexOfChar_4cfef) (maxL := 6) (ret := (some .int)) (by decide) rfl (Nat.le_of_ble_eq_true rfl) ?_
  intro p e s m below meth c X ls hG hl
  obtain ⟨H, hH0⟩ : ∃ H : Heap, H = s.heap := ⟨_, rfl⟩
  rw [← hH0] at hG ⊢
  have hS : va_S (gA b) s.heap H [] := by rw [hH0]; exact va_S.rf
  obtain ⟨locs, hlo⟩ : ∃ z : List Loc, z = [] := ⟨_, rfl⟩
  rw [← hlo] at hS ⊢
  unfold f_J1_indexOfChar_4cfef at hf
  obtain ⟨hx, hb, hr, hml, hown, hts, hlocks, hKn, hBs⟩ := id X
  have hK := hKn.1
  have hE : vk_S 6 gSl gSb b.2.2.1 b.2.2.2 (gA b) s s.heap := gs_E hKn hBs
  have hZ : va_Z "java/lang/String" "COMPACT_STRINGS" "Z" (.int 1) (gA b) s s.heap := gs_Z hKn hBs
  have hZq : va_Zq "jdk/internal/util/Preconditions" "SIOOBE_FORMATTER" "Ljava/util/function/BiFunction;" (gA b) s s.heap := gs_Zq hKn hBs
  have hl : lv_has ls 6 [(0, .ref (b.2.2.2 v0)), (1, .int v1), (2, .int v2), (3, .int v3)] := hl
  refine lv_iload_n hx hb dJ1_indexOfChar_4cfef_0 rfl (lv_at hl 1 rfl) ?_
  refine lv_i2b hx hb dJ1_indexOfChar_4cfef_1 rfl ?_
  refine lv_istore (lv' := [(4, .int v1.toInt8.toInt32), (0, .ref (b.2.2.2 v0)), (1, .int v1), (2, .int v2), (3, .int v3)]) hx hb dJ1_indexOfChar_4cfef_2 hl (by decide) rfl (fun ls hl => ?_)
  refine lv_iload_n hx hb dJ1_indexOfChar_4cfef_4 rfl (lv_at hl 3 rfl) ?_
  refine lv_istore (lv' := [(5, .int v2), (4, .int v1.toInt8.toInt32), (0, .ref (b.2.2.2 v0)), (1, .int v1), (2, .int v2), (3, .int v3)]) hx hb dJ1_indexOfChar_4cfef_5 hl (by decide) rfl (fun ls hl => ?_)
  refine w_J1_indexOfChar_4cfef_7 X _ _ hf (fun x7_22 hf H locs ls hG hS hl => ?_) (fun x7_31 hf H locs ls hG hS hl => ?_) _ _ _ hG hS (lv_sub hl [2, 5, 1, 0] rfl)
  · refine lv_iload hx hb dJ1_indexOfChar_4cfef_22 (lv_at hl 0 rfl) ?_
    have hf := Option.some.inj hf
    subst hf
    exact gp_retI hx hb hr hlocks hG hS (Nat.le_of_ble_eq_true rfl) (Nat.le_of_ble_eq_true rfl) dJ1_indexOfChar_4cfef_24
  · refine lv_iconst (v := (-1 : Int32)) hx hb dJ1_indexOfChar_4cfef_31 (by decide) ?_
    have hf := Option.some.inj hf
    subst hf
    exact gp_retI hx hb hr hlocks hG hS (Nat.le_of_ble_eq_true rfl) (Nat.le_of_ble_eq_true rfl) dJ1_indexOfChar_4cfef_32
-- J1_indexOf_4cfef
abbrev rm_J1_indexOf_4cfef : Room := { frames := 1, cells := 0, slots := 0, locals := 25 }
set_option maxHeartbeats 4000000 in
set_option maxRecDepth 100000 in
theorem c_J1_indexOf_4cfef {v0 : Nat} {v1 : Int32} {v2 : Int32} {v3 : Int32} {R : Int32} (hf : f_J1_indexOf_4cfef v0 v1 v2 v3 = some R) : Met l yJ1_indexOf_4cfef wsJ1_indexOf_4cfef rm_J1_indexOf_4cfef (va_Pc [.ref (b.2.2.2 v0), .int v1, .int v2, .int v3] (gPre D b M (gh) (gTy cI cL))) (gQ D b (some (.int R)) M (gh)) 0 0 (gA b) := by
  refine gp_met (cc := cJ1_indexOf_4cfef) (maxL := 4) (ret := (some .int)) (by decide) rfl (Nat.le_of_ble_eq_true rfl) ?_
  intro p e s m below meth c X ls hG hl
  obtain ⟨H, hH0⟩ : ∃ H : Heap, H = s.heap := ⟨_, rfl⟩
  rw [← hH0] at hG ⊢
  have hS : va_S (gA b) s.heap H [] := by rw [hH0]; exact va_S.rf
  obtain ⟨locs, hlo⟩ : ∃ z : List Loc, z = [] := ⟨_, rfl⟩
  rw [← hlo] at hS ⊢
  unfold f_J1_indexOf_4cfef at hf
  obtain ⟨hx, hb, hr, hml, hown, hts, hlocks, hKn, hBs⟩ := id X
  have hK := hKn.1
  have hE : vk_S 6 gSl gSb b.2.2.1 b.2.2.2 (gA b) s s.heap := gs_E hKn hBs
  have hZ : va_Z "java/lang/String" "COMPACT_STRINGS" "Z" (.int 1) (gA b) s s.heap := gs_Z hKn hBs
  have hZq : va_Zq "jdk/internal/util/Preconditions" "SIOOBE_FORMATTER" "Ljava/util/function/BiFunction;" (gA b) s s.heap := gs_Zq hKn hBs
  have hl : lv_has ls 4 [(0, .ref (b.2.2.2 v0)), (1, .int v1), (2, .int v2), (3, .int v3)] := hl
  refine lv_iload_n hx hb dJ1_indexOf_4cfef_0 rfl (lv_at hl 1 rfl) ?_
  obtain ⟨o1, hc1, hf⟩ := gb_b hf
  refine gp_callI (va_runS (As := [.int v1]) (rest := []) ⟨hx, hb, hml, hown, hts⟩ (c_J1_canEncode_9a6ad (l := l) (D := D) (b := b) (cI := cI) (cL := cL) hc1) (va_cwS 1 hts gJ1_indexOf_4cfef_J1_canEncode_9a6ad rfl rfl rfl (by decide +kernel) ⟨Nat.le_of_ble_eq_true rfl, Nat.le_of_ble_eq_true rfl⟩) (gp_preS hKn hG) rfl rfl hl.1 rfl (lv_room (Nat.le_of_ble_eq_true rfl)) dJ1_indexOf_4cfef_1 ⟨Nat.le_of_ble_eq_true rfl, Nat.le_of_ble_eq_true rfl⟩) hS (fun H locs hG hS => ?_)
  refine lv_if_ne (tgt := 9) hx hb dJ1_indexOf_4cfef_4 (by decide) (fun c4 => ?_) (fun c4 => ?_)
  · have hf := gb_f c4 hf
    refine lv_iload_n hx hb dJ1_indexOf_4cfef_9 rfl (lv_at hl 2 rfl) ?_
    refine lv_iconst (v := 0) hx hb dJ1_indexOf_4cfef_10 (by decide) ?_
    refine va_mmax hx hb (hml.trans hl.1.symm) hown (hts _ (List.mem_of_getElem? (i := 1) rfl)) (hts _ (List.mem_of_getElem? (i := 2) rfl)) (hts _ (List.mem_of_getElem? (i := 3) rfl)) (hts _ (List.mem_of_getElem? (i := 4) rfl)) (Nat.le_of_ble_eq_true rfl) (Nat.le_of_ble_eq_true rfl) (Nat.le_of_ble_eq_true rfl) (Nat.le_of_ble_eq_true rfl) dJ1_indexOf_4cfef_11 ?_
    refine lv_istore_n (lv' := [(2, .int (if v2 < 0 then 0 else v2)), (0, .ref (b.2.2.2 v0)), (1, .int v1), (3, .int v3)]) hx hb dJ1_indexOf_4cfef_14 rfl hl (by decide) rfl (fun ls hl => ?_)
    refine lv_iload_n hx hb dJ1_indexOf_4cfef_15 rfl (lv_at hl 3 rfl) ?_
    refine lv_aload_n hx hb dJ1_indexOf_4cfef_16 rfl (lv_at hl 1 rfl) ?_
    obtain ⟨hi17, hf⟩ := gb_si hf
    refine va_tlen hx hb (hE.1 _ hi17).2.2.2 hS rfl dJ1_indexOf_4cfef_17 ?_
    refine va_mmin hx hb (hml.trans hl.1.symm) hown (hts _ (List.mem_of_getElem? (i := 5) rfl)) (hts _ (List.mem_of_getElem? (i := 6) rfl)) (hts _ (List.mem_of_getElem? (i := 3) rfl)) (hts _ (List.mem_of_getElem? (i := 7) rfl)) (Nat.le_of_ble_eq_true rfl) (Nat.le_of_ble_eq_true rfl) (Nat.le_of_ble_eq_true rfl) (Nat.le_of_ble_eq_true rfl) dJ1_indexOf_4cfef_18 ?_
    refine lv_istore_n (lv' := [(3, .int (if (Int32.ofNat (gSl.getD v0 0)) < v3 then Int32.ofNat (gSl.getD v0 0) else v3)), (2, .int (if v2 < 0 then 0 else v2)), (0, .ref (b.2.2.2 v0)), (1, .int v1)]) hx hb dJ1_indexOf_4cfef_21 rfl hl (by decide) rfl (fun ls hl => ?_)
    refine lv_iload_n hx hb dJ1_indexOf_4cfef_22 rfl (lv_at hl 1 rfl) ?_
    refine lv_iload_n hx hb dJ1_indexOf_4cfef_23 rfl (lv_at hl 0 rfl) ?_
    refine lv_icmp_lt (tgt := 29) hx hb dJ1_indexOf_4cfef_24 (by decide) (fun c24 => ?_) (fun c24 => ?_)
    · have hf := gb_t c24 hf
      refine lv_aload_n hx hb dJ1_indexOf_4cfef_29 rfl (lv_at hl 2 rfl) ?_
      refine lv_iload_n hx hb dJ1_indexOf_4cfef_30 rfl (lv_at hl 3 rfl) ?_
      refine lv_iload_n hx hb dJ1_indexOf_4cfef_31 rfl (lv_at hl 1 rfl) ?_
      refine lv_iload_n hx hb dJ1_indexOf_4cfef_32 rfl (lv_at hl 0 rfl) ?_
      obtain ⟨o33, hc33, hf⟩ := gb_b hf
      refine gp_callI (va_runS (As := [.ref (b.2.2.2 v0), .int v1, .int (if v2 < 0 then 0 else v2), .int (if (Int32.ofNat (gSl.getD v0 0)) < v3 then Int32.ofNat (gSl.getD v0 0) else v3)]) (rest := []) ⟨hx, hb, hml, hown, hts⟩ (c_J1_indexOfChar_4cfef (l := l) (D := D) (b := b) (cI := cI) (cL := cL) hc33) (va_cwS 4 hts gJ1_indexOf_4cfef_J1_indexOfChar_4cfef rfl rfl rfl (by decide +kernel) ⟨Nat.le_of_ble_eq_true rfl, Nat.le_of_ble_eq_true rfl⟩) (gp_preS hKn hG) rfl rfl hl.1 rfl (lv_room (Nat.le_of_ble_eq_true rfl)) dJ1_indexOf_4cfef_33 ⟨Nat.le_of_ble_eq_true rfl, Nat.le_of_ble_eq_true rfl⟩) hS (fun H locs hG hS => ?_)
      have hf := Option.some.inj hf
      subst hf
      exact gp_retI hx hb hr hlocks hG hS (Nat.le_of_ble_eq_true rfl) (Nat.le_of_ble_eq_true rfl) dJ1_indexOf_4cfef_36
    · have hf := gb_f c24 hf
      refine lv_iconst (v := (-1 : Int32)) hx hb dJ1_indexOf_4cfef_27 (by decide) ?_
      have hf := Option.some.inj hf
      subst hf
      exact gp_retI hx hb hr hlocks hG hS (Nat.le_of_ble_eq_true rfl) (Nat.le_of_ble_eq_true rfl) dJ1_indexOf_4cfef_28
  · have hf := gb_t c4 hf
    refine lv_iconst (v := (-1 : Int32)) hx hb dJ1_indexOf_4cfef_7 (by decide) ?_
    have hf := Option.some.inj hf
    subst hf
    exact gp_retI hx hb hr hlocks hG hS (Nat.le_of_ble_eq_true rfl) (Nat.le_of_ble_eq_true rfl) dJ1_indexOf_4cfef_8
-- J0_indexOf_7cf53
abbrev rm_J0_indexOf_7cf53 : Room := { frames := 2, cells := 0, slots := 0, locals := 48 }
set_option maxHeartbeats 4000000 in
set_option maxRecDepth 100000 in
theorem c_J0_indexOf_7cf53 {v0 : Nat} {v1 : Int32} {v2 : Int32} {R : Int32} (hf : f_J0_indexOf_7cf53 v0 v1 v2 = some R) : Met l yJ0_indexOf_7cf53 wsJ0_indexOf_7cf53 rm_J0_indexOf_7cf53 (va_Pc [.ref (b.2.2.1 v0), .int v1, .int v2] (gPre D b M (gh) (gTy cI cL))) (gQ D b (some (.int R)) M (gh)) 0 0 (gA b) := by
  refine gp_met (cc := cJ0_indexOf_7cf53) (maxL := 3) (ret := (some .int)) (by decide) rfl (Nat.le_of_ble_eq_true rfl) ?_
  intro p e s m below meth c X ls hG hl
  obtain ⟨H, hH0⟩ : ∃ H : Heap, H = s.heap := ⟨_, rfl⟩
  rw [← hH0] at hG ⊢
  have hS : va_S (gA b) s.heap H [] := by rw [hH0]; exact va_S.rf
  obtain ⟨locs, hlo⟩ : ∃ z : List Loc, z = [] := ⟨_, rfl⟩
  rw [← hlo] at hS ⊢
  unfold f_J0_indexOf_7cf53 at hf
  obtain ⟨hx, hb, hr, hml, hown, hts, hlocks, hKn, hBs⟩ := id X
  have hK := hKn.1
  have hE : vk_S 6 gSl gSb b.2.2.1 b.2.2.2 (gA b) s s.heap := gs_E hKn hBs
  have hZ : va_Z "java/lang/String" "COMPACT_STRINGS" "Z" (.int 1) (gA b) s s.heap := gs_Z hKn hBs
  have hZq : va_Zq "jdk/internal/util/Preconditions" "SIOOBE_FORMATTER" "Ljava/util/function/BiFunction;" (gA b) s s.heap := gs_Zq hKn hBs
  have hl : lv_has ls 3 [(0, .ref (b.2.2.1 v0)), (1, .int v1), (2, .int v2)] := hl
  refine lv_aload_n hx hb dJ0_indexOf_7cf53_0 rfl (lv_at hl 0 rfl) ?_
  obtain ⟨hi1, hf⟩ := gb_si hf
  obtain ⟨o1, hc1, hf⟩ := gb_b hf
  refine gp_callI (va_runV (As := []) (rest := []) ⟨hx, hb, hml, hown, hts⟩ (c_J0_isLatin1_aae02 (l := l) (D := D) (b := b) (cI := cI) (cL := cL) hc1) (cwV 0 hts gJ0_indexOf_7cf53_J0_isLatin1_aae02 rfl rfl rfl (by decide +kernel) ⟨Nat.le_of_ble_eq_true rfl, Nat.le_of_ble_eq_true rfl⟩) (gs_preV hKn hG hE hi1 hS) rfl rfl hl.1 rfl (lv_room (Nat.le_of_ble_eq_true rfl)) dJ0_indexOf_7cf53_1 ⟨Nat.le_of_ble_eq_true rfl, Nat.le_of_ble_eq_true rfl⟩) hS (fun H locs hG hS => ?_)
  obtain ⟨j4, hj4, hf⟩ := gb_b hf
  have hJ4 : ∀ (H : Heap) (locs : List Loc) (ls : Array Slot), GP D b M (gh) H → va_S (gA b) s.heap H locs → lv_has ls 3 [] → W p l e rm_J0_indexOf_7cf53 s m [.ref (b.2.2.1 v0), .int v1, .int v2].toArray below meth c H locs 0 0 (MQ below (gQ D b (some (.int R)) M (gh)) [.ref (b.2.2.1 v0), .int v1, .int v2].toArray s 0 0 (gA b)) (F0 m 36 ls [.int j4]) := by
    intro H locs ls hG hS hl
    have hf := Option.some.inj hf
    subst hf
    exact gp_retI hx hb hr hlocks hG hS (Nat.le_of_ble_eq_true rfl) (Nat.le_of_ble_eq_true rfl) dJ0_indexOf_7cf53_36
  refine lv_if_eq (tgt := 23) hx hb dJ0_indexOf_7cf53_4 (by decide) (fun c4 => ?_) (fun c4 => ?_)
  · have hj4 := gb_t c4 hj4
    cases hj4
  · have hj4 := gb_f c4 hj4
    refine lv_aload_n hx hb dJ0_indexOf_7cf53_7 rfl (lv_at hl 0 rfl) ?_
    obtain ⟨hi8, hj4⟩ := gb_si hj4
    refine vk_getf (v := .ref (b.2.2.2 v0)) hx hb (hE.1 _ hi8).2.2.1 hS hown (hts _ (List.mem_of_getElem? (i := 1) rfl)) (fun _ h9 => h9) dJ0_indexOf_7cf53_8 ?_
    refine lv_iload_n hx hb dJ0_indexOf_7cf53_11 rfl (lv_at hl 1 rfl) ?_
    refine lv_iload_n hx hb dJ0_indexOf_7cf53_12 rfl (lv_at hl 2 rfl) ?_
    refine lv_aload_n hx hb dJ0_indexOf_7cf53_13 rfl (lv_at hl 0 rfl) ?_
    obtain ⟨hi14, hj4⟩ := gb_si hj4
    obtain ⟨o14, hc14, hj4⟩ := gb_b hj4
    refine gp_callI (va_runV (As := []) (rest := [.int v2, .int v1, .ref (b.2.2.2 v0)]) ⟨hx, hb, hml, hown, hts⟩ (c_J0_length_8abf5 (l := l) (D := D) (b := b) (cI := cI) (cL := cL) hc14) (cwV 0 hts gJ0_indexOf_7cf53_J0_length_8abf5 rfl rfl rfl (by decide +kernel) ⟨Nat.le_of_ble_eq_true rfl, Nat.le_of_ble_eq_true rfl⟩) (gs_preV hKn hG hE hi14 hS) rfl rfl hl.1 rfl (lv_room (Nat.le_of_ble_eq_true rfl)) dJ0_indexOf_7cf53_14 ⟨Nat.le_of_ble_eq_true rfl, Nat.le_of_ble_eq_true rfl⟩) hS (fun H locs hG hS => ?_)
    obtain ⟨o17, hc17, hj4⟩ := gb_b hj4
    refine gp_callI (va_runS (As := [.ref (b.2.2.2 v0), .int v1, .int v2, .int o14]) (rest := []) ⟨hx, hb, hml, hown, hts⟩ (c_J1_indexOf_4cfef (l := l) (D := D) (b := b) (cI := cI) (cL := cL) hc17) (va_cwS 4 hts gJ0_indexOf_7cf53_J1_indexOf_4cfef rfl rfl rfl (by decide +kernel) ⟨Nat.le_of_ble_eq_true rfl, Nat.le_of_ble_eq_true rfl⟩) (gp_preS hKn hG) rfl rfl hl.1 rfl (lv_room (Nat.le_of_ble_eq_true rfl)) dJ0_indexOf_7cf53_17 ⟨Nat.le_of_ble_eq_true rfl, Nat.le_of_ble_eq_true rfl⟩) hS (fun H locs hG hS => ?_)
    refine lv_goto (tgt := 36) hx hb dJ0_indexOf_7cf53_20 (by decide) ?_
    have hj4 := Option.some.inj hj4
    subst hj4
    exact (hJ4 H locs ls hG hS (lv_sub hl [] rfl))
-- J0_indexOf_0f7a4
abbrev rm_J0_indexOf_0f7a4 : Room := { frames := 3, cells := 0, slots := 0, locals := 70 }
set_option maxHeartbeats 4000000 in
set_option maxRecDepth 100000 in
theorem c_J0_indexOf_0f7a4 {v0 : Nat} {v1 : Int32} {R : Int32} (hf : f_J0_indexOf_0f7a4 v0 v1 = some R) : Met l yJ0_indexOf_0f7a4 wsJ0_indexOf_0f7a4 rm_J0_indexOf_0f7a4 (va_Pc [.ref (b.2.2.1 v0), .int v1] (gPre D b M (gh) (gTy cI cL))) (gQ D b (some (.int R)) M (gh)) 0 0 (gA b) := by
  refine gp_met (cc := cJ0_indexOf_0f7a4) (maxL := 2) (ret := (some .int)) (by decide) rfl (Nat.le_of_ble_eq_true rfl) ?_
  intro p e s m below meth c X ls hG hl
  obtain ⟨H, hH0⟩ : ∃ H : Heap, H = s.heap := ⟨_, rfl⟩
  rw [← hH0] at hG ⊢
  have hS : va_S (gA b) s.heap H [] := by rw [hH0]; exact va_S.rf
  obtain ⟨locs, hlo⟩ : ∃ z : List Loc, z = [] := ⟨_, rfl⟩
  rw [← hlo] at hS ⊢
  unfold f_J0_indexOf_0f7a4 at hf
  obtain ⟨hx, hb, hr, hml, hown, hts, hlocks, hKn, hBs⟩ := id X
  have hK := hKn.1
  have hE : vk_S 6 gSl gSb b.2.2.1 b.2.2.2 (gA b) s s.heap := gs_E hKn hBs
  have hZ : va_Z "java/lang/String" "COMPACT_STRINGS" "Z" (.int 1) (gA b) s s.heap := gs_Z hKn hBs
  have hZq : va_Zq "jdk/internal/util/Preconditions" "SIOOBE_FORMATTER" "Ljava/util/function/BiFunction;" (gA b) s s.heap := gs_Zq hKn hBs
  have hl : lv_has ls 2 [(0, .ref (b.2.2.1 v0)), (1, .int v1)] := hl
  refine lv_aload_n hx hb dJ0_indexOf_0f7a4_0 rfl (lv_at hl 0 rfl) ?_
  refine lv_iload_n hx hb dJ0_indexOf_0f7a4_1 rfl (lv_at hl 1 rfl) ?_
  refine lv_iconst (v := 0) hx hb dJ0_indexOf_0f7a4_2 (by decide) ?_
  obtain ⟨hi3, hf⟩ := gb_si hf
  obtain ⟨o3, hc3, hf⟩ := gb_b hf
  refine gp_callI (va_runV (As := [.int v1, .int 0]) (rest := []) ⟨hx, hb, hml, hown, hts⟩ (c_J0_indexOf_7cf53 (l := l) (D := D) (b := b) (cI := cI) (cL := cL) hc3) (cwV 2 hts gJ0_indexOf_0f7a4_J0_indexOf_7cf53 rfl rfl rfl (by decide +kernel) ⟨Nat.le_of_ble_eq_true rfl, Nat.le_of_ble_eq_true rfl⟩) (gs_preV hKn hG hE hi3 hS) rfl rfl hl.1 rfl (lv_room (Nat.le_of_ble_eq_true rfl)) dJ0_indexOf_0f7a4_3 ⟨Nat.le_of_ble_eq_true rfl, Nat.le_of_ble_eq_true rfl⟩) hS (fun H locs hG hS => ?_)
  have hf := Option.some.inj hf
  subst hf
  exact gp_retI hx hb hr hlocks hG hS (Nat.le_of_ble_eq_true rfl) (Nat.le_of_ble_eq_true rfl) dJ0_indexOf_0f7a4_6
-- X6_fits
abbrev rm_X6_fits : Room := { frames := 4, cells := 0, slots := 0, locals := 91 }
set_option maxHeartbeats 4000000 in
set_option maxRecDepth 100000 in
theorem c_X6_fits {v0 : Int32} {v1 : Int32} {R : Int32} (hf : f_X6_fits v0 v1 = some R) : Met l yX6_fits wsX6_fits rm_X6_fits (va_Pc [.int v0, .int v1] (gPre D b M (gh) (gTy cI cL))) (gQ D b (some (.int R)) M (gh)) 0 0 (gA b) := by
  refine gp_met (cc := cX6_fits) (maxL := 2) (ret := (some .boolean)) (by decide) rfl (Nat.le_of_ble_eq_true rfl) ?_
  intro p e s m below meth c X ls hG hl
  obtain ⟨H, hH0⟩ : ∃ H : Heap, H = s.heap := ⟨_, rfl⟩
  rw [← hH0] at hG ⊢
  have hS : va_S (gA b) s.heap H [] := by rw [hH0]; exact va_S.rf
  obtain ⟨locs, hlo⟩ : ∃ z : List Loc, z = [] := ⟨_, rfl⟩
  rw [← hlo] at hS ⊢
  unfold f_X6_fits at hf
  obtain ⟨hx, hb, hr, hml, hown, hts, hlocks, hKn, hBs⟩ := id X
  have hK := hKn.1
  have hE : vk_S 6 gSl gSb b.2.2.1 b.2.2.2 (gA b) s s.heap := gs_E hKn hBs
  have hZ : va_Z "java/lang/String" "COMPACT_STRINGS" "Z" (.int 1) (gA b) s s.heap := gs_Z hKn hBs
  have hZq : va_Zq "jdk/internal/util/Preconditions" "SIOOBE_FORMATTER" "Ljava/util/function/BiFunction;" (gA b) s s.heap := gs_Zq hKn hBs
  have hl : lv_has ls 2 [(0, .int v0), (1, .int v1)] := hl
  refine lv_iload_n hx hb dX6_fits_0 rfl (lv_at hl 0 rfl) ?_
  by_cases c1_100 : v0 = 100
  · have hf := gb_t c1_100 hf
    refine lv_lookup (tgt := 48) (off := 47) hx hb dX6_fits_1 (by decide) (by rw [c1_100]; decide) (by decide) ?_
    refine lv_iload_n hx hb dX6_fits_48 rfl (lv_at hl 1 rfl) ?_
    refine lv_bipush (v := 48) hx hb dX6_fits_49 (by decide) ?_
    have hJ51 : ∀ Z : Int32, Z = (if v1 < 48 then 0 else if 57 < v1 then 0 else 1) → W p l e rm_X6_fits s m [.int v0, .int v1].toArray below meth c H locs 0 0 (MQ below (gQ D b (some (.int R)) M (gh)) [.int v0, .int v1].toArray s 0 0 (gA b)) (F0 m 65 ls (.int Z :: [])) := by
      intro Z hZ
      subst hZ
      obtain ⟨z65, hf⟩ := gb_zb hf
      have hf := Option.some.inj hf
      subst hf
      exact gp_retZ hx hb hr z65 hlocks hG hS (Nat.le_of_ble_eq_true rfl) (Nat.le_of_ble_eq_true rfl) dX6_fits_65
    refine lv_icmp_lt (tgt := 64) hx hb dX6_fits_51 (by decide) (fun c51 => ?_) (fun c51 => ?_)
    · rw [if_pos c51] at hJ51
      refine lv_iconst (v := 0) hx hb dX6_fits_64 (by decide) ?_
      exact hJ51 _ rfl
    · rw [if_neg c51] at hJ51
      refine lv_iload_n hx hb dX6_fits_54 rfl (lv_at hl 1 rfl) ?_
      refine lv_bipush (v := 57) hx hb dX6_fits_55 (by decide) ?_
      refine lv_icmp_gt (tgt := 64) hx hb dX6_fits_57 (by decide) (fun c57 => ?_) (fun c57 => ?_)
      · rw [if_pos c57] at hJ51
        refine lv_iconst (v := 0) hx hb dX6_fits_64 (by decide) ?_
        exact hJ51 _ rfl
      · rw [if_neg c57] at hJ51
        refine lv_iconst (v := 1) hx hb dX6_fits_60 (by decide) ?_
        refine lv_goto (tgt := 65) hx hb dX6_fits_61 (by decide) ?_
        exact hJ51 _ rfl
  · have hf := gb_f c1_100 hf
    by_cases c1_107 : v0 = 107
    · have hf := gb_t c1_107 hf
      refine lv_lookup (tgt := 28) (off := 27) hx hb dX6_fits_1 (by decide) (by rw [c1_107]; decide) (by decide) ?_
      refine lv_iload_n hx hb dX6_fits_28 rfl (lv_at hl 1 rfl) ?_
      obtain ⟨j29, hj29, hf⟩ := gb_b hf
      have hJ29 : ∀ (H : Heap) (locs : List Loc) (ls : Array Slot), GP D b M (gh) H → va_S (gA b) s.heap H locs → lv_has ls 2 [] → W p l e rm_X6_fits s m [.int v0, .int v1].toArray below meth c H locs 0 0 (MQ below (gQ D b (some (.int R)) M (gh)) [.int v0, .int v1].toArray s 0 0 (gA b)) (F0 m 47 ls [.int j29]) := by
        intro H locs ls hG hS hl
        obtain ⟨z47, hf⟩ := gb_zb hf
        have hf := Option.some.inj hf
        subst hf
        exact gp_retZ hx hb hr z47 hlocks hG hS (Nat.le_of_ble_eq_true rfl) (Nat.le_of_ble_eq_true rfl) dX6_fits_47
      refine lv_if_le (tgt := 46) hx hb dX6_fits_29 (by decide) (fun c29 => ?_) (fun c29 => ?_)
      · have hj29 := gb_t c29 hj29
        refine lv_iconst (v := 0) hx hb dX6_fits_46 (by decide) ?_
        have hj29 := Option.some.inj hj29
        subst hj29
        exact (hJ29 H locs ls hG hS (lv_sub hl [] rfl))
      · have hj29 := gb_f c29 hj29
        refine va_ldcS hx hb hown (hKn.2.2.2.2.2.1 5 (by decide)) dX6_fits_32 ?_
        refine lv_iload_n hx hb dX6_fits_34 rfl (lv_at hl 1 rfl) ?_
        refine lv_i2c hx hb dX6_fits_35 rfl ?_
        obtain ⟨hi36, hj29⟩ := gb_si hj29
        obtain ⟨o36, hc36, hj29⟩ := gb_b hj29
        refine gp_callI (va_runV (As := [.int ((v1.toUInt32 % 65536).toInt32)]) (rest := []) ⟨hx, hb, hml, hown, hts⟩ (c_J0_indexOf_0f7a4 (l := l) (D := D) (b := b) (cI := cI) (cL := cL) hc36) (cwV 1 hts gX6_fits_J0_indexOf_0f7a4 rfl rfl rfl (by decide +kernel) ⟨Nat.le_of_ble_eq_true rfl, Nat.le_of_ble_eq_true rfl⟩) (gs_preV hKn hG hE hi36 hS) rfl rfl hl.1 rfl (lv_room (Nat.le_of_ble_eq_true rfl)) dX6_fits_36 ⟨Nat.le_of_ble_eq_true rfl, Nat.le_of_ble_eq_true rfl⟩) hS (fun H locs hG hS => ?_)
        refine lv_if_lt (tgt := 46) hx hb dX6_fits_39 (by decide) (fun c39 => ?_) (fun c39 => ?_)
        · have hj29 := gb_t c39 hj29
          refine lv_iconst (v := 0) hx hb dX6_fits_46 (by decide) ?_
          have hj29 := Option.some.inj hj29
          subst hj29
          exact (hJ29 H locs ls hG hS (lv_sub hl [] rfl))
        · have hj29 := gb_f c39 hj29
          refine lv_iconst (v := 1) hx hb dX6_fits_42 (by decide) ?_
          refine lv_goto (tgt := 47) hx hb dX6_fits_43 (by decide) ?_
          have hj29 := Option.some.inj hj29
          subst hj29
          exact (hJ29 H locs ls hG hS (lv_sub hl [] rfl))
    · have hf := gb_f c1_107 hf
      refine lv_lookup (tgt := 66) (off := 65) hx hb dX6_fits_1 (by decide) (by show Op.lookupswitch.offset [(100, 47), (107, 27)] _ _ = _; rw [lv_osw (k := 100) (a := 100) c1_100 rfl]; rw [lv_osw (k := 107) (a := 107) c1_107 rfl]; rfl) (by decide) ?_
      refine lv_iload_n hx hb dX6_fits_66 rfl (lv_at hl 1 rfl) ?_
      refine lv_iload_n hx hb dX6_fits_67 rfl (lv_at hl 0 rfl) ?_
      have hJ68 : ∀ Z : Int32, Z = (if v1 = v0 then 1 else 0) → W p l e rm_X6_fits s m [.int v0, .int v1].toArray below meth c H locs 0 0 (MQ below (gQ D b (some (.int R)) M (gh)) [.int v0, .int v1].toArray s 0 0 (gA b)) (F0 m 76 ls (.int Z :: [])) := by
        intro Z hZ
        subst hZ
        obtain ⟨z76, hf⟩ := gb_zb hf
        have hf := Option.some.inj hf
        subst hf
        exact gp_retZ hx hb hr z76 hlocks hG hS (Nat.le_of_ble_eq_true rfl) (Nat.le_of_ble_eq_true rfl) dX6_fits_76
      refine lv_icmp_ne (tgt := 75) hx hb dX6_fits_68 (by decide) (fun c68 => ?_) (fun c68 => ?_)
      · rw [if_neg c68] at hJ68
        refine lv_iconst (v := 0) hx hb dX6_fits_75 (by decide) ?_
        exact hJ68 _ rfl
      · rw [if_pos c68] at hJ68
        refine lv_iconst (v := 1) hx hb dX6_fits_71 (by decide) ?_
        refine lv_goto (tgt := 76) hx hb dX6_fits_72 (by decide) ?_
        exact hJ68 _ rfl
-- X6_formAfter
abbrev rm_X6_formAfter : Room := { frames := 0, cells := 0, slots := 0, locals := 0 }
set_option maxHeartbeats 4000000 in
set_option maxRecDepth 100000 in
theorem c_X6_formAfter {v0 : Int32} {R : Nat} (hf : f_X6_formAfter v0 = some R) : Met l yX6_formAfter wsX6_formAfter rm_X6_formAfter (va_Pc [.int v0] (gPre D b M (gh) (gTy cI cL))) (gQ D b (some (.ref (b.2.2.1 R))) M (gh)) 0 0 (gA b) := by
  refine gp_met (cc := cX6_formAfter) (maxL := 1) (ret := (some (.object "java/lang/String"))) (by decide) rfl (Nat.le_of_ble_eq_true rfl) ?_
  intro p e s m below meth c X ls hG hl
  obtain ⟨H, hH0⟩ : ∃ H : Heap, H = s.heap := ⟨_, rfl⟩
  rw [← hH0] at hG ⊢
  have hS : va_S (gA b) s.heap H [] := by rw [hH0]; exact va_S.rf
  obtain ⟨locs, hlo⟩ : ∃ z : List Loc, z = [] := ⟨_, rfl⟩
  rw [← hlo] at hS ⊢
  unfold f_X6_formAfter at hf
  obtain ⟨hx, hb, hr, hml, hown, hts, hlocks, hKn, hBs⟩ := id X
  have hK := hKn.1
  have hl : lv_has ls 1 [(0, .int v0)] := hl
  refine lv_iload_n hx hb dX6_formAfter_0 rfl (lv_at hl 0 rfl) ?_
  by_cases c1_98 : v0 = 98
  · have hf := gb_t c1_98 hf
    refine lv_lookup (tgt := 69) (off := 68) hx hb dX6_formAfter_1 (by decide) (by rw [c1_98]; decide) (by decide) ?_
    refine va_ldcS hx hb hown (hKn.2.2.2.2.2.1 3 (by decide)) dX6_formAfter_69 ?_
    have hf := Option.some.inj hf
    subst hf
    exact gp_retS hx hb hr hlocks hG hS (Nat.le_of_ble_eq_true rfl) (Nat.le_of_ble_eq_true rfl) dX6_formAfter_71
  · have hf := gb_f c1_98 hf
    by_cases c1_103 : v0 = 103
    · have hf := gb_t c1_103 hf
      refine lv_lookup (tgt := 63) (off := 62) hx hb dX6_formAfter_1 (by decide) (by rw [c1_103]; decide) (by decide) ?_
      refine va_ldcS hx hb hown (hKn.2.2.2.2.2.1 1 (by decide)) dX6_formAfter_63 ?_
      have hf := Option.some.inj hf
      subst hf
      exact gp_retS hx hb hr hlocks hG hS (Nat.le_of_ble_eq_true rfl) (Nat.le_of_ble_eq_true rfl) dX6_formAfter_65
    · have hf := gb_f c1_103 hf
      by_cases c1_108 : v0 = 108
      · have hf := gb_t c1_108 hf
        refine lv_lookup (tgt := 60) (off := 59) hx hb dX6_formAfter_1 (by decide) (by rw [c1_108]; decide) (by decide) ?_
        refine va_ldcS hx hb hown (hKn.2.2.2.2.2.1 0 (by decide)) dX6_formAfter_60 ?_
        have hf := Option.some.inj hf
        subst hf
        exact gp_retS hx hb hr hlocks hG hS (Nat.le_of_ble_eq_true rfl) (Nat.le_of_ble_eq_true rfl) dX6_formAfter_62
      · have hf := gb_f c1_108 hf
        by_cases c1_112 : v0 = 112
        · have hf := gb_t c1_112 hf
          refine lv_lookup (tgt := 66) (off := 65) hx hb dX6_formAfter_1 (by decide) (by rw [c1_112]; decide) (by decide) ?_
          refine va_ldcS hx hb hown (hKn.2.2.2.2.2.1 2 (by decide)) dX6_formAfter_66 ?_
          have hf := Option.some.inj hf
          subst hf
          exact gp_retS hx hb hr hlocks hG hS (Nat.le_of_ble_eq_true rfl) (Nat.le_of_ble_eq_true rfl) dX6_formAfter_68
        · have hf := gb_f c1_112 hf
          by_cases c1_115 : v0 = 115
          · have hf := gb_t c1_115 hf
            refine lv_lookup (tgt := 69) (off := 68) hx hb dX6_formAfter_1 (by decide) (by rw [c1_115]; decide) (by decide) ?_
            refine va_ldcS hx hb hown (hKn.2.2.2.2.2.1 3 (by decide)) dX6_formAfter_69 ?_
            have hf := Option.some.inj hf
            subst hf
            exact gp_retS hx hb hr hlocks hG hS (Nat.le_of_ble_eq_true rfl) (Nat.le_of_ble_eq_true rfl) dX6_formAfter_71
          · have hf := gb_f c1_115 hf
            by_cases c1_119 : v0 = 119
            · have hf := gb_t c1_119 hf
              refine lv_lookup (tgt := 66) (off := 65) hx hb dX6_formAfter_1 (by decide) (by rw [c1_119]; decide) (by decide) ?_
              refine va_ldcS hx hb hown (hKn.2.2.2.2.2.1 2 (by decide)) dX6_formAfter_66 ?_
              have hf := Option.some.inj hf
              subst hf
              exact gp_retS hx hb hr hlocks hG hS (Nat.le_of_ble_eq_true rfl) (Nat.le_of_ble_eq_true rfl) dX6_formAfter_68
            · have hf := gb_f c1_119 hf
              refine lv_lookup (tgt := 72) (off := 71) hx hb dX6_formAfter_1 (by decide) (by show Op.lookupswitch.offset [(98, 68), (103, 62), (108, 59), (112, 65), (115, 68), (119, 65)] _ _ = _; rw [lv_osw (k := 98) (a := 98) c1_98 rfl]; rw [lv_osw (k := 103) (a := 103) c1_103 rfl]; rw [lv_osw (k := 108) (a := 108) c1_108 rfl]; rw [lv_osw (k := 112) (a := 112) c1_112 rfl]; rw [lv_osw (k := 115) (a := 115) c1_115 rfl]; rw [lv_osw (k := 119) (a := 119) c1_119 rfl]; rfl) (by decide) ?_
              refine va_ldcS hx hb hown (hKn.2.2.2.2.2.1 4 (by decide)) dX6_formAfter_72 ?_
              have hf := Option.some.inj hf
              subst hf
              exact gp_retS hx hb hr hlocks hG hS (Nat.le_of_ble_eq_true rfl) (Nat.le_of_ble_eq_true rfl) dX6_formAfter_74
-- X6_init
abbrev rm_X6_init : Room := { frames := 1, cells := 1, slots := 96, locals := 28 }
set_option maxHeartbeats 4000000 in
set_option maxRecDepth 100000 in
theorem c_X6_init {R : (Nat → GV) × Nat} (hf : f_X6_init gv M h0 = some R) : Met l yX6_init wsX6_init rm_X6_init (va_Pc [.ref h0] (gPre D b M (gW cI cL gv) (gTy cI cL))) (gQ D b none R.2 (gW cI cL R.1)) 1 96 (gA b) := by
  refine gp_metI (cc := cX6_init) (maxL := 1) (ret := none) (by decide) rfl (Nat.le_of_ble_eq_true rfl) ?_
  intro p e s m below meth c X hin0 ls hG hl
  obtain ⟨H, hH0⟩ : ∃ H : Heap, H = s.heap := ⟨_, rfl⟩
  rw [← hH0] at hG ⊢
  have hS : va_S (gA b) s.heap H [] := by rw [hH0]; exact va_S.rf
  obtain ⟨locs, hlo⟩ : ∃ z : List Loc, z = [] := ⟨_, rfl⟩
  rw [← hlo] at hS ⊢
  unfold f_X6_init at hf
  obtain ⟨hx, hb, hr, hml, hown, hts, hlocks, hKn, hBs⟩ := id X
  have hK := hKn.1
  have gclX6 : gcl [5] TX6 2 wsX6_init := gcl_1 rfl (fun _ h => List.mem_cons_of_mem _ (List.mem_append_right _ h))
  have hl : lv_has ls 1 [(0, .ref h0)] := hl
  refine lv_aload_n hx hb dX6_init_0 rfl (lv_at hl 0 rfl) ?_
  refine W.objInit hx hb hown (hts _ (List.mem_of_getElem? (i := 1) rfl)) (hts _ (List.mem_of_getElem? (i := 2) rfl)) (hts _ (List.mem_of_getElem? (i := 3) rfl)) rfl (by rw [hml]; exact hl.1) rfl dX6_init_1 (Nat.le_of_ble_eq_true rfl) (Nat.le_of_ble_eq_true rfl) ?_
  refine W.eq (g2 := F0 m 4 ls []) rfl ?_
  refine lv_aload_n hx hb dX6_init_4 rfl (lv_at hl 0 rfl) ?_
  refine lv_bipush (v := 96) hx hb dX6_init_5 (by decide) ?_
  refine gp_newa (N' := 96) (g1 := gW cI cL (va_up gv M (.inr (.inl (96, fun _ => 0))))) hx hb (hts _ (List.mem_of_getElem? (i := 4) rfl)) hK hG hS (by decide) (by decide) (by decide) (Nat.le_of_ble_eq_true rfl) (Nat.le_of_ble_eq_true rfl) (gW_up (e := .inr (.inl (96, fun _ => 0)))) dX6_init_7 (fun H hG hS => ?_)
  obtain ⟨g9, ht9, hf⟩ := gb_b hf
  refine cp_putF (tyk := .array .int) hx hb hts gclX6 tyX6 tyX6_ok nmX6 hown hK hG hS 0 ht9 (by decide) (hts _ (List.mem_of_getElem? (i := 5) rfl)) (fun _ h9 => h9) rfl hin0 rfl (by decide +kernel) rfl rfl dX6_init_9 (fun H locs hG hS => ?_)
  have hf := Option.some.inj hf
  subst hf
  exact gp_retV hx hb hr hlocks hG hS (Nat.le_of_ble_eq_true rfl) (Nat.le_of_ble_eq_true rfl) dX6_init_12
-- X6_isFull
abbrev rm_X6_isFull : Room := { frames := 0, cells := 0, slots := 0, locals := 0 }
set_option maxHeartbeats 4000000 in
set_option maxRecDepth 100000 in
theorem c_X6_isFull {R : Int32} (hf : f_X6_isFull gv h0 = some R) : Met l yX6_isFull wsX6_isFull rm_X6_isFull (va_Pc [.ref h0] (gPre D b M (gW cI cL gv) (gTy cI cL))) (gQ D b (some (.int R)) M (gW cI cL gv)) 0 0 (gA b) := by
  refine gp_met (cc := cX6_isFull) (maxL := 1) (ret := (some .boolean)) (by decide) rfl (Nat.le_of_ble_eq_true rfl) ?_
  intro p e s m below meth c X ls hG hl
  obtain ⟨H, hH0⟩ : ∃ H : Heap, H = s.heap := ⟨_, rfl⟩
  rw [← hH0] at hG ⊢
  have hS : va_S (gA b) s.heap H [] := by rw [hH0]; exact va_S.rf
  obtain ⟨locs, hlo⟩ : ∃ z : List Loc, z = [] := ⟨_, rfl⟩
  rw [← hlo] at hS ⊢
  unfold f_X6_isFull at hf
  obtain ⟨hx, hb, hr, hml, hown, hts, hlocks, hKn, hBs⟩ := id X
  have hK := hKn.1
  have gclX6 : gcl [5] TX6 2 wsX6_isFull := gcl_1 rfl (fun _ h => List.mem_cons_of_mem _ (List.mem_append_right _ h))
  have hl : lv_has ls 1 [(0, .ref h0)] := hl
  refine lv_aload_n hx hb dX6_isFull_0 rfl (lv_at hl 0 rfl) ?_
  obtain ⟨t1, ht1, hf⟩ := gb_b hf
  refine cp_get (v := .int t1) hx hb hts gclX6 hown hK hG 1 (gfI_s ht1) (by decide) (hts _ (List.mem_of_getElem? (i := 1) rfl)) (fun _ h9 => h9) dX6_isFull_1 ?_
  refine lv_aload_n hx hb dX6_isFull_4 rfl (lv_at hl 0 rfl) ?_
  obtain ⟨t5, ht5, hf⟩ := gb_b hf
  refine cp_get (v := va_rf t5) hx hb hts gclX6 hown hK hG 0 (gfR_s ht5) (by decide) (hts _ (List.mem_of_getElem? (i := 2) rfl)) (fun _ h9 => h9) dX6_isFull_5 ?_
  obtain ⟨q8, hq8, hf⟩ := gb_b hf
  refine W.eq (g2 := F0 m 8 ls [.ref q8, .int t1]) (congrArg (fun z => F0 m 8 ls [va_rf z, .int t1]) hq8) ?_
  obtain ⟨t8, ht8, hf⟩ := gb_b hf
  refine cp_alenI hx hb hK hG ht8 dX6_isFull_8 ?_
  have hJ9 : ∀ Z : Int32, Z = (if t1 < t8 then 0 else 1) → W p l e rm_X6_isFull s m [.ref h0].toArray below meth c H locs 0 0 (MQ below (gQ D b (some (.int R)) M (gW cI cL gv)) [.ref h0].toArray s 0 0 (gA b)) (F0 m 17 ls (.int Z :: [])) := by
    intro Z hZ
    subst hZ
    obtain ⟨z17, hf⟩ := gb_zb hf
    have hf := Option.some.inj hf
    subst hf
    exact gp_retZ hx hb hr z17 hlocks hG hS (Nat.le_of_ble_eq_true rfl) (Nat.le_of_ble_eq_true rfl) dX6_isFull_17
  refine lv_icmp_lt (tgt := 16) hx hb dX6_isFull_9 (by decide) (fun c9 => ?_) (fun c9 => ?_)
  · rw [if_pos c9] at hJ9
    refine lv_iconst (v := 0) hx hb dX6_isFull_16 (by decide) ?_
    exact hJ9 _ rfl
  · rw [if_neg c9] at hJ9
    refine lv_iconst (v := 1) hx hb dX6_isFull_12 (by decide) ?_
    refine lv_goto (tgt := 17) hx hb dX6_isFull_13 (by decide) ?_
    exact hJ9 _ rfl
-- X6_kindAt
abbrev rm_X6_kindAt : Room := { frames := 4, cells := 0, slots := 0, locals := 91 }
set_option maxHeartbeats 4000000 in
set_option maxRecDepth 100000 in
theorem c_X6_kindAt {v1 : Int32} {R : Int32} (hf : f_X6_kindAt gv h0 v1 = some R) : Met l yX6_kindAt wsX6_kindAt rm_X6_kindAt (va_Pc [.ref h0, .int v1] (gPre D b M (gW cI cL gv) (gTy cI cL))) (gQ D b (some (.int R)) M (gW cI cL gv)) 0 0 (gA b) := by
  refine gp_met (cc := cX6_kindAt) (maxL := 3) (ret := (some .int)) (by decide) rfl (Nat.le_of_ble_eq_true rfl) ?_
  intro p e s m below meth c X ls hG hl
  obtain ⟨H, hH0⟩ : ∃ H : Heap, H = s.heap := ⟨_, rfl⟩
  rw [← hH0] at hG ⊢
  have hS : va_S (gA b) s.heap H [] := by rw [hH0]; exact va_S.rf
  obtain ⟨locs, hlo⟩ : ∃ z : List Loc, z = [] := ⟨_, rfl⟩
  rw [← hlo] at hS ⊢
  unfold f_X6_kindAt at hf
  obtain ⟨hx, hb, hr, hml, hown, hts, hlocks, hKn, hBs⟩ := id X
  have hK := hKn.1
  have hE : vk_S 6 gSl gSb b.2.2.1 b.2.2.2 (gA b) s s.heap := gs_E hKn hBs
  have hZ : va_Z "java/lang/String" "COMPACT_STRINGS" "Z" (.int 1) (gA b) s s.heap := gs_Z hKn hBs
  have hZq : va_Zq "jdk/internal/util/Preconditions" "SIOOBE_FORMATTER" "Ljava/util/function/BiFunction;" (gA b) s s.heap := gs_Zq hKn hBs
  have hl : lv_has ls 3 [(0, .ref h0), (1, .int v1)] := hl
  refine lv_aload_n hx hb dX6_kindAt_0 rfl (lv_at hl 0 rfl) ?_
  refine lv_iload_n hx hb dX6_kindAt_1 rfl (lv_at hl 1 rfl) ?_
  obtain ⟨o2, hc2, hf⟩ := gb_b hf
  obtain ⟨oc2, hcO2, hc2⟩ := gb_b hc2
  obtain ⟨hcg2, hci2⟩ := gfO_s hcO2
  have hci2 := List.mem_singleton.mp hci2
  obtain ⟨kc2, fc2⟩ := oc2
  dsimp only at hci2 hcg2
  subst hci2
  refine gp_callI (va_runV (As := [.int v1]) (rest := []) ⟨hx, hb, hml, hown, hts⟩ (c_X6_at (l := l) (D := D) (b := b) (cI := cI) (cL := cL) hc2) (cwV 1 hts gX6_kindAt_X6_at rfl rfl rfl (by decide +kernel) ⟨Nat.le_of_ble_eq_true rfl, Nat.le_of_ble_eq_true rfl⟩) (gp_preV hKn hG (cp_obj hcg2) rfl) rfl rfl hl.1 rfl (lv_room (Nat.le_of_ble_eq_true rfl)) dX6_kindAt_2 ⟨Nat.le_of_ble_eq_true rfl, Nat.le_of_ble_eq_true rfl⟩) hS (fun H locs hG hS => ?_)
  refine lv_istore_n (lv' := [(2, .int o2), (0, .ref h0), (1, .int v1)]) hx hb dX6_kindAt_5 rfl hl (by decide) rfl (fun ls hl => ?_)
  refine lv_iload_n hx hb dX6_kindAt_6 rfl (lv_at hl 0 rfl) ?_
  obtain ⟨j7, hj7, hf⟩ := gb_b hf
  have hJ7 : ∀ (H : Heap) (locs : List Loc) (ls : Array Slot), GP D b M (gW cI cL gv) H → va_S (gA b) s.heap H locs → lv_has ls 3 [] → W p l e rm_X6_kindAt s m [.ref h0, .int v1].toArray below meth c H locs 0 0 (MQ below (gQ D b (some (.int R)) M (gW cI cL gv)) [.ref h0, .int v1].toArray s 0 0 (gA b)) (F0 m 22 ls [.int j7]) := by
    intro H locs ls hG hS hl
    have hf := Option.some.inj hf
    subst hf
    exact gp_retI hx hb hr hlocks hG hS (Nat.le_of_ble_eq_true rfl) (Nat.le_of_ble_eq_true rfl) dX6_kindAt_22
  refine lv_if_le (tgt := 20) hx hb dX6_kindAt_7 (by decide) (fun c7 => ?_) (fun c7 => ?_)
  · have hj7 := gb_t c7 hj7
    refine lv_bipush (v := (-9 : Int32)) hx hb dX6_kindAt_20 (by decide) ?_
    have hj7 := Option.some.inj hj7
    subst hj7
    exact (hJ7 H locs ls hG hS (lv_sub hl [] rfl))
  · have hj7 := gb_f c7 hj7
    refine va_ldcS hx hb hown (hKn.2.2.2.2.2.1 5 (by decide)) dX6_kindAt_10 ?_
    refine lv_iload_n hx hb dX6_kindAt_12 rfl (lv_at hl 0 rfl) ?_
    refine lv_i2c hx hb dX6_kindAt_13 rfl ?_
    obtain ⟨hi14, hj7⟩ := gb_si hj7
    obtain ⟨o14, hc14, hj7⟩ := gb_b hj7
    refine gp_callI (va_runV (As := [.int ((o2.toUInt32 % 65536).toInt32)]) (rest := []) ⟨hx, hb, hml, hown, hts⟩ (c_J0_indexOf_0f7a4 (l := l) (D := D) (b := b) (cI := cI) (cL := cL) hc14) (cwV 1 hts gX6_kindAt_J0_indexOf_0f7a4 rfl rfl rfl (by decide +kernel) ⟨Nat.le_of_ble_eq_true rfl, Nat.le_of_ble_eq_true rfl⟩) (gs_preV hKn hG hE hi14 hS) rfl rfl hl.1 rfl (lv_room (Nat.le_of_ble_eq_true rfl)) dX6_kindAt_14 ⟨Nat.le_of_ble_eq_true rfl, Nat.le_of_ble_eq_true rfl⟩) hS (fun H locs hG hS => ?_)
    refine lv_goto (tgt := 22) hx hb dX6_kindAt_17 (by decide) ?_
    have hj7 := Option.some.inj hj7
    subst hj7
    exact (hJ7 H locs ls hG hS (lv_sub hl [] rfl))
-- J0_isEmpty_aae02
abbrev rm_J0_isEmpty_aae02 : Room := { frames := 0, cells := 0, slots := 0, locals := 0 }
set_option maxHeartbeats 4000000 in
set_option maxRecDepth 100000 in
theorem c_J0_isEmpty_aae02 {v0 : Nat} {R : Int32} (hf : f_J0_isEmpty_aae02 v0 = some R) : Met l yJ0_isEmpty_aae02 wsJ0_isEmpty_aae02 rm_J0_isEmpty_aae02 (va_Pc [.ref (b.2.2.1 v0)] (gPre D b M (gh) (gTy cI cL))) (gQ D b (some (.int R)) M (gh)) 0 0 (gA b) := by
  refine gp_met (cc := cJ0_isEmpty_aae02) (maxL := 1) (ret := (some .boolean)) (by decide) rfl (Nat.le_of_ble_eq_true rfl) ?_
  intro p e s m below meth c X ls hG hl
  obtain ⟨H, hH0⟩ : ∃ H : Heap, H = s.heap := ⟨_, rfl⟩
  rw [← hH0] at hG ⊢
  have hS : va_S (gA b) s.heap H [] := by rw [hH0]; exact va_S.rf
  obtain ⟨locs, hlo⟩ : ∃ z : List Loc, z = [] := ⟨_, rfl⟩
  rw [← hlo] at hS ⊢
  unfold f_J0_isEmpty_aae02 at hf
  obtain ⟨hx, hb, hr, hml, hown, hts, hlocks, hKn, hBs⟩ := id X
  have hK := hKn.1
  have hE : vk_S 6 gSl gSb b.2.2.1 b.2.2.2 (gA b) s s.heap := gs_E hKn hBs
  have hZ : va_Z "java/lang/String" "COMPACT_STRINGS" "Z" (.int 1) (gA b) s s.heap := gs_Z hKn hBs
  have hZq : va_Zq "jdk/internal/util/Preconditions" "SIOOBE_FORMATTER" "Ljava/util/function/BiFunction;" (gA b) s s.heap := gs_Zq hKn hBs
  have hl : lv_has ls 1 [(0, .ref (b.2.2.1 v0))] := hl
  refine lv_aload_n hx hb dJ0_isEmpty_aae02_0 rfl (lv_at hl 0 rfl) ?_
  obtain ⟨hi1, hf⟩ := gb_si hf
  refine vk_getf (v := .ref (b.2.2.2 v0)) hx hb (hE.1 _ hi1).2.2.1 hS hown (hts _ (List.mem_of_getElem? (i := 1) rfl)) (fun _ h9 => h9) dJ0_isEmpty_aae02_1 ?_
  obtain ⟨hi4, hf⟩ := gb_si hf
  refine va_tlen hx hb (hE.1 _ hi4).2.2.2 hS rfl dJ0_isEmpty_aae02_4 ?_
  have hJ5 : ∀ Z : Int32, Z = (if (Int32.ofNat (gSl.getD v0 0)) = 0 then 1 else 0) → W p l e rm_J0_isEmpty_aae02 s m [.ref (b.2.2.1 v0)].toArray below meth c H locs 0 0 (MQ below (gQ D b (some (.int R)) M (gh)) [.ref (b.2.2.1 v0)].toArray s 0 0 (gA b)) (F0 m 13 ls (.int Z :: [])) := by
    intro Z hZ
    subst hZ
    obtain ⟨z13, hf⟩ := gb_zb hf
    have hf := Option.some.inj hf
    subst hf
    exact gp_retZ hx hb hr z13 hlocks hG hS (Nat.le_of_ble_eq_true rfl) (Nat.le_of_ble_eq_true rfl) dJ0_isEmpty_aae02_13
  refine lv_if_ne (tgt := 12) hx hb dJ0_isEmpty_aae02_5 (by decide) (fun c5 => ?_) (fun c5 => ?_)
  · rw [if_neg c5] at hJ5
    refine lv_iconst (v := 0) hx hb dJ0_isEmpty_aae02_12 (by decide) ?_
    exact hJ5 _ rfl
  · rw [if_pos c5] at hJ5
    refine lv_iconst (v := 1) hx hb dJ0_isEmpty_aae02_8 (by decide) ?_
    refine lv_goto (tgt := 13) hx hb dJ0_isEmpty_aae02_9 (by decide) ?_
    exact hJ5 _ rfl
end
