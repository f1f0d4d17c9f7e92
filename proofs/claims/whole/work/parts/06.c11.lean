section
variable {p : Program} {l : Launch} {e : Env} {s : State} {m : MethodId} {args : Array Value} {below : List Frame} {meth : Method} {c : Code} {D : va_G} {b : GB} {M : Nat} {cI cL : ClassId} {h0 : Nat} {gv : Nat → GV} {gh : Nat → va_E} {Q : State → Prop}
-- X11_caught
abbrev rm_X11_caught : Room := { frames := 5, cells := 0, slots := 0, locals := 120 }
def L_X11_caught_33 {α : Type} (K70 : Int32 → Option α) (gv : Nat → GV) (v0 : Nat) (v2 : Int64) : Nat → Int32 → Int32 → Option α
  | 0, _, _ => none
  | n + 1, v4, v5 => (gfI gv v0 [9] 6).bind fun t36 => if t36 ≤ v5 then K70 v4 else if 0 ≤ v4 then K70 v4 else ((gfO gv v0 [9]).bind fun _ => f_X11_inRowAt gv v0 v5).bind fun o51 => (f_X2_has v2 o51).bind fun o54 => (if o54 = 0 then some v4 else some v5 : Option (Int32)).bind fun j57 => L_X11_caught_33 K70 gv v0 v2 n j57 (v5 + 1)
set_option maxHeartbeats 4000000 in
set_option maxRecDepth 100000 in
theorem w_X11_caught_33 {α : Type} {R : α} {K70 : Int32 → Option α} {v0 : Nat} {v2 : Int64} (X : gC p s m args meth c cX11_caught 6 (some .int) wsX11_caught RX11 D b (gTy cI cL)) : ∀ (n : Nat) (v4 : Int32) (v5 : Int32), L_X11_caught_33 K70 gv v0 v2 n v4 v5 = some R → (∀ (x : Int32), K70 x = some R → ∀ (H : Heap) (locs : List Loc) (ls : Array Slot), GP D b M (gW cI cL gv) H → va_S (gA b) s.heap H locs → lv_has ls 6 [(0, .ref v0), (4, .int x)] → W p l e rm_X11_caught s m args below meth c H locs 0 0 Q (F0 m 70 ls [])) → ∀ (H : Heap) (locs : List Loc) (ls : Array Slot), GP D b M (gW cI cL gv) H → va_S (gA b) s.heap H locs → lv_has ls 6 [(0, .ref v0), (2, .long v2), (4, .int v4), (5, .int v5)] → W p l e rm_X11_caught s m args below meth c H locs 0 0 Q (F0 m 33 ls []) := by
  obtain ⟨hx, hb, hr, hml, hown, hts, hlocks, hKn⟩ := id X
  have hK := hKn.1
  have gclX11 : gcl [9] TX11 8 wsX11_caught := gcl_1 rfl (fun _ h => List.mem_cons_of_mem _ (List.mem_append_left _ (List.mem_append_left _ (List.mem_append_left _ (List.mem_append_left _ (List.mem_append_left _ (List.mem_append_left _ (List.mem_append_left _ (List.mem_append_left _ (List.mem_append_right _ h))))))))))
  intro n
  induction n with
  | zero =>
    intro v4 v5 hf
    cases hf
  | succ n ih =>
    intro v4 v5 hf hk70 H locs ls hG hS hl
    rw [L_X11_caught_33.eq_2] at hf
    refine lv_iload hx hb dX11_caught_33 (lv_at hl 3 rfl) ?_
    refine lv_aload_n hx hb dX11_caught_35 rfl (lv_at hl 0 rfl) ?_
    obtain ⟨t36, ht36, hf⟩ := gb_b hf
    refine cp_get (v := .int t36) hx hb hts gclX11 hown hK hG 6 (gfI_s ht36) (by decide) (hts _ (List.mem_of_getElem? (i := 2) rfl)) (fun _ h9 => h9) dX11_caught_36 ?_
    refine lv_icmp_ge (tgt := 70) hx hb dX11_caught_39 (by decide) (fun c39 => ?_) (fun c39 => ?_)
    · have hf := gb_t c39 hf
      exact (hk70 _ hf _ _ _ hG hS (lv_sub hl [0, 2] rfl))
    · have hf := gb_f c39 hf
      refine lv_iload hx hb dX11_caught_42 (lv_at hl 2 rfl) ?_
      refine lv_if_ge (tgt := 70) hx hb dX11_caught_44 (by decide) (fun c44 => ?_) (fun c44 => ?_)
      · have hf := gb_t c44 hf
        exact (hk70 _ hf _ _ _ hG hS (lv_sub hl [0, 2] rfl))
      · have hf := gb_f c44 hf
        refine lv_lload_n hx hb dX11_caught_47 rfl (lv_at hl 1 rfl) ?_
        refine lv_aload_n hx hb dX11_caught_48 rfl (lv_at hl 0 rfl) ?_
        refine lv_iload hx hb dX11_caught_49 (lv_at hl 3 rfl) ?_
        obtain ⟨o51, hc51, hf⟩ := gb_b hf
        obtain ⟨oc51, hcO51, hc51⟩ := gb_b hc51
        obtain ⟨hcg51, hci51⟩ := gfO_s hcO51
        have hci51 := List.mem_singleton.mp hci51
        obtain ⟨kc51, fc51⟩ := oc51
        dsimp only at hci51 hcg51
        subst hci51
        refine gp_callI (va_runV (As := [.int v5]) (rest := [.long v2]) ⟨hx, hb, hml, hown, hts⟩ (c_X11_inRowAt (l := l) (D := D) (b := b) (cI := cI) (cL := cL) hc51) (cwV 1 hts gX11_caught_X11_inRowAt rfl rfl rfl (by decide +kernel) ⟨Nat.le_of_ble_eq_true rfl, Nat.le_of_ble_eq_true rfl⟩) (gp_preV hKn hG (cp_obj hcg51) rfl) rfl rfl hl.1 rfl (lv_room (Nat.le_of_ble_eq_true rfl)) dX11_caught_51 ⟨Nat.le_of_ble_eq_true rfl, Nat.le_of_ble_eq_true rfl⟩) hS (fun H locs hG hS => ?_)
        obtain ⟨o54, hc54, hf⟩ := gb_b hf
        refine gp_callI (va_runS (As := [.long v2, .int o51]) (rest := []) ⟨hx, hb, hml, hown, hts⟩ (c_X2_has (l := l) (D := D) (b := b) (cI := cI) (cL := cL) hc54) (va_cwS 2 hts gX11_caught_X2_has rfl rfl rfl (by decide +kernel) ⟨Nat.le_of_ble_eq_true rfl, Nat.le_of_ble_eq_true rfl⟩) (gp_preS hKn hG) rfl rfl hl.1 rfl (lv_room (Nat.le_of_ble_eq_true rfl)) dX11_caught_54 ⟨Nat.le_of_ble_eq_true rfl, Nat.le_of_ble_eq_true rfl⟩) hS (fun H locs hG hS => ?_)
        obtain ⟨j57, hj57, hf⟩ := gb_b hf
        have hJ57 : ∀ (H : Heap) (locs : List Loc) (ls : Array Slot), GP D b M (gW cI cL gv) H → va_S (gA b) s.heap H locs → lv_has ls 6 [(0, .ref v0), (2, .long v2), (4, .int j57), (5, .int v5)] → W p l e rm_X11_caught s m args below meth c H locs 0 0 Q (F0 m 64 ls []) := by
          intro H locs ls hG hS hl
          refine lv_iinc (v := v5 + 1) (lv' := [(5, .int (v5 + 1)), (0, .ref v0), (2, .long v2), (4, .int j57)]) hx hb dX11_caught_64 hl (k := 3) rfl rfl (by decide) rfl (fun ls hl => ?_)
          refine lv_goto (tgt := 33) hx hb dX11_caught_67 (by decide) ?_
          exact ih _ _ hf hk70 _ _ _ hG hS (lv_sub hl [1, 2, 3, 0] rfl)
        refine lv_if_eq (tgt := 64) hx hb dX11_caught_57 (by decide) (fun c57 => ?_) (fun c57 => ?_)
        · have hj57 := gb_t c57 hj57
          have hj57 := Option.some.inj hj57
          subst hj57
          exact (hJ57 H locs ls hG hS (lv_sub hl [0, 1, 2, 3] rfl))
        · have hj57 := gb_f c57 hj57
          refine lv_iload hx hb dX11_caught_60 (lv_at hl 3 rfl) ?_
          refine lv_istore (lv' := [(4, .int v5), (0, .ref v0), (2, .long v2), (5, .int v5)]) hx hb dX11_caught_62 hl (by decide) rfl (fun ls hl => ?_)
          have hj57 := Option.some.inj hj57
          subst hj57
          exact (hJ57 H locs ls hG hS (lv_sub hl [1, 2, 0, 3] rfl))
def f_X11_caught (gv : Nat → GV) (h0 : Nat) (v1 : Int32) : Option (Int32 × (Nat → GV)) :=
  (gfR gv h0 [9] 4).bind fun t1 => t1.bind fun q5 => ((gfO gv q5 [8]).bind fun _ => f_X10_isPerson gv q5 v1).bind fun o5 => if o5 = 0 then ((gfO gv h0 [9]).bind fun _ => f_X11_refuse gv h0 (-1 : Int32)).bind fun o13 => some (o13.1, o13.2) else (gfR gv h0 [9] 4).bind fun t18 => t18.bind fun q22 => ((gfO gv q22 [8]).bind fun _ => f_X10_litBut gv q22 0).bind fun o22 => L_X11_caught_33 (fun x33_70 => (gpu gv h0 [9] 6 (.int 0)).bind fun g72 => some (x33_70, g72)) gv h0 o22 gF (-9 : Int32) 0
set_option maxHeartbeats 4000000 in
set_option maxRecDepth 100000 in
theorem c_X11_caught {v1 : Int32} {R : Int32 × (Nat → GV)} (hf : f_X11_caught gv h0 v1 = some R) : Met l yX11_caught wsX11_caught rm_X11_caught (va_Pc [.ref h0, .int v1] (gPre D b M (gW cI cL gv) (gTy cI cL))) (gQ D b (some (.int R.1)) M (gW cI cL R.2)) 0 0 (gA b) := by
  refine gp_met (cc := cX11_caught) (maxL := 6) (ret := (some .int)) (by decide) rfl (Nat.le_of_ble_eq_true rfl) ?_
  intro p e s m below meth c X ls hG hl
  obtain ⟨H, hH0⟩ : ∃ H : Heap, H = s.heap := ⟨_, rfl⟩
  rw [← hH0] at hG ⊢
  have hS : va_S (gA b) s.heap H [] := by rw [hH0]; exact va_S.rf
  obtain ⟨locs, hlo⟩ : ∃ z : List Loc, z = [] := ⟨_, rfl⟩
  rw [← hlo] at hS ⊢
  unfold f_X11_caught at hf
  obtain ⟨hx, hb, hr, hml, hown, hts, hlocks, hKn⟩ := id X
  have hK := hKn.1
  have gclX11 : gcl [9] TX11 8 wsX11_caught := gcl_1 rfl (fun _ h => List.mem_cons_of_mem _ (List.mem_append_left _ (List.mem_append_left _ (List.mem_append_left _ (List.mem_append_left _ (List.mem_append_left _ (List.mem_append_left _ (List.mem_append_left _ (List.mem_append_left _ (List.mem_append_right _ h))))))))))
  have hl : lv_has ls 6 [(0, .ref h0), (1, .int v1)] := hl
  refine lv_aload_n hx hb dX11_caught_0 rfl (lv_at hl 0 rfl) ?_
  obtain ⟨t1, ht1, hf⟩ := gb_b hf
  refine cp_get (v := va_rf t1) hx hb hts gclX11 hown hK hG 4 (gfR_s ht1) (by decide) (hts _ (List.mem_of_getElem? (i := 1) rfl)) (fun _ h9 => h9) dX11_caught_1 ?_
  refine lv_iload_n hx hb dX11_caught_4 rfl (lv_at hl 1 rfl) ?_
  obtain ⟨q5, hq5, hf⟩ := gb_b hf
  rw [hq5]
  obtain ⟨o5, hc5, hf⟩ := gb_b hf
  obtain ⟨oc5, hcO5, hc5⟩ := gb_b hc5
  obtain ⟨hcg5, hci5⟩ := gfO_s hcO5
  have hci5 := List.mem_singleton.mp hci5
  obtain ⟨kc5, fc5⟩ := oc5
  dsimp only at hci5 hcg5
  subst hci5
  refine gp_callI (va_runV (As := [.int v1]) (rest := []) ⟨hx, hb, hml, hown, hts⟩ (c_X10_isPerson (l := l) (D := D) (b := b) (cI := cI) (cL := cL) hc5) (cwV 1 hts gX11_caught_X10_isPerson rfl rfl rfl (by decide +kernel) ⟨Nat.le_of_ble_eq_true rfl, Nat.le_of_ble_eq_true rfl⟩) (gp_preV hKn hG (cp_obj hcg5) rfl) rfl rfl hl.1 rfl (lv_room (Nat.le_of_ble_eq_true rfl)) dX11_caught_5 ⟨Nat.le_of_ble_eq_true rfl, Nat.le_of_ble_eq_true rfl⟩) hS (fun H locs hG hS => ?_)
  refine lv_if_ne (tgt := 17) hx hb dX11_caught_8 (by decide) (fun c8 => ?_) (fun c8 => ?_)
  · have hf := gb_f c8 hf
    refine lv_aload_n hx hb dX11_caught_17 rfl (lv_at hl 0 rfl) ?_
    obtain ⟨t18, ht18, hf⟩ := gb_b hf
    refine cp_get (v := va_rf t18) hx hb hts gclX11 hown hK hG 4 (gfR_s ht18) (by decide) (hts _ (List.mem_of_getElem? (i := 1) rfl)) (fun _ h9 => h9) dX11_caught_18 ?_
    refine lv_iconst (v := 0) hx hb dX11_caught_21 (by decide) ?_
    obtain ⟨q22, hq22, hf⟩ := gb_b hf
    rw [hq22]
    obtain ⟨o22, hc22, hf⟩ := gb_b hf
    obtain ⟨oc22, hcO22, hc22⟩ := gb_b hc22
    obtain ⟨hcg22, hci22⟩ := gfO_s hcO22
    have hci22 := List.mem_singleton.mp hci22
    obtain ⟨kc22, fc22⟩ := oc22
    dsimp only at hci22 hcg22
    subst hci22
    refine gp_callL (va_runV (As := [.int 0]) (rest := []) ⟨hx, hb, hml, hown, hts⟩ (c_X10_litBut (l := l) (D := D) (b := b) (cI := cI) (cL := cL) hc22) (cwV 1 hts gX11_caught_X10_litBut rfl rfl rfl (by decide +kernel) ⟨Nat.le_of_ble_eq_true rfl, Nat.le_of_ble_eq_true rfl⟩) (gp_preV hKn hG (cp_obj hcg22) rfl) rfl rfl hl.1 rfl (lv_room (Nat.le_of_ble_eq_true rfl)) dX11_caught_22 ⟨Nat.le_of_ble_eq_true rfl, Nat.le_of_ble_eq_true rfl⟩) hS (fun H locs hG hS => ?_)
    refine lv_lstore_n (lv' := [(2, .long o22), (0, .ref h0), (1, .int v1)]) hx hb dX11_caught_25 rfl hl (by decide) rfl (fun ls hl => ?_)
    refine lv_bipush (v := (-9 : Int32)) hx hb dX11_caught_26 (by decide) ?_
    refine lv_istore (lv' := [(4, .int (-9 : Int32)), (2, .long o22), (0, .ref h0), (1, .int v1)]) hx hb dX11_caught_28 hl (by decide) rfl (fun ls hl => ?_)
    refine lv_iconst (v := 0) hx hb dX11_caught_30 (by decide) ?_
    refine lv_istore (lv' := [(5, .int 0), (4, .int (-9 : Int32)), (2, .long o22), (0, .ref h0), (1, .int v1)]) hx hb dX11_caught_31 hl (by decide) rfl (fun ls hl => ?_)
    refine w_X11_caught_33 X _ _ _ hf (fun x33_70 hf H locs ls hG hS hl => ?_) _ _ _ hG hS (lv_sub hl [3, 2, 1, 0] rfl)
    · refine lv_aload_n hx hb dX11_caught_70 rfl (lv_at hl 0 rfl) ?_
      refine lv_iconst (v := 0) hx hb dX11_caught_71 (by decide) ?_
      obtain ⟨g72, ht72, hf⟩ := gb_b hf
      refine cp_put (tyk := .int) hx hb hts gclX11 tyX11 tyX11_ok nmX11 hown hK hG hS 6 ht72 (by decide) (hts _ (List.mem_of_getElem? (i := 2) rfl)) (fun _ h9 => h9) rfl (by decide +kernel) rfl rfl dX11_caught_72 (fun H locs hG hS => ?_)
      refine lv_iload hx hb dX11_caught_75 (lv_at hl 1 rfl) ?_
      cases hf
      exact gp_retI hx hb hr hlocks hG hS (Nat.le_of_ble_eq_true rfl) (Nat.le_of_ble_eq_true rfl) dX11_caught_77
  · have hf := gb_t c8 hf
    refine lv_aload_n hx hb dX11_caught_11 rfl (lv_at hl 0 rfl) ?_
    refine lv_iconst (v := (-1 : Int32)) hx hb dX11_caught_12 (by decide) ?_
    obtain ⟨o13, hc13, hf⟩ := gb_b hf
    obtain ⟨oc13, hcO13, hc13⟩ := gb_b hc13
    obtain ⟨hcg13, hci13⟩ := gfO_s hcO13
    have hci13 := List.mem_singleton.mp hci13
    obtain ⟨kc13, fc13⟩ := oc13
    dsimp only at hci13 hcg13
    subst hci13
    refine gp_callI (va_runV (As := [.int (-1 : Int32)]) (rest := []) ⟨hx, hb, hml, hown, hts⟩ (c_X11_refuse (l := l) (D := D) (b := b) (cI := cI) (cL := cL) hc13) (cwV 1 hts gX11_caught_X11_refuse rfl rfl rfl (by decide +kernel) ⟨Nat.le_of_ble_eq_true rfl, Nat.le_of_ble_eq_true rfl⟩) (gp_preV hKn hG (cp_obj hcg13) rfl) rfl rfl hl.1 rfl (lv_room (Nat.le_of_ble_eq_true rfl)) dX11_caught_13 ⟨Nat.le_of_ble_eq_true rfl, Nat.le_of_ble_eq_true rfl⟩) hS (fun H locs hG hS => ?_)
    cases hf
    exact gp_retI hx hb hr hlocks hG hS (Nat.le_of_ble_eq_true rfl) (Nat.le_of_ble_eq_true rfl) dX11_caught_16
-- X11_changeCells
abbrev rm_X11_changeCells : Room := { frames := 0, cells := 0, slots := 0, locals := 0 }
def f_X11_changeCells (gv : Nat → GV) (v0 : Option Nat) (v1 : Option Nat) : Option ((Nat → GV)) :=
  v0.bind fun q1 => (gfI gv q1 gLC 0).bind fun t1 => v1.bind fun q7 => (gfI gv q7 gLC 0).bind fun t7 => (gpu gv q1 gLC 0 (.int t7)).bind fun g10 => (gpu g10 q7 gLC 0 (.int t1)).bind fun g15 => some g15
set_option maxHeartbeats 4000000 in
set_option maxRecDepth 100000 in
theorem c_X11_changeCells {v0 : Option Nat} {v1 : Option Nat} {R : (Nat → GV)} (hf : f_X11_changeCells gv v0 v1 = some R) : Met l yX11_changeCells wsX11_changeCells rm_X11_changeCells (va_Pc [va_rf v0, va_rf v1] (gPre D b M (gW cI cL gv) (gTy cI cL))) (gQ D b none M (gW cI cL R)) 0 0 (gA b) := by
  refine gp_met (cc := cX11_changeCells) (maxL := 3) (ret := none) (by decide) rfl (by simp [lg_sl, gcat_rf, gcat_ref, gcat_int, gcat_long]) ?_
  intro p e s m below meth c X ls hG hl
  obtain ⟨H, hH0⟩ : ∃ H : Heap, H = s.heap := ⟨_, rfl⟩
  rw [← hH0] at hG ⊢
  have hS : va_S (gA b) s.heap H [] := by rw [hH0]; exact va_S.rf
  obtain ⟨locs, hlo⟩ : ∃ z : List Loc, z = [] := ⟨_, rfl⟩
  rw [← hlo] at hS ⊢
  unfold f_X11_changeCells at hf
  obtain ⟨hx, hb, hr, hml, hown, hts, hlocks, hKn⟩ := id X
  have hK := hKn.1
  have gclL : gcl gLC TX5 5 wsX11_changeCells := gcl_L (fun _ h => List.mem_cons_of_mem _ (List.mem_append_left _ (List.mem_append_left _ (List.mem_append_left _ (List.mem_append_left _ (List.mem_append_left _ (List.mem_append_left _ (List.mem_append_right _ h)))))))) (fun _ h => List.mem_cons_of_mem _ (List.mem_append_left _ (List.mem_append_left _ (List.mem_append_left _ (List.mem_append_left _ (List.mem_append_left _ (List.mem_append_right _ h))))))) (fun _ h => List.mem_cons_of_mem _ (List.mem_append_left _ (List.mem_append_left _ (List.mem_append_left _ (List.mem_append_left _ (List.mem_append_right _ h)))))) (fun _ h => List.mem_cons_of_mem _ (List.mem_append_left _ (List.mem_append_left _ (List.mem_append_left _ (List.mem_append_right _ h))))) (fun _ h => List.mem_cons_of_mem _ (List.mem_append_left _ (List.mem_append_left _ (List.mem_append_right _ h)))) (fun _ h => List.mem_cons_of_mem _ (List.mem_append_left _ (List.mem_append_right _ h))) (fun _ h => List.mem_cons_of_mem _ (List.mem_append_right _ h))
  have hl : lv_has ls 3 [(0, va_rf v0), (1, va_rf v1)] := by simpa [lv_args, gcat_rf, gcat_ref, gcat_int, gcat_long] using hl
  refine gp_aload_n (x := v0) hx hb dX11_changeCells_0 rfl (lv_at hl 0 rfl) ?_
  obtain ⟨q1, hq1, hf⟩ := gb_b hf
  rw [hq1]
  rw [hq1] at hl
  obtain ⟨t1, ht1, hf⟩ := gb_b hf
  refine cp_get (v := .int t1) hx hb hts gclL hown hK hG 0 (gfI_s ht1) (by decide) (hts _ (List.mem_of_getElem? (i := 1) rfl)) (fun _ h9 => h9) dX11_changeCells_1 ?_
  refine lv_istore_n (lv' := [(2, .int t1), (0, .ref q1), (1, va_rf v1)]) hx hb dX11_changeCells_4 rfl hl (by decide) rfl (fun ls hl => ?_)
  refine lv_aload_n hx hb dX11_changeCells_5 rfl (lv_at hl 1 rfl) ?_
  refine gp_aload_n (x := v1) hx hb dX11_changeCells_6 rfl (lv_at hl 2 rfl) ?_
  obtain ⟨q7, hq7, hf⟩ := gb_b hf
  rw [hq7]
  rw [hq7] at hl
  obtain ⟨t7, ht7, hf⟩ := gb_b hf
  refine cp_get (v := .int t7) hx hb hts gclL hown hK hG 0 (gfI_s ht7) (by decide) (hts _ (List.mem_of_getElem? (i := 1) rfl)) (fun _ h9 => h9) dX11_changeCells_7 ?_
  obtain ⟨g10, ht10, hf⟩ := gb_b hf
  refine cp_put (tyk := .int) hx hb hts gclL tyX5 tyX5_ok nmX5 hown hK hG hS 0 ht10 (by decide) (hts _ (List.mem_of_getElem? (i := 1) rfl)) (fun _ h9 => h9) rfl (by decide +kernel) rfl rfl dX11_changeCells_10 (fun H locs hG hS => ?_)
  refine lv_aload_n hx hb dX11_changeCells_13 rfl (lv_at hl 2 rfl) ?_
  refine lv_iload_n hx hb dX11_changeCells_14 rfl (lv_at hl 0 rfl) ?_
  obtain ⟨g15, ht15, hf⟩ := gb_b hf
  refine cp_put (tyk := .int) hx hb hts gclL tyX5 tyX5_ok nmX5 hown hK hG hS 0 ht15 (by decide) (hts _ (List.mem_of_getElem? (i := 1) rfl)) (fun _ h9 => h9) rfl (by decide +kernel) rfl rfl dX11_changeCells_15 (fun H locs hG hS => ?_)
  cases hf
  exact gp_retV hx hb hr hlocks hG hS (Nat.le_of_ble_eq_true rfl) (Nat.le_of_ble_eq_true rfl) dX11_changeCells_18
-- X11_count
abbrev rm_X11_count : Room := { frames := 5, cells := 0, slots := 0, locals := 120 }
def f_X11_count (gv : Nat → GV) (h0 : Nat) (v1 : Int32) : Option (Int32) :=
  if v1 = 0 then (gfR gv h0 [9] 4).bind fun t53 => t53.bind fun q56 => (gfI gv q56 [8] 3).bind fun t56 => some t56 else if v1 = 1 then (gfR gv h0 [9] 4).bind fun t61 => t61.bind fun q64 => (gfI gv q64 [8] 4).bind fun t64 => some t64 else if v1 = 2 then (gfR gv h0 [9] 4).bind fun t69 => t69.bind fun q72 => (gfJ gv q72 [8] 2).bind fun t72 => (f_X2_howMany t72).bind fun o75 => some o75 else if v1 = 3 then (gfR gv h0 [9] 4).bind fun t80 => t80.bind fun q83 => (gfI gv q83 [8] 5).bind fun t83 => some t83 else if v1 = 4 then (gfR gv h0 [9] 4).bind fun t88 => t88.bind fun q91 => ((gfO gv q91 [8]).bind fun _ => f_X10_allScenes gv q91).bind fun o91 => some o91 else if v1 = 5 then (gfR gv h0 [9] 4).bind fun t96 => t96.bind fun q100 => ((gfO gv q100 [8]).bind fun _ => f_X10_litBut gv q100 0).bind fun o100 => (f_X2_howMany o100).bind fun o103 => some o103 else if v1 = 6 then (gfR gv h0 [9] 4).bind fun t108 => t108.bind fun q111 => ((gfO gv q111 [8]).bind fun _ => f_X10_litLamps gv q111).bind fun o111 => some o111 else if v1 = 7 then (gfI gv h0 [9] 6).bind fun t116 => some t116 else if v1 = 8 then (gfR gv h0 [9] 0).bind fun t121 => t121.bind fun q124 => (gfI gv q124 [5] 1).bind fun t124 => some t124 else (if v1 < 11 then some (-9 : Int32) else if v1 ≤ 16 then (gfR gv h0 [9] 2).bind fun t146 => t146.bind fun q153 => (gai gv q153 (v1 - 10)).bind fun t153 => some t153 else some (-9 : Int32) : Option (Int32)).bind fun j131 => some j131
set_option maxHeartbeats 4000000 in
set_option maxRecDepth 100000 in
theorem c_X11_count {v1 : Int32} {R : Int32} (hf : f_X11_count gv h0 v1 = some R) : Met l yX11_count wsX11_count rm_X11_count (va_Pc [.ref h0, .int v1] (gPre D b M (gW cI cL gv) (gTy cI cL))) (gQ D b (some (.int R)) M (gW cI cL gv)) 0 0 (gA b) := by
  refine gp_met (cc := cX11_count) (maxL := 2) (ret := (some .int)) (by decide) rfl (Nat.le_of_ble_eq_true rfl) ?_
  intro p e s m below meth c X ls hG hl
  obtain ⟨H, hH0⟩ : ∃ H : Heap, H = s.heap := ⟨_, rfl⟩
  rw [← hH0] at hG ⊢
  have hS : va_S (gA b) s.heap H [] := by rw [hH0]; exact va_S.rf
  obtain ⟨locs, hlo⟩ : ∃ z : List Loc, z = [] := ⟨_, rfl⟩
  rw [← hlo] at hS ⊢
  unfold f_X11_count at hf
  obtain ⟨hx, hb, hr, hml, hown, hts, hlocks, hKn⟩ := id X
  have hK := hKn.1
  have gclX10 : gcl [8] TX10 6 wsX11_count := gcl_1 rfl (fun _ h => List.mem_cons_of_mem _ (List.mem_append_left _ (List.mem_append_left _ (List.mem_append_left _ (List.mem_append_left _ (List.mem_append_left _ (List.mem_append_left _ (List.mem_append_left _ (List.mem_append_left _ (List.mem_append_right _ h))))))))))
  have gclX11 : gcl [9] TX11 8 wsX11_count := gcl_1 rfl (fun _ h => List.mem_cons_of_mem _ (List.mem_append_left _ (List.mem_append_left _ (List.mem_append_left _ (List.mem_append_left _ (List.mem_append_left _ (List.mem_append_left _ (List.mem_append_left _ (List.mem_append_left _ (List.mem_append_left _ (List.mem_append_right _ h)))))))))))
  have gclX6 : gcl [5] TX6 2 wsX11_count := gcl_1 rfl (fun _ h => List.mem_cons_of_mem _ (List.mem_append_left _ (List.mem_append_left _ (List.mem_append_left _ (List.mem_append_left _ (List.mem_append_left _ (List.mem_append_left _ (List.mem_append_left _ (List.mem_append_right _ h)))))))))
  have hl : lv_has ls 2 [(0, .ref h0), (1, .int v1)] := hl
  refine lv_iload_n hx hb dX11_count_0 rfl (lv_at hl 1 rfl) ?_
  by_cases c1_0 : v1 = 0
  · have hf := gb_t c1_0 hf
    refine lv_tableIn (tgt := 52) (off := 51) hx hb dX11_count_1 (by rw [c1_0]; decide) (by rw [c1_0]; decide) (by rw [c1_0]; rfl) (by decide) ?_
    refine lv_aload_n hx hb dX11_count_52 rfl (lv_at hl 0 rfl) ?_
    obtain ⟨t53, ht53, hf⟩ := gb_b hf
    refine cp_get (v := va_rf t53) hx hb hts gclX11 hown hK hG 4 (gfR_s ht53) (by decide) (hts _ (List.mem_of_getElem? (i := 1) rfl)) (fun _ h9 => h9) dX11_count_53 ?_
    obtain ⟨q56, hq56, hf⟩ := gb_b hf
    rw [hq56]
    obtain ⟨t56, ht56, hf⟩ := gb_b hf
    refine cp_get (v := .int t56) hx hb hts gclX10 hown hK hG 3 (gfI_s ht56) (by decide) (hts _ (List.mem_of_getElem? (i := 2) rfl)) (fun _ h9 => h9) dX11_count_56 ?_
    cases hf
    exact gp_retI hx hb hr hlocks hG hS (Nat.le_of_ble_eq_true rfl) (Nat.le_of_ble_eq_true rfl) dX11_count_59
  · have hf := gb_f c1_0 hf
    by_cases c1_1 : v1 = 1
    · have hf := gb_t c1_1 hf
      refine lv_tableIn (tgt := 60) (off := 59) hx hb dX11_count_1 (by rw [c1_1]; decide) (by rw [c1_1]; decide) (by rw [c1_1]; rfl) (by decide) ?_
      refine lv_aload_n hx hb dX11_count_60 rfl (lv_at hl 0 rfl) ?_
      obtain ⟨t61, ht61, hf⟩ := gb_b hf
      refine cp_get (v := va_rf t61) hx hb hts gclX11 hown hK hG 4 (gfR_s ht61) (by decide) (hts _ (List.mem_of_getElem? (i := 1) rfl)) (fun _ h9 => h9) dX11_count_61 ?_
      obtain ⟨q64, hq64, hf⟩ := gb_b hf
      rw [hq64]
      obtain ⟨t64, ht64, hf⟩ := gb_b hf
      refine cp_get (v := .int t64) hx hb hts gclX10 hown hK hG 4 (gfI_s ht64) (by decide) (hts _ (List.mem_of_getElem? (i := 3) rfl)) (fun _ h9 => h9) dX11_count_64 ?_
      cases hf
      exact gp_retI hx hb hr hlocks hG hS (Nat.le_of_ble_eq_true rfl) (Nat.le_of_ble_eq_true rfl) dX11_count_67
    · have hf := gb_f c1_1 hf
      by_cases c1_2 : v1 = 2
      · have hf := gb_t c1_2 hf
        refine lv_tableIn (tgt := 68) (off := 67) hx hb dX11_count_1 (by rw [c1_2]; decide) (by rw [c1_2]; decide) (by rw [c1_2]; rfl) (by decide) ?_
        refine lv_aload_n hx hb dX11_count_68 rfl (lv_at hl 0 rfl) ?_
        obtain ⟨t69, ht69, hf⟩ := gb_b hf
        refine cp_get (v := va_rf t69) hx hb hts gclX11 hown hK hG 4 (gfR_s ht69) (by decide) (hts _ (List.mem_of_getElem? (i := 1) rfl)) (fun _ h9 => h9) dX11_count_69 ?_
        obtain ⟨q72, hq72, hf⟩ := gb_b hf
        rw [hq72]
        obtain ⟨t72, ht72, hf⟩ := gb_b hf
        refine cp_get (v := .long t72) hx hb hts gclX10 hown hK hG 2 (gfJ_s ht72) (by decide) (hts _ (List.mem_of_getElem? (i := 4) rfl)) (fun _ h9 => h9) dX11_count_72 ?_
        obtain ⟨o75, hc75, hf⟩ := gb_b hf
        refine gp_callI (va_runS (As := [.long t72]) (rest := []) ⟨hx, hb, hml, hown, hts⟩ (c_X2_howMany (l := l) (D := D) (b := b) (cI := cI) (cL := cL) hc75) (va_cwS 1 hts gX11_count_X2_howMany rfl rfl rfl (by decide +kernel) ⟨Nat.le_of_ble_eq_true rfl, Nat.le_of_ble_eq_true rfl⟩) (gp_preS hKn hG) rfl rfl hl.1 rfl (lv_room (Nat.le_of_ble_eq_true rfl)) dX11_count_75 ⟨Nat.le_of_ble_eq_true rfl, Nat.le_of_ble_eq_true rfl⟩) hS (fun H locs hG hS => ?_)
        cases hf
        exact gp_retI hx hb hr hlocks hG hS (Nat.le_of_ble_eq_true rfl) (Nat.le_of_ble_eq_true rfl) dX11_count_78
      · have hf := gb_f c1_2 hf
        by_cases c1_3 : v1 = 3
        · have hf := gb_t c1_3 hf
          refine lv_tableIn (tgt := 79) (off := 78) hx hb dX11_count_1 (by rw [c1_3]; decide) (by rw [c1_3]; decide) (by rw [c1_3]; rfl) (by decide) ?_
          refine lv_aload_n hx hb dX11_count_79 rfl (lv_at hl 0 rfl) ?_
          obtain ⟨t80, ht80, hf⟩ := gb_b hf
          refine cp_get (v := va_rf t80) hx hb hts gclX11 hown hK hG 4 (gfR_s ht80) (by decide) (hts _ (List.mem_of_getElem? (i := 1) rfl)) (fun _ h9 => h9) dX11_count_80 ?_
          obtain ⟨q83, hq83, hf⟩ := gb_b hf
          rw [hq83]
          obtain ⟨t83, ht83, hf⟩ := gb_b hf
          refine cp_get (v := .int t83) hx hb hts gclX10 hown hK hG 5 (gfI_s ht83) (by decide) (hts _ (List.mem_of_getElem? (i := 5) rfl)) (fun _ h9 => h9) dX11_count_83 ?_
          cases hf
          exact gp_retI hx hb hr hlocks hG hS (Nat.le_of_ble_eq_true rfl) (Nat.le_of_ble_eq_true rfl) dX11_count_86
        · have hf := gb_f c1_3 hf
          by_cases c1_4 : v1 = 4
          · have hf := gb_t c1_4 hf
            refine lv_tableIn (tgt := 87) (off := 86) hx hb dX11_count_1 (by rw [c1_4]; decide) (by rw [c1_4]; decide) (by rw [c1_4]; rfl) (by decide) ?_
            refine lv_aload_n hx hb dX11_count_87 rfl (lv_at hl 0 rfl) ?_
            obtain ⟨t88, ht88, hf⟩ := gb_b hf
            refine cp_get (v := va_rf t88) hx hb hts gclX11 hown hK hG 4 (gfR_s ht88) (by decide) (hts _ (List.mem_of_getElem? (i := 1) rfl)) (fun _ h9 => h9) dX11_count_88 ?_
            obtain ⟨q91, hq91, hf⟩ := gb_b hf
            rw [hq91]
            obtain ⟨o91, hc91, hf⟩ := gb_b hf
            obtain ⟨oc91, hcO91, hc91⟩ := gb_b hc91
            obtain ⟨hcg91, hci91⟩ := gfO_s hcO91
            have hci91 := List.mem_singleton.mp hci91
            obtain ⟨kc91, fc91⟩ := oc91
            dsimp only at hci91 hcg91
            subst hci91
            refine gp_callI (va_runV (As := []) (rest := []) ⟨hx, hb, hml, hown, hts⟩ (c_X10_allScenes (l := l) (D := D) (b := b) (cI := cI) (cL := cL) hc91) (cwV 0 hts gX11_count_X10_allScenes rfl rfl rfl (by decide +kernel) ⟨Nat.le_of_ble_eq_true rfl, Nat.le_of_ble_eq_true rfl⟩) (gp_preV hKn hG (cp_obj hcg91) rfl) rfl rfl hl.1 rfl (lv_room (Nat.le_of_ble_eq_true rfl)) dX11_count_91 ⟨Nat.le_of_ble_eq_true rfl, Nat.le_of_ble_eq_true rfl⟩) hS (fun H locs hG hS => ?_)
            cases hf
            exact gp_retI hx hb hr hlocks hG hS (Nat.le_of_ble_eq_true rfl) (Nat.le_of_ble_eq_true rfl) dX11_count_94
          · have hf := gb_f c1_4 hf
            by_cases c1_5 : v1 = 5
            · have hf := gb_t c1_5 hf
              refine lv_tableIn (tgt := 95) (off := 94) hx hb dX11_count_1 (by rw [c1_5]; decide) (by rw [c1_5]; decide) (by rw [c1_5]; rfl) (by decide) ?_
              refine lv_aload_n hx hb dX11_count_95 rfl (lv_at hl 0 rfl) ?_
              obtain ⟨t96, ht96, hf⟩ := gb_b hf
              refine cp_get (v := va_rf t96) hx hb hts gclX11 hown hK hG 4 (gfR_s ht96) (by decide) (hts _ (List.mem_of_getElem? (i := 1) rfl)) (fun _ h9 => h9) dX11_count_96 ?_
              refine lv_iconst (v := 0) hx hb dX11_count_99 (by decide) ?_
              obtain ⟨q100, hq100, hf⟩ := gb_b hf
              rw [hq100]
              obtain ⟨o100, hc100, hf⟩ := gb_b hf
              obtain ⟨oc100, hcO100, hc100⟩ := gb_b hc100
              obtain ⟨hcg100, hci100⟩ := gfO_s hcO100
              have hci100 := List.mem_singleton.mp hci100
              obtain ⟨kc100, fc100⟩ := oc100
              dsimp only at hci100 hcg100
              subst hci100
              refine gp_callL (va_runV (As := [.int 0]) (rest := []) ⟨hx, hb, hml, hown, hts⟩ (c_X10_litBut (l := l) (D := D) (b := b) (cI := cI) (cL := cL) hc100) (cwV 1 hts gX11_count_X10_litBut rfl rfl rfl (by decide +kernel) ⟨Nat.le_of_ble_eq_true rfl, Nat.le_of_ble_eq_true rfl⟩) (gp_preV hKn hG (cp_obj hcg100) rfl) rfl rfl hl.1 rfl (lv_room (Nat.le_of_ble_eq_true rfl)) dX11_count_100 ⟨Nat.le_of_ble_eq_true rfl, Nat.le_of_ble_eq_true rfl⟩) hS (fun H locs hG hS => ?_)
              obtain ⟨o103, hc103, hf⟩ := gb_b hf
              refine gp_callI (va_runS (As := [.long o100]) (rest := []) ⟨hx, hb, hml, hown, hts⟩ (c_X2_howMany (l := l) (D := D) (b := b) (cI := cI) (cL := cL) hc103) (va_cwS 1 hts gX11_count_X2_howMany rfl rfl rfl (by decide +kernel) ⟨Nat.le_of_ble_eq_true rfl, Nat.le_of_ble_eq_true rfl⟩) (gp_preS hKn hG) rfl rfl hl.1 rfl (lv_room (Nat.le_of_ble_eq_true rfl)) dX11_count_103 ⟨Nat.le_of_ble_eq_true rfl, Nat.le_of_ble_eq_true rfl⟩) hS (fun H locs hG hS => ?_)
              cases hf
              exact gp_retI hx hb hr hlocks hG hS (Nat.le_of_ble_eq_true rfl) (Nat.le_of_ble_eq_true rfl) dX11_count_106
            · have hf := gb_f c1_5 hf
              by_cases c1_6 : v1 = 6
              · have hf := gb_t c1_6 hf
                refine lv_tableIn (tgt := 107) (off := 106) hx hb dX11_count_1 (by rw [c1_6]; decide) (by rw [c1_6]; decide) (by rw [c1_6]; rfl) (by decide) ?_
                refine lv_aload_n hx hb dX11_count_107 rfl (lv_at hl 0 rfl) ?_
                obtain ⟨t108, ht108, hf⟩ := gb_b hf
                refine cp_get (v := va_rf t108) hx hb hts gclX11 hown hK hG 4 (gfR_s ht108) (by decide) (hts _ (List.mem_of_getElem? (i := 1) rfl)) (fun _ h9 => h9) dX11_count_108 ?_
                obtain ⟨q111, hq111, hf⟩ := gb_b hf
                rw [hq111]
                obtain ⟨o111, hc111, hf⟩ := gb_b hf
                obtain ⟨oc111, hcO111, hc111⟩ := gb_b hc111
                obtain ⟨hcg111, hci111⟩ := gfO_s hcO111
                have hci111 := List.mem_singleton.mp hci111
                obtain ⟨kc111, fc111⟩ := oc111
                dsimp only at hci111 hcg111
                subst hci111
                refine gp_callI (va_runV (As := []) (rest := []) ⟨hx, hb, hml, hown, hts⟩ (c_X10_litLamps (l := l) (D := D) (b := b) (cI := cI) (cL := cL) hc111) (cwV 0 hts gX11_count_X10_litLamps rfl rfl rfl (by decide +kernel) ⟨Nat.le_of_ble_eq_true rfl, Nat.le_of_ble_eq_true rfl⟩) (gp_preV hKn hG (cp_obj hcg111) rfl) rfl rfl hl.1 rfl (lv_room (Nat.le_of_ble_eq_true rfl)) dX11_count_111 ⟨Nat.le_of_ble_eq_true rfl, Nat.le_of_ble_eq_true rfl⟩) hS (fun H locs hG hS => ?_)
                cases hf
                exact gp_retI hx hb hr hlocks hG hS (Nat.le_of_ble_eq_true rfl) (Nat.le_of_ble_eq_true rfl) dX11_count_114
              · have hf := gb_f c1_6 hf
                by_cases c1_7 : v1 = 7
                · have hf := gb_t c1_7 hf
                  refine lv_tableIn (tgt := 115) (off := 114) hx hb dX11_count_1 (by rw [c1_7]; decide) (by rw [c1_7]; decide) (by rw [c1_7]; rfl) (by decide) ?_
                  refine lv_aload_n hx hb dX11_count_115 rfl (lv_at hl 0 rfl) ?_
                  obtain ⟨t116, ht116, hf⟩ := gb_b hf
                  refine cp_get (v := .int t116) hx hb hts gclX11 hown hK hG 6 (gfI_s ht116) (by decide) (hts _ (List.mem_of_getElem? (i := 6) rfl)) (fun _ h9 => h9) dX11_count_116 ?_
                  cases hf
                  exact gp_retI hx hb hr hlocks hG hS (Nat.le_of_ble_eq_true rfl) (Nat.le_of_ble_eq_true rfl) dX11_count_119
                · have hf := gb_f c1_7 hf
                  by_cases c1_8 : v1 = 8
                  · have hf := gb_t c1_8 hf
                    refine lv_tableIn (tgt := 120) (off := 119) hx hb dX11_count_1 (by rw [c1_8]; decide) (by rw [c1_8]; decide) (by rw [c1_8]; rfl) (by decide) ?_
                    refine lv_aload_n hx hb dX11_count_120 rfl (lv_at hl 0 rfl) ?_
                    obtain ⟨t121, ht121, hf⟩ := gb_b hf
                    refine cp_get (v := va_rf t121) hx hb hts gclX11 hown hK hG 0 (gfR_s ht121) (by decide) (hts _ (List.mem_of_getElem? (i := 7) rfl)) (fun _ h9 => h9) dX11_count_121 ?_
                    obtain ⟨q124, hq124, hf⟩ := gb_b hf
                    rw [hq124]
                    obtain ⟨t124, ht124, hf⟩ := gb_b hf
                    refine cp_get (v := .int t124) hx hb hts gclX6 hown hK hG 1 (gfI_s ht124) (by decide) (hts _ (List.mem_of_getElem? (i := 8) rfl)) (fun _ h9 => h9) dX11_count_124 ?_
                    cases hf
                    exact gp_retI hx hb hr hlocks hG hS (Nat.le_of_ble_eq_true rfl) (Nat.le_of_ble_eq_true rfl) dX11_count_127
                  · have hf := gb_f c1_8 hf
                    have ho1 : (v1).toInt < 0 ∨ 8 < (v1).toInt := by
                      have q : ∀ k : Int32, ¬ v1 = k → ¬ (v1).toInt = k.toInt := fun k hk h => hk (Int32.toInt_inj.mp h)
                      have q0 := q 0 c1_0; rw [show (0 : Int32).toInt = 0 from rfl] at q0
                      have q1 := q 1 c1_1; rw [show (1 : Int32).toInt = 1 from rfl] at q1
                      have q2 := q 2 c1_2; rw [show (2 : Int32).toInt = 2 from rfl] at q2
                      have q3 := q 3 c1_3; rw [show (3 : Int32).toInt = 3 from rfl] at q3
                      have q4 := q 4 c1_4; rw [show (4 : Int32).toInt = 4 from rfl] at q4
                      have q5 := q 5 c1_5; rw [show (5 : Int32).toInt = 5 from rfl] at q5
                      have q6 := q 6 c1_6; rw [show (6 : Int32).toInt = 6 from rfl] at q6
                      have q7 := q 7 c1_7; rw [show (7 : Int32).toInt = 7 from rfl] at q7
                      have q8 := q 8 c1_8; rw [show (8 : Int32).toInt = 8 from rfl] at q8
                      omega
                    refine lv_tableOut (tgt := 128) hx hb dX11_count_1 ho1 (by decide) ?_
                    refine lv_iload_n hx hb dX11_count_128 rfl (lv_at hl 1 rfl) ?_
                    refine lv_bipush (v := 11) hx hb dX11_count_129 (by decide) ?_
                    obtain ⟨j131, hj131, hf⟩ := gb_b hf
                    have hJ131 : ∀ (H : Heap) (locs : List Loc) (ls : Array Slot), GP D b M (gW cI cL gv) H → va_S (gA b) s.heap H locs → lv_has ls 2 [] → W p l e rm_X11_count s m [.ref h0, .int v1].toArray below meth c H locs 0 0 (MQ below (gQ D b (some (.int R)) M (gW cI cL gv)) [.ref h0, .int v1].toArray s 0 0 (gA b)) (F0 m 154 ls [.int j131]) := by
                      intro H locs ls hG hS hl
                      cases hf
                      exact gp_retI hx hb hr hlocks hG hS (Nat.le_of_ble_eq_true rfl) (Nat.le_of_ble_eq_true rfl) dX11_count_154
                    refine lv_icmp_lt (tgt := 140) hx hb dX11_count_131 (by decide) (fun c131 => ?_) (fun c131 => ?_)
                    · have hj131 := gb_t c131 hj131
                      refine lv_bipush (v := (-9 : Int32)) hx hb dX11_count_140 (by decide) ?_
                      refine lv_goto (tgt := 154) hx hb dX11_count_142 (by decide) ?_
                      have hj131 := Option.some.inj hj131
                      subst hj131
                      exact (hJ131 H locs ls hG hS (lv_sub hl [] rfl))
                    · have hj131 := gb_f c131 hj131
                      refine lv_iload_n hx hb dX11_count_134 rfl (lv_at hl 1 rfl) ?_
                      refine lv_bipush (v := 16) hx hb dX11_count_135 (by decide) ?_
                      refine lv_icmp_le (tgt := 145) hx hb dX11_count_137 (by decide) (fun c137 => ?_) (fun c137 => ?_)
                      · have hj131 := gb_t c137 hj131
                        refine lv_aload_n hx hb dX11_count_145 rfl (lv_at hl 0 rfl) ?_
                        obtain ⟨t146, ht146, hj131⟩ := gb_b hj131
                        refine cp_get (v := va_rf t146) hx hb hts gclX11 hown hK hG 2 (gfR_s ht146) (by decide) (hts _ (List.mem_of_getElem? (i := 9) rfl)) (fun _ h9 => h9) dX11_count_146 ?_
                        refine lv_iload_n hx hb dX11_count_149 rfl (lv_at hl 1 rfl) ?_
                        refine lv_bipush (v := 10) hx hb dX11_count_150 (by decide) ?_
                        refine lv_isub hx hb dX11_count_152 ?_
                        obtain ⟨q153, hq153, hj131⟩ := gb_b hj131
                        rw [hq153]
                        obtain ⟨t153, ht153, hj131⟩ := gb_b hj131
                        refine cp_iald hx hb hK hG ht153 dX11_count_153 ?_
                        have hj131 := Option.some.inj hj131
                        subst hj131
                        exact (hJ131 H locs ls hG hS (lv_sub hl [] rfl))
                      · have hj131 := gb_f c137 hj131
                        refine lv_bipush (v := (-9 : Int32)) hx hb dX11_count_140 (by decide) ?_
                        refine lv_goto (tgt := 154) hx hb dX11_count_142 (by decide) ?_
                        have hj131 := Option.some.inj hj131
                        subst hj131
                        exact (hJ131 H locs ls hG hS (lv_sub hl [] rfl))
-- X11_counted
abbrev rm_X11_counted : Room := { frames := 1, cells := 0, slots := 0, locals := 21 }
def f_X11_counted (gv : Nat → GV) (h0 : Nat) (v1 : Int32) : Option (Int32 × (Nat → GV)) :=
  (if 0 ≤ v1 then some (v1, gv) else ((gfO gv h0 [9]).bind fun _ => f_X11_refuse gv h0 v1).bind fun o6 => some (o6.1, o6.2) : Option (Int32 × (Nat → GV))).bind fun j1 => some (j1.1, j1.2)
set_option maxHeartbeats 4000000 in
set_option maxRecDepth 100000 in
theorem c_X11_counted {v1 : Int32} {R : Int32 × (Nat → GV)} (hf : f_X11_counted gv h0 v1 = some R) : Met l yX11_counted wsX11_counted rm_X11_counted (va_Pc [.ref h0, .int v1] (gPre D b M (gW cI cL gv) (gTy cI cL))) (gQ D b (some (.int R.1)) M (gW cI cL R.2)) 0 0 (gA b) := by
  refine gp_met (cc := cX11_counted) (maxL := 2) (ret := (some .int)) (by decide) rfl (Nat.le_of_ble_eq_true rfl) ?_
  intro p e s m below meth c X ls hG hl
  obtain ⟨H, hH0⟩ : ∃ H : Heap, H = s.heap := ⟨_, rfl⟩
  rw [← hH0] at hG ⊢
  have hS : va_S (gA b) s.heap H [] := by rw [hH0]; exact va_S.rf
  obtain ⟨locs, hlo⟩ : ∃ z : List Loc, z = [] := ⟨_, rfl⟩
  rw [← hlo] at hS ⊢
  unfold f_X11_counted at hf
  obtain ⟨hx, hb, hr, hml, hown, hts, hlocks, hKn⟩ := id X
  have hK := hKn.1
  have hl : lv_has ls 2 [(0, .ref h0), (1, .int v1)] := hl
  refine lv_iload_n hx hb dX11_counted_0 rfl (lv_at hl 1 rfl) ?_
  obtain ⟨j1, hj1, hf⟩ := gb_b hf
  have hJ1 : ∀ (H : Heap) (locs : List Loc) (ls : Array Slot), GP D b M (gW cI cL j1.2) H → va_S (gA b) s.heap H locs → lv_has ls 2 [] → W p l e rm_X11_counted s m [.ref h0, .int v1].toArray below meth c H locs 0 0 (MQ below (gQ D b (some (.int R.1)) M (gW cI cL R.2)) [.ref h0, .int v1].toArray s 0 0 (gA b)) (F0 m 13 ls [.int j1.1]) := by
    intro H locs ls hG hS hl
    cases hf
    exact gp_retI hx hb hr hlocks hG hS (Nat.le_of_ble_eq_true rfl) (Nat.le_of_ble_eq_true rfl) dX11_counted_13
  refine lv_if_ge (tgt := 12) hx hb dX11_counted_1 (by decide) (fun c1 => ?_) (fun c1 => ?_)
  · have hj1 := gb_t c1 hj1
    refine lv_iload_n hx hb dX11_counted_12 rfl (lv_at hl 1 rfl) ?_
    have hj1 := Option.some.inj hj1
    subst hj1
    exact (hJ1 H locs ls hG hS (lv_sub hl [] rfl))
  · have hj1 := gb_f c1 hj1
    refine lv_aload_n hx hb dX11_counted_4 rfl (lv_at hl 0 rfl) ?_
    refine lv_iload_n hx hb dX11_counted_5 rfl (lv_at hl 1 rfl) ?_
    obtain ⟨o6, hc6, hj1⟩ := gb_b hj1
    obtain ⟨oc6, hcO6, hc6⟩ := gb_b hc6
    obtain ⟨hcg6, hci6⟩ := gfO_s hcO6
    have hci6 := List.mem_singleton.mp hci6
    obtain ⟨kc6, fc6⟩ := oc6
    dsimp only at hci6 hcg6
    subst hci6
    refine gp_callI (va_runV (As := [.int v1]) (rest := []) ⟨hx, hb, hml, hown, hts⟩ (c_X11_refuse (l := l) (D := D) (b := b) (cI := cI) (cL := cL) hc6) (cwV 1 hts gX11_counted_X11_refuse rfl rfl rfl (by decide +kernel) ⟨Nat.le_of_ble_eq_true rfl, Nat.le_of_ble_eq_true rfl⟩) (gp_preV hKn hG (cp_obj hcg6) rfl) rfl rfl hl.1 rfl (lv_room (Nat.le_of_ble_eq_true rfl)) dX11_counted_6 ⟨Nat.le_of_ble_eq_true rfl, Nat.le_of_ble_eq_true rfl⟩) hS (fun H locs hG hS => ?_)
    refine lv_goto (tgt := 13) hx hb dX11_counted_9 (by decide) ?_
    have hj1 := Option.some.inj hj1
    subst hj1
    exact (hJ1 H locs ls hG hS (lv_sub hl [] rfl))
-- X11_evenestLamp
abbrev rm_X11_evenestLamp : Room := { frames := 3, cells := 0, slots := 0, locals := 74 }
def L_X11_evenestLamp_18 {α : Type} (K100 : Int32 → Option α) (gv : Nat → GV) (v0 : Nat) (v1 : Int64) : Nat → Int32 → Int32 → Int32 → Option α
  | 0, _, _, _ => none
  | n + 1, v3, v4, v5 => (gfR gv v0 [9] 4).bind fun t21 => t21.bind fun q24 => (gfI gv q24 [8] 3).bind fun t24 => if t24 ≤ v5 then K100 v3 else (gfR gv v0 [9] 4).bind fun t31 => t31.bind fun q36 => ((gfO gv q36 [8]).bind fun _ => f_X10_lampAt gv q36 v5).bind fun o36 => (match o36 with | none => some (v3, v4) | some n43 => (gfR gv v0 [9] 4).bind fun t49 => (fv_X5_glow gv n43 t49).bind fun o52 => (f_X2_howMany (v1 &&& o52)).bind fun o61 => (f_X2_howMany (v1 &&& (o52 ^^^ (-1 : Int64)))).bind fun o72 => if (if o72 < o61 then o72 else o61) ≤ v4 then some (v3, v4) else some (v5, if o72 < o61 then o72 else o61) : Option (Int32 × Int32)).bind fun j43 => L_X11_evenestLamp_18 K100 gv v0 v1 n j43.1 j43.2 (v5 + 1)
set_option maxHeartbeats 4000000 in
set_option maxRecDepth 100000 in
theorem w_X11_evenestLamp_18 {α : Type} {R : α} {K100 : Int32 → Option α} {v0 : Nat} {v1 : Int64} (X : gC p s m args meth c cX11_evenestLamp 10 (some .int) wsX11_evenestLamp RX11 D b (gTy cI cL)) : ∀ (n : Nat) (v3 : Int32) (v4 : Int32) (v5 : Int32), L_X11_evenestLamp_18 K100 gv v0 v1 n v3 v4 v5 = some R → (∀ (x : Int32), K100 x = some R → ∀ (H : Heap) (locs : List Loc) (ls : Array Slot), GP D b M (gW cI cL gv) H → va_S (gA b) s.heap H locs → lv_has ls 10 [(3, .int x)] → W p l e rm_X11_evenestLamp s m args below meth c H locs 0 0 Q (F0 m 100 ls [])) → ∀ (H : Heap) (locs : List Loc) (ls : Array Slot), GP D b M (gW cI cL gv) H → va_S (gA b) s.heap H locs → lv_has ls 10 [(0, .ref v0), (1, .long v1), (3, .int v3), (4, .int v4), (5, .int v5)] → W p l e rm_X11_evenestLamp s m args below meth c H locs 0 0 Q (F0 m 18 ls []) := by
  obtain ⟨hx, hb, hr, hml, hown, hts, hlocks, hKn⟩ := id X
  have hK := hKn.1
  have gclX10 : gcl [8] TX10 6 wsX11_evenestLamp := gcl_1 rfl (fun _ h => List.mem_cons_of_mem _ (List.mem_append_left _ (List.mem_append_left _ (List.mem_append_left _ (List.mem_append_left _ (List.mem_append_left _ (List.mem_append_left _ (List.mem_append_left _ (List.mem_append_right _ h)))))))))
  have gclX11 : gcl [9] TX11 8 wsX11_evenestLamp := gcl_1 rfl (fun _ h => List.mem_cons_of_mem _ (List.mem_append_left _ (List.mem_append_left _ (List.mem_append_left _ (List.mem_append_left _ (List.mem_append_left _ (List.mem_append_left _ (List.mem_append_left _ (List.mem_append_left _ (List.mem_append_right _ h))))))))))
  intro n
  induction n with
  | zero =>
    intro v3 v4 v5 hf
    cases hf
  | succ n ih =>
    intro v3 v4 v5 hf hk100 H locs ls hG hS hl
    rw [L_X11_evenestLamp_18.eq_2] at hf
    refine lv_iload hx hb dX11_evenestLamp_18 (lv_at hl 4 rfl) ?_
    refine lv_aload_n hx hb dX11_evenestLamp_20 rfl (lv_at hl 0 rfl) ?_
    obtain ⟨t21, ht21, hf⟩ := gb_b hf
    refine cp_get (v := va_rf t21) hx hb hts gclX11 hown hK hG 4 (gfR_s ht21) (by decide) (hts _ (List.mem_of_getElem? (i := 1) rfl)) (fun _ h9 => h9) dX11_evenestLamp_21 ?_
    obtain ⟨q24, hq24, hf⟩ := gb_b hf
    rw [hq24]
    obtain ⟨t24, ht24, hf⟩ := gb_b hf
    refine cp_get (v := .int t24) hx hb hts gclX10 hown hK hG 3 (gfI_s ht24) (by decide) (hts _ (List.mem_of_getElem? (i := 2) rfl)) (fun _ h9 => h9) dX11_evenestLamp_24 ?_
    refine lv_icmp_ge (tgt := 100) hx hb dX11_evenestLamp_27 (by decide) (fun c27 => ?_) (fun c27 => ?_)
    · have hf := gb_t c27 hf
      exact (hk100 _ hf _ _ _ hG hS (lv_sub hl [2] rfl))
    · have hf := gb_f c27 hf
      refine lv_aload_n hx hb dX11_evenestLamp_30 rfl (lv_at hl 0 rfl) ?_
      obtain ⟨t31, ht31, hf⟩ := gb_b hf
      refine cp_get (v := va_rf t31) hx hb hts gclX11 hown hK hG 4 (gfR_s ht31) (by decide) (hts _ (List.mem_of_getElem? (i := 1) rfl)) (fun _ h9 => h9) dX11_evenestLamp_31 ?_
      refine lv_iload hx hb dX11_evenestLamp_34 (lv_at hl 4 rfl) ?_
      obtain ⟨q36, hq36, hf⟩ := gb_b hf
      rw [hq36]
      obtain ⟨o36, hc36, hf⟩ := gb_b hf
      obtain ⟨oc36, hcO36, hc36⟩ := gb_b hc36
      obtain ⟨hcg36, hci36⟩ := gfO_s hcO36
      have hci36 := List.mem_singleton.mp hci36
      obtain ⟨kc36, fc36⟩ := oc36
      dsimp only at hci36 hcg36
      subst hci36
      refine gp_callR (va_runV (As := [.int v5]) (rest := []) ⟨hx, hb, hml, hown, hts⟩ (c_X10_lampAt (l := l) (D := D) (b := b) (cI := cI) (cL := cL) hc36) (cwV 1 hts gX11_evenestLamp_X10_lampAt rfl rfl rfl (by decide +kernel) ⟨Nat.le_of_ble_eq_true rfl, Nat.le_of_ble_eq_true rfl⟩) (gp_preV hKn hG (cp_obj hcg36) rfl) rfl rfl hl.1 rfl (lv_room (Nat.le_of_ble_eq_true rfl)) dX11_evenestLamp_36 ⟨Nat.le_of_ble_eq_true rfl, Nat.le_of_ble_eq_true rfl⟩) hS (fun H locs hG hS => ?_)
      refine gp_astore (lv' := [(6, va_rf o36), (0, .ref v0), (1, .long v1), (3, .int v3), (4, .int v4), (5, .int v5)]) hx hb dX11_evenestLamp_39 hl (by decide) rfl (fun ls hl => ?_)
      refine gp_aload (x := o36) hx hb dX11_evenestLamp_41 (lv_at hl 0 rfl) ?_
      obtain ⟨j43, hj43, hf⟩ := gb_b hf
      have hJ43 : ∀ (H : Heap) (locs : List Loc) (ls : Array Slot), GP D b M (gW cI cL gv) H → va_S (gA b) s.heap H locs → lv_has ls 10 [(0, .ref v0), (1, .long v1), (3, .int j43.1), (4, .int j43.2), (5, .int v5)] → W p l e rm_X11_evenestLamp s m args below meth c H locs 0 0 Q (F0 m 94 ls []) := by
        intro H locs ls hG hS hl
        refine lv_iinc (v := v5 + 1) (lv' := [(5, .int (v5 + 1)), (0, .ref v0), (1, .long v1), (3, .int j43.1), (4, .int j43.2)]) hx hb dX11_evenestLamp_94 hl (k := 4) rfl rfl (by decide) rfl (fun ls hl => ?_)
        refine lv_goto (tgt := 18) hx hb dX11_evenestLamp_97 (by decide) ?_
        exact ih _ _ _ hf hk100 _ _ _ hG hS (lv_sub hl [1, 2, 3, 4, 0] rfl)
      refine gp_ifnull (x := o36) (tgt := 94) hx hb dX11_evenestLamp_43 (by decide) ?_ ?_
      · intro e43
        rw [e43] at hl
        rw [e43] at hj43
        dsimp only at hj43
        have hj43 := Option.some.inj hj43
        subst hj43
        exact (hJ43 H locs ls hG hS (lv_sub hl [1, 2, 3, 4, 5] rfl))
      · intro n43 e43
        rw [e43] at hl
        rw [e43] at hj43
        dsimp only at hj43
        refine lv_aload hx hb dX11_evenestLamp_46 (lv_at hl 0 rfl) ?_
        refine lv_aload_n hx hb dX11_evenestLamp_48 rfl (lv_at hl 1 rfl) ?_
        obtain ⟨t49, ht49, hj43⟩ := gb_b hj43
        refine cp_get (v := va_rf t49) hx hb hts gclX11 hown hK hG 4 (gfR_s ht49) (by decide) (hts _ (List.mem_of_getElem? (i := 1) rfl)) (fun _ h9 => h9) dX11_evenestLamp_49 ?_
        obtain ⟨o52, hc52, hj43⟩ := gb_b hj43
        have hrun52 : va_Run p l e rm_X11_evenestLamp s m args below meth c H locs 0 0 0 0 (F0 m 52 ls ([va_rf t49].reverse ++ .ref n43 :: [])) [] (gQ D b (some (.long o52)) M (gW cI cL gv) (Value.ref n43 :: [va_rf t49]).toArray) (gA b) := by
          obtain ⟨oc, hcO, hc52⟩ := gb_b hc52
          obtain ⟨hcg, hci⟩ := gfO_s hcO
          obtain ⟨kc, fc⟩ := oc
          dsimp only at hci hcg hc52
          rcases gLC_7 hci with rfl | rfl | rfl | rfl | rfl | rfl | rfl
          · exact va_runU (As := [va_rf t49]) (rest := []) ⟨hx, hb, hml, hown, hts⟩ (c_X5_glow (l := l) (D := D) (b := b) (cI := cI) (cL := cL) hc52) (va_cwU 1 hts gX11_evenestLamp_X5_glow_u108X0 rfl rfl rfl rfl (by decide +kernel) ⟨Nat.le_of_ble_eq_true rfl, Nat.le_of_ble_eq_true rfl⟩) (gp_preV hKn hG (cp_obj hcg) rfl) rfl rfl hl.1 rfl (lv_room (Nat.le_of_ble_eq_true rfl)) dX11_evenestLamp_52 ⟨Nat.le_of_ble_eq_true rfl, Nat.le_of_ble_eq_true rfl⟩
          · exact va_runU (As := [va_rf t49]) (rest := []) ⟨hx, hb, hml, hown, hts⟩ (c_X5_glow (l := l) (D := D) (b := b) (cI := cI) (cL := cL) hc52) (va_cwU 1 hts gX11_evenestLamp_X5_glow_u108X1 rfl rfl rfl rfl (by decide +kernel) ⟨Nat.le_of_ble_eq_true rfl, Nat.le_of_ble_eq_true rfl⟩) (gp_preV hKn hG (cp_obj hcg) rfl) rfl rfl hl.1 rfl (lv_room (Nat.le_of_ble_eq_true rfl)) dX11_evenestLamp_52 ⟨Nat.le_of_ble_eq_true rfl, Nat.le_of_ble_eq_true rfl⟩
          · exact va_runU (As := [va_rf t49]) (rest := []) ⟨hx, hb, hml, hown, hts⟩ (c_X5_glow (l := l) (D := D) (b := b) (cI := cI) (cL := cL) hc52) (va_cwU 1 hts gX11_evenestLamp_X5_glow_u108X3 rfl rfl rfl rfl (by decide +kernel) ⟨Nat.le_of_ble_eq_true rfl, Nat.le_of_ble_eq_true rfl⟩) (gp_preV hKn hG (cp_obj hcg) rfl) rfl rfl hl.1 rfl (lv_room (Nat.le_of_ble_eq_true rfl)) dX11_evenestLamp_52 ⟨Nat.le_of_ble_eq_true rfl, Nat.le_of_ble_eq_true rfl⟩
          · exact va_runU (As := [va_rf t49]) (rest := []) ⟨hx, hb, hml, hown, hts⟩ (c_X5_glow (l := l) (D := D) (b := b) (cI := cI) (cL := cL) hc52) (va_cwU 1 hts gX11_evenestLamp_X5_glow_u108X4 rfl rfl rfl rfl (by decide +kernel) ⟨Nat.le_of_ble_eq_true rfl, Nat.le_of_ble_eq_true rfl⟩) (gp_preV hKn hG (cp_obj hcg) rfl) rfl rfl hl.1 rfl (lv_room (Nat.le_of_ble_eq_true rfl)) dX11_evenestLamp_52 ⟨Nat.le_of_ble_eq_true rfl, Nat.le_of_ble_eq_true rfl⟩
          · exact va_runV (As := [va_rf t49]) (rest := []) ⟨hx, hb, hml, hown, hts⟩ (c_X5_glow (l := l) (D := D) (b := b) (cI := cI) (cL := cL) hc52) (cwV 1 hts gX11_evenestLamp_X5_glow rfl rfl rfl (by decide +kernel) ⟨Nat.le_of_ble_eq_true rfl, Nat.le_of_ble_eq_true rfl⟩) (gp_preV hKn hG (cp_obj hcg) rfl) rfl rfl hl.1 rfl (lv_room (Nat.le_of_ble_eq_true rfl)) dX11_evenestLamp_52 ⟨Nat.le_of_ble_eq_true rfl, Nat.le_of_ble_eq_true rfl⟩
          · exact va_runU (As := [va_rf t49]) (rest := []) ⟨hx, hb, hml, hown, hts⟩ (c_X5_glow (l := l) (D := D) (b := b) (cI := cI) (cL := cL) hc52) (va_cwU 1 hts gX11_evenestLamp_X5_glow_u108X7 rfl rfl rfl rfl (by decide +kernel) ⟨Nat.le_of_ble_eq_true rfl, Nat.le_of_ble_eq_true rfl⟩) (gp_preV hKn hG (cp_obj hcg) rfl) rfl rfl hl.1 rfl (lv_room (Nat.le_of_ble_eq_true rfl)) dX11_evenestLamp_52 ⟨Nat.le_of_ble_eq_true rfl, Nat.le_of_ble_eq_true rfl⟩
          · exact va_runU (As := [va_rf t49]) (rest := []) ⟨hx, hb, hml, hown, hts⟩ (c_X5_glow (l := l) (D := D) (b := b) (cI := cI) (cL := cL) hc52) (va_cwU 1 hts gX11_evenestLamp_X5_glow_u108X8 rfl rfl rfl rfl (by decide +kernel) ⟨Nat.le_of_ble_eq_true rfl, Nat.le_of_ble_eq_true rfl⟩) (gp_preV hKn hG (cp_obj hcg) rfl) rfl rfl hl.1 rfl (lv_room (Nat.le_of_ble_eq_true rfl)) dX11_evenestLamp_52 ⟨Nat.le_of_ble_eq_true rfl, Nat.le_of_ble_eq_true rfl⟩
        refine gp_callL hrun52 hS (fun H locs hG hS => ?_)
        refine lv_lstore (lv' := [(7, .long o52), (6, .ref n43), (0, .ref v0), (1, .long v1), (3, .int v3), (4, .int v4), (5, .int v5)]) hx hb dX11_evenestLamp_55 hl (by decide) rfl (fun ls hl => ?_)
        refine lv_lload_n hx hb dX11_evenestLamp_57 rfl (lv_at hl 3 rfl) ?_
        refine lv_lload hx hb dX11_evenestLamp_58 (lv_at hl 0 rfl) ?_
        refine lv_land hx hb dX11_evenestLamp_60 ?_
        obtain ⟨o61, hc61, hj43⟩ := gb_b hj43
        refine gp_callI (va_runS (As := [.long (v1 &&& o52)]) (rest := []) ⟨hx, hb, hml, hown, hts⟩ (c_X2_howMany (l := l) (D := D) (b := b) (cI := cI) (cL := cL) hc61) (va_cwS 1 hts gX11_evenestLamp_X2_howMany rfl rfl rfl (by decide +kernel) ⟨Nat.le_of_ble_eq_true rfl, Nat.le_of_ble_eq_true rfl⟩) (gp_preS hKn hG) rfl rfl hl.1 rfl (lv_room (Nat.le_of_ble_eq_true rfl)) dX11_evenestLamp_61 ⟨Nat.le_of_ble_eq_true rfl, Nat.le_of_ble_eq_true rfl⟩) hS (fun H locs hG hS => ?_)
        refine lv_lload_n hx hb dX11_evenestLamp_64 rfl (lv_at hl 3 rfl) ?_
        refine lv_lload hx hb dX11_evenestLamp_65 (lv_at hl 0 rfl) ?_
        refine lv_ldc2 (v := (-1 : Int64)) hx hb hown (hts _ (List.mem_of_getElem? (i := 3) rfl)) dX11_evenestLamp_67 ?_
        refine lv_lxor hx hb dX11_evenestLamp_70 ?_
        refine lv_land hx hb dX11_evenestLamp_71 ?_
        obtain ⟨o72, hc72, hj43⟩ := gb_b hj43
        refine gp_callI (va_runS (As := [.long (v1 &&& (o52 ^^^ (-1 : Int64)))]) (rest := [.int o61]) ⟨hx, hb, hml, hown, hts⟩ (c_X2_howMany (l := l) (D := D) (b := b) (cI := cI) (cL := cL) hc72) (va_cwS 1 hts gX11_evenestLamp_X2_howMany rfl rfl rfl (by decide +kernel) ⟨Nat.le_of_ble_eq_true rfl, Nat.le_of_ble_eq_true rfl⟩) (gp_preS hKn hG) rfl rfl hl.1 rfl (lv_room (Nat.le_of_ble_eq_true rfl)) dX11_evenestLamp_72 ⟨Nat.le_of_ble_eq_true rfl, Nat.le_of_ble_eq_true rfl⟩) hS (fun H locs hG hS => ?_)
        refine va_mmin hx hb (hml.trans hl.1.symm) hown (hts _ (List.mem_of_getElem? (i := 4) rfl)) (hts _ (List.mem_of_getElem? (i := 5) rfl)) (hts _ (List.mem_of_getElem? (i := 6) rfl)) (hts _ (List.mem_of_getElem? (i := 7) rfl)) (Nat.le_of_ble_eq_true rfl) (Nat.le_of_ble_eq_true rfl) (Nat.le_of_ble_eq_true rfl) (Nat.le_of_ble_eq_true rfl) dX11_evenestLamp_75 ?_
        refine lv_istore (lv' := [(9, .int (if o72 < o61 then o72 else o61)), (7, .long o52), (6, .ref n43), (0, .ref v0), (1, .long v1), (3, .int v3), (4, .int v4), (5, .int v5)]) hx hb dX11_evenestLamp_78 hl (by decide) rfl (fun ls hl => ?_)
        refine lv_iload hx hb dX11_evenestLamp_80 (lv_at hl 0 rfl) ?_
        refine lv_iload hx hb dX11_evenestLamp_82 (lv_at hl 6 rfl) ?_
        refine lv_icmp_le (tgt := 94) hx hb dX11_evenestLamp_84 (by decide) (fun c84 => ?_) (fun c84 => ?_)
        · have hj43 := gb_t c84 hj43
          have hj43 := Option.some.inj hj43
          subst hj43
          exact (hJ43 H locs ls hG hS (lv_sub hl [3, 4, 5, 6, 7] rfl))
        · have hj43 := gb_f c84 hj43
          refine lv_iload hx hb dX11_evenestLamp_87 (lv_at hl 7 rfl) ?_
          refine lv_istore_n (lv' := [(3, .int v5), (9, .int (if o72 < o61 then o72 else o61)), (7, .long o52), (6, .ref n43), (0, .ref v0), (1, .long v1), (4, .int v4), (5, .int v5)]) hx hb dX11_evenestLamp_89 rfl hl (by decide) rfl (fun ls hl => ?_)
          refine lv_iload hx hb dX11_evenestLamp_90 (lv_at hl 1 rfl) ?_
          refine lv_istore (lv' := [(4, .int (if o72 < o61 then o72 else o61)), (3, .int v5), (9, .int (if o72 < o61 then o72 else o61)), (7, .long o52), (6, .ref n43), (0, .ref v0), (1, .long v1), (5, .int v5)]) hx hb dX11_evenestLamp_92 hl (by decide) rfl (fun ls hl => ?_)
          have hj43 := Option.some.inj hj43
          subst hj43
          exact (hJ43 H locs ls hG hS (lv_sub hl [5, 6, 1, 0, 7] rfl))
def f_X11_evenestLamp (gv : Nat → GV) (h0 : Nat) (v1 : Int64) : Option (Int32) :=
  if (lg_cmp v1 (0 : Int64)) = 0 then some (-9 : Int32) else L_X11_evenestLamp_18 (fun x18_100 => some x18_100) gv h0 v1 gF (-9 : Int32) (-1 : Int32) 0
set_option maxHeartbeats 4000000 in
set_option maxRecDepth 100000 in
theorem c_X11_evenestLamp {v1 : Int64} {R : Int32} (hf : f_X11_evenestLamp gv h0 v1 = some R) : Met l yX11_evenestLamp wsX11_evenestLamp rm_X11_evenestLamp (va_Pc [.ref h0, .long v1] (gPre D b M (gW cI cL gv) (gTy cI cL))) (gQ D b (some (.int R)) M (gW cI cL gv)) 0 0 (gA b) := by
  refine gp_met (cc := cX11_evenestLamp) (maxL := 10) (ret := (some .int)) (by decide) rfl (Nat.le_of_ble_eq_true rfl) ?_
  intro p e s m below meth c X ls hG hl
  obtain ⟨H, hH0⟩ : ∃ H : Heap, H = s.heap := ⟨_, rfl⟩
  rw [← hH0] at hG ⊢
  have hS : va_S (gA b) s.heap H [] := by rw [hH0]; exact va_S.rf
  obtain ⟨locs, hlo⟩ : ∃ z : List Loc, z = [] := ⟨_, rfl⟩
  rw [← hlo] at hS ⊢
  unfold f_X11_evenestLamp at hf
  obtain ⟨hx, hb, hr, hml, hown, hts, hlocks, hKn⟩ := id X
  have hK := hKn.1
  have gclX10 : gcl [8] TX10 6 wsX11_evenestLamp := gcl_1 rfl (fun _ h => List.mem_cons_of_mem _ (List.mem_append_left _ (List.mem_append_left _ (List.mem_append_left _ (List.mem_append_left _ (List.mem_append_left _ (List.mem_append_left _ (List.mem_append_left _ (List.mem_append_right _ h)))))))))
  have gclX11 : gcl [9] TX11 8 wsX11_evenestLamp := gcl_1 rfl (fun _ h => List.mem_cons_of_mem _ (List.mem_append_left _ (List.mem_append_left _ (List.mem_append_left _ (List.mem_append_left _ (List.mem_append_left _ (List.mem_append_left _ (List.mem_append_left _ (List.mem_append_left _ (List.mem_append_right _ h))))))))))
  have hl : lv_has ls 10 [(0, .ref h0), (1, .long v1)] := hl
  refine lv_lload_n hx hb dX11_evenestLamp_0 rfl (lv_at hl 1 rfl) ?_
  refine lv_lconst (v := (0 : Int64)) hx hb dX11_evenestLamp_1 (by decide) ?_
  refine W.lcmp hx hb dX11_evenestLamp_2 ?_
  refine lv_if_ne (tgt := 9) hx hb dX11_evenestLamp_3 (by decide) (fun c3 => ?_) (fun c3 => ?_)
  · have hf := gb_f c3 hf
    refine lv_bipush (v := (-9 : Int32)) hx hb dX11_evenestLamp_9 (by decide) ?_
    refine lv_istore_n (lv' := [(3, .int (-9 : Int32)), (0, .ref h0), (1, .long v1)]) hx hb dX11_evenestLamp_11 rfl hl (by decide) rfl (fun ls hl => ?_)
    refine lv_iconst (v := (-1 : Int32)) hx hb dX11_evenestLamp_12 (by decide) ?_
    refine lv_istore (lv' := [(4, .int (-1 : Int32)), (3, .int (-9 : Int32)), (0, .ref h0), (1, .long v1)]) hx hb dX11_evenestLamp_13 hl (by decide) rfl (fun ls hl => ?_)
    refine lv_iconst (v := 0) hx hb dX11_evenestLamp_15 (by decide) ?_
    refine lv_istore (lv' := [(5, .int 0), (4, .int (-1 : Int32)), (3, .int (-9 : Int32)), (0, .ref h0), (1, .long v1)]) hx hb dX11_evenestLamp_16 hl (by decide) rfl (fun ls hl => ?_)
    refine w_X11_evenestLamp_18 X _ _ _ _ hf (fun x18_100 hf H locs ls hG hS hl => ?_) _ _ _ hG hS (lv_sub hl [3, 4, 2, 1, 0] rfl)
    · refine lv_iload_n hx hb dX11_evenestLamp_100 rfl (lv_at hl 0 rfl) ?_
      cases hf
      exact gp_retI hx hb hr hlocks hG hS (Nat.le_of_ble_eq_true rfl) (Nat.le_of_ble_eq_true rfl) dX11_evenestLamp_101
  · have hf := gb_t c3 hf
    refine lv_bipush (v := (-9 : Int32)) hx hb dX11_evenestLamp_6 (by decide) ?_
    cases hf
    exact gp_retI hx hb hr hlocks hG hS (Nat.le_of_ble_eq_true rfl) (Nat.le_of_ble_eq_true rfl) dX11_evenestLamp_8
-- J6_bitCount_0f7a4
abbrev rm_J6_bitCount_0f7a4 : Room := { frames := 0, cells := 0, slots := 0, locals := 0 }
def f_J6_bitCount_0f7a4 (v0 : Int32) : Option (Int32) :=
  some ((((((((v0 - (((v0.toUInt32 >>> ((1 : Int32).toUInt32 &&& Int32.toUInt32 31)).toInt32) &&& 1431655765)) &&& 858993459) + ((((v0 - (((v0.toUInt32 >>> ((1 : Int32).toUInt32 &&& Int32.toUInt32 31)).toInt32) &&& 1431655765)).toUInt32 >>> ((2 : Int32).toUInt32 &&& Int32.toUInt32 31)).toInt32) &&& 858993459)) + (((((v0 - (((v0.toUInt32 >>> ((1 : Int32).toUInt32 &&& Int32.toUInt32 31)).toInt32) &&& 1431655765)) &&& 858993459) + ((((v0 - (((v0.toUInt32 >>> ((1 : Int32).toUInt32 &&& Int32.toUInt32 31)).toInt32) &&& 1431655765)).toUInt32 >>> ((2 : Int32).toUInt32 &&& Int32.toUInt32 31)).toInt32) &&& 858993459)).toUInt32 >>> ((4 : Int32).toUInt32 &&& Int32.toUInt32 31)).toInt32)) &&& 252645135) + (((((((v0 - (((v0.toUInt32 >>> ((1 : Int32).toUInt32 &&& Int32.toUInt32 31)).toInt32) &&& 1431655765)) &&& 858993459) + ((((v0 - (((v0.toUInt32 >>> ((1 : Int32).toUInt32 &&& Int32.toUInt32 31)).toInt32) &&& 1431655765)).toUInt32 >>> ((2 : Int32).toUInt32 &&& Int32.toUInt32 31)).toInt32) &&& 858993459)) + (((((v0 - (((v0.toUInt32 >>> ((1 : Int32).toUInt32 &&& Int32.toUInt32 31)).toInt32) &&& 1431655765)) &&& 858993459) + ((((v0 - (((v0.toUInt32 >>> ((1 : Int32).toUInt32 &&& Int32.toUInt32 31)).toInt32) &&& 1431655765)).toUInt32 >>> ((2 : Int32).toUInt32 &&& Int32.toUInt32 31)).toInt32) &&& 858993459)).toUInt32 >>> ((4 : Int32).toUInt32 &&& Int32.toUInt32 31)).toInt32)) &&& 252645135).toUInt32 >>> ((8 : Int32).toUInt32 &&& Int32.toUInt32 31)).toInt32)) + ((((((((v0 - (((v0.toUInt32 >>> ((1 : Int32).toUInt32 &&& Int32.toUInt32 31)).toInt32) &&& 1431655765)) &&& 858993459) + ((((v0 - (((v0.toUInt32 >>> ((1 : Int32).toUInt32 &&& Int32.toUInt32 31)).toInt32) &&& 1431655765)).toUInt32 >>> ((2 : Int32).toUInt32 &&& Int32.toUInt32 31)).toInt32) &&& 858993459)) + (((((v0 - (((v0.toUInt32 >>> ((1 : Int32).toUInt32 &&& Int32.toUInt32 31)).toInt32) &&& 1431655765)) &&& 858993459) + ((((v0 - (((v0.toUInt32 >>> ((1 : Int32).toUInt32 &&& Int32.toUInt32 31)).toInt32) &&& 1431655765)).toUInt32 >>> ((2 : Int32).toUInt32 &&& Int32.toUInt32 31)).toInt32) &&& 858993459)).toUInt32 >>> ((4 : Int32).toUInt32 &&& Int32.toUInt32 31)).toInt32)) &&& 252645135) + (((((((v0 - (((v0.toUInt32 >>> ((1 : Int32).toUInt32 &&& Int32.toUInt32 31)).toInt32) &&& 1431655765)) &&& 858993459) + ((((v0 - (((v0.toUInt32 >>> ((1 : Int32).toUInt32 &&& Int32.toUInt32 31)).toInt32) &&& 1431655765)).toUInt32 >>> ((2 : Int32).toUInt32 &&& Int32.toUInt32 31)).toInt32) &&& 858993459)) + (((((v0 - (((v0.toUInt32 >>> ((1 : Int32).toUInt32 &&& Int32.toUInt32 31)).toInt32) &&& 1431655765)) &&& 858993459) + ((((v0 - (((v0.toUInt32 >>> ((1 : Int32).toUInt32 &&& Int32.toUInt32 31)).toInt32) &&& 1431655765)).toUInt32 >>> ((2 : Int32).toUInt32 &&& Int32.toUInt32 31)).toInt32) &&& 858993459)).toUInt32 >>> ((4 : Int32).toUInt32 &&& Int32.toUInt32 31)).toInt32)) &&& 252645135).toUInt32 >>> ((8 : Int32).toUInt32 &&& Int32.toUInt32 31)).toInt32)).toUInt32 >>> ((16 : Int32).toUInt32 &&& Int32.toUInt32 31)).toInt32)) &&& 63)
set_option maxHeartbeats 4000000 in
set_option maxRecDepth 100000 in
theorem c_J6_bitCount_0f7a4 {v0 : Int32} {R : Int32} (hf : f_J6_bitCount_0f7a4 v0 = some R) : Met l yJ6_bitCount_0f7a4 wsJ6_bitCount_0f7a4 rm_J6_bitCount_0f7a4 (va_Pc [.int v0] (gPre D b M (gh) (gTy cI cL))) (gQ D b (some (.int R)) M (gh)) 0 0 (gA b) := by
  refine gp_met (cc := cJ6_bitCount_0f7a4) (maxL := 1) (ret := (some .int)) (by decide) rfl (Nat.le_of_ble_eq_true rfl) ?_
  intro p e s m below meth c X ls hG hl
  obtain ⟨H, hH0⟩ : ∃ H : Heap, H = s.heap := ⟨_, rfl⟩
  rw [← hH0] at hG ⊢
  have hS : va_S (gA b) s.heap H [] := by rw [hH0]; exact va_S.rf
  obtain ⟨locs, hlo⟩ : ∃ z : List Loc, z = [] := ⟨_, rfl⟩
  rw [← hlo] at hS ⊢
  unfold f_J6_bitCount_0f7a4 at hf
  obtain ⟨hx, hb, hr, hml, hown, hts, hlocks, hKn⟩ := id X
  have hK := hKn.1
  have hl : lv_has ls 1 [(0, .int v0)] := hl
  refine lv_iload_n hx hb dJ6_bitCount_0f7a4_0 rfl (lv_at hl 0 rfl) ?_
  refine lv_iload_n hx hb dJ6_bitCount_0f7a4_1 rfl (lv_at hl 0 rfl) ?_
  refine lv_iconst (v := 1) hx hb dJ6_bitCount_0f7a4_2 (by decide) ?_
  refine lv_iushr hx hb dJ6_bitCount_0f7a4_3 rfl ?_
  refine lv_ldcw (v := 1431655765) hx hb hown (hts _ (List.mem_of_getElem? (i := 1) rfl)) dJ6_bitCount_0f7a4_4 ?_
  refine lv_iand hx hb dJ6_bitCount_0f7a4_7 ?_
  refine lv_isub hx hb dJ6_bitCount_0f7a4_8 ?_
  refine lv_istore_n (lv' := [(0, .int (v0 - (((v0.toUInt32 >>> ((1 : Int32).toUInt32 &&& Int32.toUInt32 31)).toInt32) &&& 1431655765)))]) hx hb dJ6_bitCount_0f7a4_9 rfl hl (by decide) rfl (fun ls hl => ?_)
  refine lv_iload_n hx hb dJ6_bitCount_0f7a4_10 rfl (lv_at hl 0 rfl) ?_
  refine lv_ldcw (v := 858993459) hx hb hown (hts _ (List.mem_of_getElem? (i := 2) rfl)) dJ6_bitCount_0f7a4_11 ?_
  refine lv_iand hx hb dJ6_bitCount_0f7a4_14 ?_
  refine lv_iload_n hx hb dJ6_bitCount_0f7a4_15 rfl (lv_at hl 0 rfl) ?_
  refine lv_iconst (v := 2) hx hb dJ6_bitCount_0f7a4_16 (by decide) ?_
  refine lv_iushr hx hb dJ6_bitCount_0f7a4_17 rfl ?_
  refine lv_ldcw (v := 858993459) hx hb hown (hts _ (List.mem_of_getElem? (i := 2) rfl)) dJ6_bitCount_0f7a4_18 ?_
  refine lv_iand hx hb dJ6_bitCount_0f7a4_21 ?_
  refine lv_iadd hx hb dJ6_bitCount_0f7a4_22 ?_
  refine lv_istore_n (lv' := [(0, .int (((v0 - (((v0.toUInt32 >>> ((1 : Int32).toUInt32 &&& Int32.toUInt32 31)).toInt32) &&& 1431655765)) &&& 858993459) + ((((v0 - (((v0.toUInt32 >>> ((1 : Int32).toUInt32 &&& Int32.toUInt32 31)).toInt32) &&& 1431655765)).toUInt32 >>> ((2 : Int32).toUInt32 &&& Int32.toUInt32 31)).toInt32) &&& 858993459)))]) hx hb dJ6_bitCount_0f7a4_23 rfl hl (by decide) rfl (fun ls hl => ?_)
  refine lv_iload_n hx hb dJ6_bitCount_0f7a4_24 rfl (lv_at hl 0 rfl) ?_
  refine lv_iload_n hx hb dJ6_bitCount_0f7a4_25 rfl (lv_at hl 0 rfl) ?_
  refine lv_iconst (v := 4) hx hb dJ6_bitCount_0f7a4_26 (by decide) ?_
  refine lv_iushr hx hb dJ6_bitCount_0f7a4_27 rfl ?_
  refine lv_iadd hx hb dJ6_bitCount_0f7a4_28 ?_
  refine lv_ldcw (v := 252645135) hx hb hown (hts _ (List.mem_of_getElem? (i := 3) rfl)) dJ6_bitCount_0f7a4_29 ?_
  refine lv_iand hx hb dJ6_bitCount_0f7a4_32 ?_
  refine lv_istore_n (lv' := [(0, .int (((((v0 - (((v0.toUInt32 >>> ((1 : Int32).toUInt32 &&& Int32.toUInt32 31)).toInt32) &&& 1431655765)) &&& 858993459) + ((((v0 - (((v0.toUInt32 >>> ((1 : Int32).toUInt32 &&& Int32.toUInt32 31)).toInt32) &&& 1431655765)).toUInt32 >>> ((2 : Int32).toUInt32 &&& Int32.toUInt32 31)).toInt32) &&& 858993459)) + (((((v0 - (((v0.toUInt32 >>> ((1 : Int32).toUInt32 &&& Int32.toUInt32 31)).toInt32) &&& 1431655765)) &&& 858993459) + ((((v0 - (((v0.toUInt32 >>> ((1 : Int32).toUInt32 &&& Int32.toUInt32 31)).toInt32) &&& 1431655765)).toUInt32 >>> ((2 : Int32).toUInt32 &&& Int32.toUInt32 31)).toInt32) &&& 858993459)).toUInt32 >>> ((4 : Int32).toUInt32 &&& Int32.toUInt32 31)).toInt32)) &&& 252645135))]) hx hb dJ6_bitCount_0f7a4_33 rfl hl (by decide) rfl (fun ls hl => ?_)
  refine lv_iload_n hx hb dJ6_bitCount_0f7a4_34 rfl (lv_at hl 0 rfl) ?_
  refine lv_iload_n hx hb dJ6_bitCount_0f7a4_35 rfl (lv_at hl 0 rfl) ?_
  refine lv_bipush (v := 8) hx hb dJ6_bitCount_0f7a4_36 (by decide) ?_
  refine lv_iushr hx hb dJ6_bitCount_0f7a4_38 rfl ?_
  refine lv_iadd hx hb dJ6_bitCount_0f7a4_39 ?_
  refine lv_istore_n (lv' := [(0, .int ((((((v0 - (((v0.toUInt32 >>> ((1 : Int32).toUInt32 &&& Int32.toUInt32 31)).toInt32) &&& 1431655765)) &&& 858993459) + ((((v0 - (((v0.toUInt32 >>> ((1 : Int32).toUInt32 &&& Int32.toUInt32 31)).toInt32) &&& 1431655765)).toUInt32 >>> ((2 : Int32).toUInt32 &&& Int32.toUInt32 31)).toInt32) &&& 858993459)) + (((((v0 - (((v0.toUInt32 >>> ((1 : Int32).toUInt32 &&& Int32.toUInt32 31)).toInt32) &&& 1431655765)) &&& 858993459) + ((((v0 - (((v0.toUInt32 >>> ((1 : Int32).toUInt32 &&& Int32.toUInt32 31)).toInt32) &&& 1431655765)).toUInt32 >>> ((2 : Int32).toUInt32 &&& Int32.toUInt32 31)).toInt32) &&& 858993459)).toUInt32 >>> ((4 : Int32).toUInt32 &&& Int32.toUInt32 31)).toInt32)) &&& 252645135) + (((((((v0 - (((v0.toUInt32 >>> ((1 : Int32).toUInt32 &&& Int32.toUInt32 31)).toInt32) &&& 1431655765)) &&& 858993459) + ((((v0 - (((v0.toUInt32 >>> ((1 : Int32).toUInt32 &&& Int32.toUInt32 31)).toInt32) &&& 1431655765)).toUInt32 >>> ((2 : Int32).toUInt32 &&& Int32.toUInt32 31)).toInt32) &&& 858993459)) + (((((v0 - (((v0.toUInt32 >>> ((1 : Int32).toUInt32 &&& Int32.toUInt32 31)).toInt32) &&& 1431655765)) &&& 858993459) + ((((v0 - (((v0.toUInt32 >>> ((1 : Int32).toUInt32 &&& Int32.toUInt32 31)).toInt32) &&& 1431655765)).toUInt32 >>> ((2 : Int32).toUInt32 &&& Int32.toUInt32 31)).toInt32) &&& 858993459)).toUInt32 >>> ((4 : Int32).toUInt32 &&& Int32.toUInt32 31)).toInt32)) &&& 252645135).toUInt32 >>> ((8 : Int32).toUInt32 &&& Int32.toUInt32 31)).toInt32)))]) hx hb dJ6_bitCount_0f7a4_40 rfl hl (by decide) rfl (fun ls hl => ?_)
  refine lv_iload_n hx hb dJ6_bitCount_0f7a4_41 rfl (lv_at hl 0 rfl) ?_
  refine lv_iload_n hx hb dJ6_bitCount_0f7a4_42 rfl (lv_at hl 0 rfl) ?_
  refine lv_bipush (v := 16) hx hb dJ6_bitCount_0f7a4_43 (by decide) ?_
  refine lv_iushr hx hb dJ6_bitCount_0f7a4_45 rfl ?_
  refine lv_iadd hx hb dJ6_bitCount_0f7a4_46 ?_
  refine lv_istore_n (lv' := [(0, .int (((((((v0 - (((v0.toUInt32 >>> ((1 : Int32).toUInt32 &&& Int32.toUInt32 31)).toInt32) &&& 1431655765)) &&& 858993459) + ((((v0 - (((v0.toUInt32 >>> ((1 : Int32).toUInt32 &&& Int32.toUInt32 31)).toInt32) &&& 1431655765)).toUInt32 >>> ((2 : Int32).toUInt32 &&& Int32.toUInt32 31)).toInt32) &&& 858993459)) + (((((v0 - (((v0.toUInt32 >>> ((1 : Int32).toUInt32 &&& Int32.toUInt32 31)).toInt32) &&& 1431655765)) &&& 858993459) + ((((v0 - (((v0.toUInt32 >>> ((1 : Int32).toUInt32 &&& Int32.toUInt32 31)).toInt32) &&& 1431655765)).toUInt32 >>> ((2 : Int32).toUInt32 &&& Int32.toUInt32 31)).toInt32) &&& 858993459)).toUInt32 >>> ((4 : Int32).toUInt32 &&& Int32.toUInt32 31)).toInt32)) &&& 252645135) + (((((((v0 - (((v0.toUInt32 >>> ((1 : Int32).toUInt32 &&& Int32.toUInt32 31)).toInt32) &&& 1431655765)) &&& 858993459) + ((((v0 - (((v0.toUInt32 >>> ((1 : Int32).toUInt32 &&& Int32.toUInt32 31)).toInt32) &&& 1431655765)).toUInt32 >>> ((2 : Int32).toUInt32 &&& Int32.toUInt32 31)).toInt32) &&& 858993459)) + (((((v0 - (((v0.toUInt32 >>> ((1 : Int32).toUInt32 &&& Int32.toUInt32 31)).toInt32) &&& 1431655765)) &&& 858993459) + ((((v0 - (((v0.toUInt32 >>> ((1 : Int32).toUInt32 &&& Int32.toUInt32 31)).toInt32) &&& 1431655765)).toUInt32 >>> ((2 : Int32).toUInt32 &&& Int32.toUInt32 31)).toInt32) &&& 858993459)).toUInt32 >>> ((4 : Int32).toUInt32 &&& Int32.toUInt32 31)).toInt32)) &&& 252645135).toUInt32 >>> ((8 : Int32).toUInt32 &&& Int32.toUInt32 31)).toInt32)) + ((((((((v0 - (((v0.toUInt32 >>> ((1 : Int32).toUInt32 &&& Int32.toUInt32 31)).toInt32) &&& 1431655765)) &&& 858993459) + ((((v0 - (((v0.toUInt32 >>> ((1 : Int32).toUInt32 &&& Int32.toUInt32 31)).toInt32) &&& 1431655765)).toUInt32 >>> ((2 : Int32).toUInt32 &&& Int32.toUInt32 31)).toInt32) &&& 858993459)) + (((((v0 - (((v0.toUInt32 >>> ((1 : Int32).toUInt32 &&& Int32.toUInt32 31)).toInt32) &&& 1431655765)) &&& 858993459) + ((((v0 - (((v0.toUInt32 >>> ((1 : Int32).toUInt32 &&& Int32.toUInt32 31)).toInt32) &&& 1431655765)).toUInt32 >>> ((2 : Int32).toUInt32 &&& Int32.toUInt32 31)).toInt32) &&& 858993459)).toUInt32 >>> ((4 : Int32).toUInt32 &&& Int32.toUInt32 31)).toInt32)) &&& 252645135) + (((((((v0 - (((v0.toUInt32 >>> ((1 : Int32).toUInt32 &&& Int32.toUInt32 31)).toInt32) &&& 1431655765)) &&& 858993459) + ((((v0 - (((v0.toUInt32 >>> ((1 : Int32).toUInt32 &&& Int32.toUInt32 31)).toInt32) &&& 1431655765)).toUInt32 >>> ((2 : Int32).toUInt32 &&& Int32.toUInt32 31)).toInt32) &&& 858993459)) + (((((v0 - (((v0.toUInt32 >>> ((1 : Int32).toUInt32 &&& Int32.toUInt32 31)).toInt32) &&& 1431655765)) &&& 858993459) + ((((v0 - (((v0.toUInt32 >>> ((1 : Int32).toUInt32 &&& Int32.toUInt32 31)).toInt32) &&& 1431655765)).toUInt32 >>> ((2 : Int32).toUInt32 &&& Int32.toUInt32 31)).toInt32) &&& 858993459)).toUInt32 >>> ((4 : Int32).toUInt32 &&& Int32.toUInt32 31)).toInt32)) &&& 252645135).toUInt32 >>> ((8 : Int32).toUInt32 &&& Int32.toUInt32 31)).toInt32)).toUInt32 >>> ((16 : Int32).toUInt32 &&& Int32.toUInt32 31)).toInt32)))]) hx hb dJ6_bitCount_0f7a4_47 rfl hl (by decide) rfl (fun ls hl => ?_)
  refine lv_iload_n hx hb dJ6_bitCount_0f7a4_48 rfl (lv_at hl 0 rfl) ?_
  refine lv_bipush (v := 63) hx hb dJ6_bitCount_0f7a4_49 (by decide) ?_
  refine lv_iand hx hb dJ6_bitCount_0f7a4_51 ?_
  cases hf
  exact gp_retI hx hb hr hlocks hG hS (Nat.le_of_ble_eq_true rfl) (Nat.le_of_ble_eq_true rfl) dJ6_bitCount_0f7a4_52
-- X11_fewest
abbrev rm_X11_fewest : Room := { frames := 4, cells := 0, slots := 0, locals := 99 }
def L_X11_fewest_4 {α : Type} (K23 : Unit → Option α) (K47 : Int64 → Option α) (gv : Nat → GV) (v0 : Nat) : Nat → Int64 → Int32 → Option α
  | 0, _, _ => none
  | n + 1, v1, v3 => (gfI gv v0 [9] 6).bind fun t6 => if t6 ≤ v3 then K47 v1 else ((gfO gv v0 [9]).bind fun _ => f_X11_inRowAt gv v0 v3).bind fun o14 => (f_X2_isOne o14).bind fun o17 => if o17 = 0 then K23 () else ((gfO gv v0 [9]).bind fun _ => f_X11_inRowAt gv v0 v3).bind fun o33 => (f_X2_only o33).bind fun o36 => L_X11_fewest_4 K23 K47 gv v0 n (v1 ||| o36) (v3 + 1)
set_option maxHeartbeats 4000000 in
set_option maxRecDepth 100000 in
theorem w_X11_fewest_4 {α : Type} {R : α} {K23 : Unit → Option α} {K47 : Int64 → Option α} {v0 : Nat} (X : gC p s m args meth c cX11_fewest 6 (some .int) wsX11_fewest RX11 D b (gTy cI cL)) : ∀ (n : Nat) (v1 : Int64) (v3 : Int32), L_X11_fewest_4 K23 K47 gv v0 n v1 v3 = some R → (∀ (x : Unit), K23 x = some R → ∀ (H : Heap) (locs : List Loc) (ls : Array Slot), GP D b M (gW cI cL gv) H → va_S (gA b) s.heap H locs → lv_has ls 6 [(0, .ref v0)] → W p l e rm_X11_fewest s m args below meth c H locs 0 0 Q (F0 m 23 ls [])) → (∀ (x : Int64), K47 x = some R → ∀ (H : Heap) (locs : List Loc) (ls : Array Slot), GP D b M (gW cI cL gv) H → va_S (gA b) s.heap H locs → lv_has ls 6 [(0, .ref v0), (1, .long x)] → W p l e rm_X11_fewest s m args below meth c H locs 0 0 Q (F0 m 47 ls [])) → ∀ (H : Heap) (locs : List Loc) (ls : Array Slot), GP D b M (gW cI cL gv) H → va_S (gA b) s.heap H locs → lv_has ls 6 [(0, .ref v0), (1, .long v1), (3, .int v3)] → W p l e rm_X11_fewest s m args below meth c H locs 0 0 Q (F0 m 4 ls []) := by
  obtain ⟨hx, hb, hr, hml, hown, hts, hlocks, hKn⟩ := id X
  have hK := hKn.1
  have gclX10 : gcl [8] TX10 6 wsX11_fewest := gcl_1 rfl (fun _ h => List.mem_cons_of_mem _ (List.mem_append_left _ (List.mem_append_left _ (List.mem_append_left _ (List.mem_append_left _ (List.mem_append_left _ (List.mem_append_left _ (List.mem_append_left _ (List.mem_append_right _ h)))))))))
  have gclX11 : gcl [9] TX11 8 wsX11_fewest := gcl_1 rfl (fun _ h => List.mem_cons_of_mem _ (List.mem_append_left _ (List.mem_append_left _ (List.mem_append_left _ (List.mem_append_left _ (List.mem_append_left _ (List.mem_append_left _ (List.mem_append_left _ (List.mem_append_left _ (List.mem_append_right _ h))))))))))
  intro n
  induction n with
  | zero =>
    intro v1 v3 hf
    cases hf
  | succ n ih =>
    intro v1 v3 hf hk23 hk47 H locs ls hG hS hl
    rw [L_X11_fewest_4.eq_2] at hf
    refine lv_iload_n hx hb dX11_fewest_4 rfl (lv_at hl 2 rfl) ?_
    refine lv_aload_n hx hb dX11_fewest_5 rfl (lv_at hl 0 rfl) ?_
    obtain ⟨t6, ht6, hf⟩ := gb_b hf
    refine cp_get (v := .int t6) hx hb hts gclX11 hown hK hG 6 (gfI_s ht6) (by decide) (hts _ (List.mem_of_getElem? (i := 1) rfl)) (fun _ h9 => h9) dX11_fewest_6 ?_
    refine lv_icmp_ge (tgt := 47) hx hb dX11_fewest_9 (by decide) (fun c9 => ?_) (fun c9 => ?_)
    · have hf := gb_t c9 hf
      exact (hk47 _ hf _ _ _ hG hS (lv_sub hl [0, 1] rfl))
    · have hf := gb_f c9 hf
      refine lv_aload_n hx hb dX11_fewest_12 rfl (lv_at hl 0 rfl) ?_
      refine lv_iload_n hx hb dX11_fewest_13 rfl (lv_at hl 2 rfl) ?_
      obtain ⟨o14, hc14, hf⟩ := gb_b hf
      obtain ⟨oc14, hcO14, hc14⟩ := gb_b hc14
      obtain ⟨hcg14, hci14⟩ := gfO_s hcO14
      have hci14 := List.mem_singleton.mp hci14
      obtain ⟨kc14, fc14⟩ := oc14
      dsimp only at hci14 hcg14
      subst hci14
      refine gp_callI (va_runV (As := [.int v3]) (rest := []) ⟨hx, hb, hml, hown, hts⟩ (c_X11_inRowAt (l := l) (D := D) (b := b) (cI := cI) (cL := cL) hc14) (cwV 1 hts gX11_fewest_X11_inRowAt rfl rfl rfl (by decide +kernel) ⟨Nat.le_of_ble_eq_true rfl, Nat.le_of_ble_eq_true rfl⟩) (gp_preV hKn hG (cp_obj hcg14) rfl) rfl rfl hl.1 rfl (lv_room (Nat.le_of_ble_eq_true rfl)) dX11_fewest_14 ⟨Nat.le_of_ble_eq_true rfl, Nat.le_of_ble_eq_true rfl⟩) hS (fun H locs hG hS => ?_)
      obtain ⟨o17, hc17, hf⟩ := gb_b hf
      refine gp_callI (va_runS (As := [.int o14]) (rest := []) ⟨hx, hb, hml, hown, hts⟩ (c_X2_isOne (l := l) (D := D) (b := b) (cI := cI) (cL := cL) hc17) (va_cwS 1 hts gX11_fewest_X2_isOne rfl rfl rfl (by decide +kernel) ⟨Nat.le_of_ble_eq_true rfl, Nat.le_of_ble_eq_true rfl⟩) (gp_preS hKn hG) rfl rfl hl.1 rfl (lv_room (Nat.le_of_ble_eq_true rfl)) dX11_fewest_17 ⟨Nat.le_of_ble_eq_true rfl, Nat.le_of_ble_eq_true rfl⟩) hS (fun H locs hG hS => ?_)
      refine lv_if_ne (tgt := 30) hx hb dX11_fewest_20 (by decide) (fun c20 => ?_) (fun c20 => ?_)
      · have hf := gb_f c20 hf
        refine lv_lload_n hx hb dX11_fewest_30 rfl (lv_at hl 1 rfl) ?_
        refine lv_aload_n hx hb dX11_fewest_31 rfl (lv_at hl 0 rfl) ?_
        refine lv_iload_n hx hb dX11_fewest_32 rfl (lv_at hl 2 rfl) ?_
        obtain ⟨o33, hc33, hf⟩ := gb_b hf
        obtain ⟨oc33, hcO33, hc33⟩ := gb_b hc33
        obtain ⟨hcg33, hci33⟩ := gfO_s hcO33
        have hci33 := List.mem_singleton.mp hci33
        obtain ⟨kc33, fc33⟩ := oc33
        dsimp only at hci33 hcg33
        subst hci33
        refine gp_callI (va_runV (As := [.int v3]) (rest := [.long v1]) ⟨hx, hb, hml, hown, hts⟩ (c_X11_inRowAt (l := l) (D := D) (b := b) (cI := cI) (cL := cL) hc33) (cwV 1 hts gX11_fewest_X11_inRowAt rfl rfl rfl (by decide +kernel) ⟨Nat.le_of_ble_eq_true rfl, Nat.le_of_ble_eq_true rfl⟩) (gp_preV hKn hG (cp_obj hcg33) rfl) rfl rfl hl.1 rfl (lv_room (Nat.le_of_ble_eq_true rfl)) dX11_fewest_33 ⟨Nat.le_of_ble_eq_true rfl, Nat.le_of_ble_eq_true rfl⟩) hS (fun H locs hG hS => ?_)
        obtain ⟨o36, hc36, hf⟩ := gb_b hf
        refine gp_callL (va_runS (As := [.int o33]) (rest := [.long v1]) ⟨hx, hb, hml, hown, hts⟩ (c_X2_only (l := l) (D := D) (b := b) (cI := cI) (cL := cL) hc36) (va_cwS 1 hts gX11_fewest_X2_only rfl rfl rfl (by decide +kernel) ⟨Nat.le_of_ble_eq_true rfl, Nat.le_of_ble_eq_true rfl⟩) (gp_preS hKn hG) rfl rfl hl.1 rfl (lv_room (Nat.le_of_ble_eq_true rfl)) dX11_fewest_36 ⟨Nat.le_of_ble_eq_true rfl, Nat.le_of_ble_eq_true rfl⟩) hS (fun H locs hG hS => ?_)
        refine lv_lor hx hb dX11_fewest_39 ?_
        refine lv_lstore_n (lv' := [(1, .long (v1 ||| o36)), (0, .ref v0), (3, .int v3)]) hx hb dX11_fewest_40 rfl hl (by decide) rfl (fun ls hl => ?_)
        refine lv_iinc (v := v3 + 1) (lv' := [(3, .int (v3 + 1)), (1, .long (v1 ||| o36)), (0, .ref v0)]) hx hb dX11_fewest_41 hl (k := 2) rfl rfl (by decide) rfl (fun ls hl => ?_)
        refine lv_goto (tgt := 4) hx hb dX11_fewest_44 (by decide) ?_
        exact ih _ _ hf hk23 hk47 _ _ _ hG hS (lv_sub hl [2, 1, 0] rfl)
      · have hf := gb_t c20 hf
        exact (hk23 _ hf _ _ _ hG hS (lv_sub hl [0] rfl))
def L_X11_fewest_53 {α : Type} (K124 : Int32 → Option α) (gv : Nat → GV) (v0 : Nat) (v1 : Int64) : Nat → Int32 → Int32 → Option α
  | 0, _, _ => none
  | n + 1, v3, v4 => (gfR gv v0 [9] 4).bind fun t57 => t57.bind fun q60 => (gfI gv q60 [8] 3).bind fun t60 => if ((1 : Int32) <<< (t60 &&& 31)) ≤ v4 then K124 v3 else (if v3 < 0 then some 1 else (f_J6_bitCount_0f7a4 v4).bind fun o73 => (f_J6_bitCount_0f7a4 v3).bind fun o77 => if o77 ≤ o73 then some 0 else some 1 : Option (Int32)).bind fun j68 => (if j68 = 0 then some v3 else (gfR gv v0 [9] 4).bind fun t97 => t97.bind fun q102 => ((gfO gv q102 [8]).bind fun _ => f_X10_glowOf gv q102 v4).bind fun o102 => if (lg_cmp (v1 &&& (o102 ^^^ (-1 : Int64))) (0 : Int64)) = 0 then some v4 else some v3 : Option (Int32)).bind fun j92 => L_X11_fewest_53 K124 gv v0 v1 n j92 (v4 + 1)
set_option maxHeartbeats 4000000 in
set_option maxRecDepth 100000 in
theorem w_X11_fewest_53 {α : Type} {R : α} {K124 : Int32 → Option α} {v0 : Nat} {v1 : Int64} (X : gC p s m args meth c cX11_fewest 6 (some .int) wsX11_fewest RX11 D b (gTy cI cL)) : ∀ (n : Nat) (v3 : Int32) (v4 : Int32), L_X11_fewest_53 K124 gv v0 v1 n v3 v4 = some R → (∀ (x : Int32), K124 x = some R → ∀ (H : Heap) (locs : List Loc) (ls : Array Slot), GP D b M (gW cI cL gv) H → va_S (gA b) s.heap H locs → lv_has ls 6 [(3, .int x)] → W p l e rm_X11_fewest s m args below meth c H locs 0 0 Q (F0 m 124 ls [])) → ∀ (H : Heap) (locs : List Loc) (ls : Array Slot), GP D b M (gW cI cL gv) H → va_S (gA b) s.heap H locs → lv_has ls 6 [(0, .ref v0), (1, .long v1), (3, .int v3), (4, .int v4)] → W p l e rm_X11_fewest s m args below meth c H locs 0 0 Q (F0 m 53 ls []) := by
  obtain ⟨hx, hb, hr, hml, hown, hts, hlocks, hKn⟩ := id X
  have hK := hKn.1
  have gclX10 : gcl [8] TX10 6 wsX11_fewest := gcl_1 rfl (fun _ h => List.mem_cons_of_mem _ (List.mem_append_left _ (List.mem_append_left _ (List.mem_append_left _ (List.mem_append_left _ (List.mem_append_left _ (List.mem_append_left _ (List.mem_append_left _ (List.mem_append_right _ h)))))))))
  have gclX11 : gcl [9] TX11 8 wsX11_fewest := gcl_1 rfl (fun _ h => List.mem_cons_of_mem _ (List.mem_append_left _ (List.mem_append_left _ (List.mem_append_left _ (List.mem_append_left _ (List.mem_append_left _ (List.mem_append_left _ (List.mem_append_left _ (List.mem_append_left _ (List.mem_append_right _ h))))))))))
  intro n
  induction n with
  | zero =>
    intro v3 v4 hf
    cases hf
  | succ n ih =>
    intro v3 v4 hf hk124 H locs ls hG hS hl
    rw [L_X11_fewest_53.eq_2] at hf
    refine lv_iload hx hb dX11_fewest_53 (lv_at hl 3 rfl) ?_
    refine lv_iconst (v := 1) hx hb dX11_fewest_55 (by decide) ?_
    refine lv_aload_n hx hb dX11_fewest_56 rfl (lv_at hl 0 rfl) ?_
    obtain ⟨t57, ht57, hf⟩ := gb_b hf
    refine cp_get (v := va_rf t57) hx hb hts gclX11 hown hK hG 4 (gfR_s ht57) (by decide) (hts _ (List.mem_of_getElem? (i := 2) rfl)) (fun _ h9 => h9) dX11_fewest_57 ?_
    obtain ⟨q60, hq60, hf⟩ := gb_b hf
    rw [hq60]
    obtain ⟨t60, ht60, hf⟩ := gb_b hf
    refine cp_get (v := .int t60) hx hb hts gclX10 hown hK hG 3 (gfI_s ht60) (by decide) (hts _ (List.mem_of_getElem? (i := 3) rfl)) (fun _ h9 => h9) dX11_fewest_60 ?_
    refine lv_ishl hx hb dX11_fewest_63 ?_
    refine lv_icmp_ge (tgt := 124) hx hb dX11_fewest_64 (by decide) (fun c64 => ?_) (fun c64 => ?_)
    · have hf := gb_t c64 hf
      exact (hk124 _ hf _ _ _ hG hS (lv_sub hl [2] rfl))
    · have hf := gb_f c64 hf
      refine lv_iload_n hx hb dX11_fewest_67 rfl (lv_at hl 2 rfl) ?_
      obtain ⟨j68, hj68, hf⟩ := gb_b hf
      have hJ68 : ∀ (H : Heap) (locs : List Loc) (ls : Array Slot), GP D b M (gW cI cL gv) H → va_S (gA b) s.heap H locs → lv_has ls 6 [(0, .ref v0), (1, .long v1), (3, .int v3), (4, .int v4)] → W p l e rm_X11_fewest s m args below meth c H locs 0 0 Q (F0 m 88 ls [.int j68]) := by
        intro H locs ls hG hS hl
        refine lv_istore (lv' := [(5, .int j68), (0, .ref v0), (1, .long v1), (3, .int v3), (4, .int v4)]) hx hb dX11_fewest_88 hl (by decide) rfl (fun ls hl => ?_)
        refine lv_iload hx hb dX11_fewest_90 (lv_at hl 0 rfl) ?_
        obtain ⟨j92, hj92, hf⟩ := gb_b hf
        have hJ92 : ∀ (H : Heap) (locs : List Loc) (ls : Array Slot), GP D b M (gW cI cL gv) H → va_S (gA b) s.heap H locs → lv_has ls 6 [(0, .ref v0), (1, .long v1), (3, .int j92), (4, .int v4)] → W p l e rm_X11_fewest s m args below meth c H locs 0 0 Q (F0 m 118 ls []) := by
          intro H locs ls hG hS hl
          refine lv_iinc (v := v4 + 1) (lv' := [(4, .int (v4 + 1)), (0, .ref v0), (1, .long v1), (3, .int j92)]) hx hb dX11_fewest_118 hl (k := 3) rfl rfl (by decide) rfl (fun ls hl => ?_)
          refine lv_goto (tgt := 53) hx hb dX11_fewest_121 (by decide) ?_
          exact ih _ _ hf hk124 _ _ _ hG hS (lv_sub hl [1, 2, 3, 0] rfl)
        refine lv_if_eq (tgt := 118) hx hb dX11_fewest_92 (by decide) (fun c92 => ?_) (fun c92 => ?_)
        · have hj92 := gb_t c92 hj92
          have hj92 := Option.some.inj hj92
          subst hj92
          exact (hJ92 H locs ls hG hS (lv_sub hl [1, 2, 3, 4] rfl))
        · have hj92 := gb_f c92 hj92
          refine lv_lload_n hx hb dX11_fewest_95 rfl (lv_at hl 2 rfl) ?_
          refine lv_aload_n hx hb dX11_fewest_96 rfl (lv_at hl 1 rfl) ?_
          obtain ⟨t97, ht97, hj92⟩ := gb_b hj92
          refine cp_get (v := va_rf t97) hx hb hts gclX11 hown hK hG 4 (gfR_s ht97) (by decide) (hts _ (List.mem_of_getElem? (i := 2) rfl)) (fun _ h9 => h9) dX11_fewest_97 ?_
          refine lv_iload hx hb dX11_fewest_100 (lv_at hl 4 rfl) ?_
          obtain ⟨q102, hq102, hj92⟩ := gb_b hj92
          rw [hq102]
          obtain ⟨o102, hc102, hj92⟩ := gb_b hj92
          obtain ⟨oc102, hcO102, hc102⟩ := gb_b hc102
          obtain ⟨hcg102, hci102⟩ := gfO_s hcO102
          have hci102 := List.mem_singleton.mp hci102
          obtain ⟨kc102, fc102⟩ := oc102
          dsimp only at hci102 hcg102
          subst hci102
          refine gp_callL (va_runV (As := [.int v4]) (rest := [.long v1]) ⟨hx, hb, hml, hown, hts⟩ (c_X10_glowOf (l := l) (D := D) (b := b) (cI := cI) (cL := cL) hc102) (cwV 1 hts gX11_fewest_X10_glowOf rfl rfl rfl (by decide +kernel) ⟨Nat.le_of_ble_eq_true rfl, Nat.le_of_ble_eq_true rfl⟩) (gp_preV hKn hG (cp_obj hcg102) rfl) rfl rfl hl.1 rfl (lv_room (Nat.le_of_ble_eq_true rfl)) dX11_fewest_102 ⟨Nat.le_of_ble_eq_true rfl, Nat.le_of_ble_eq_true rfl⟩) hS (fun H locs hG hS => ?_)
          refine lv_ldc2 (v := (-1 : Int64)) hx hb hown (hts _ (List.mem_of_getElem? (i := 4) rfl)) dX11_fewest_105 ?_
          refine lv_lxor hx hb dX11_fewest_108 ?_
          refine lv_land hx hb dX11_fewest_109 ?_
          refine lv_lconst (v := (0 : Int64)) hx hb dX11_fewest_110 (by decide) ?_
          refine W.lcmp hx hb dX11_fewest_111 ?_
          refine lv_if_ne (tgt := 118) hx hb dX11_fewest_112 (by decide) (fun c112 => ?_) (fun c112 => ?_)
          · have hj92 := gb_f c112 hj92
            have hj92 := Option.some.inj hj92
            subst hj92
            exact (hJ92 H locs ls hG hS (lv_sub hl [1, 2, 3, 4] rfl))
          · have hj92 := gb_t c112 hj92
            refine lv_iload hx hb dX11_fewest_115 (lv_at hl 4 rfl) ?_
            refine lv_istore_n (lv' := [(3, .int v4), (5, .int j68), (0, .ref v0), (1, .long v1), (4, .int v4)]) hx hb dX11_fewest_117 rfl hl (by decide) rfl (fun ls hl => ?_)
            have hj92 := Option.some.inj hj92
            subst hj92
            exact (hJ92 H locs ls hG hS (lv_sub hl [2, 3, 0, 4] rfl))
      refine lv_if_lt (tgt := 83) hx hb dX11_fewest_68 (by decide) (fun c68 => ?_) (fun c68 => ?_)
      · have hj68 := gb_t c68 hj68
        refine lv_iconst (v := 1) hx hb dX11_fewest_83 (by decide) ?_
        refine lv_goto (tgt := 88) hx hb dX11_fewest_84 (by decide) ?_
        have hj68 := Option.some.inj hj68
        subst hj68
        exact (hJ68 H locs ls hG hS (lv_sub hl [0, 1, 2, 3] rfl))
      · have hj68 := gb_f c68 hj68
        refine lv_iload hx hb dX11_fewest_71 (lv_at hl 3 rfl) ?_
        obtain ⟨o73, hc73, hj68⟩ := gb_b hj68
        refine gp_callI (va_runS (As := [.int v4]) (rest := []) ⟨hx, hb, hml, hown, hts⟩ (c_J6_bitCount_0f7a4 (l := l) (D := D) (b := b) (cI := cI) (cL := cL) hc73) (va_cwS 1 hts gX11_fewest_J6_bitCount_0f7a4 rfl rfl rfl (by decide +kernel) ⟨Nat.le_of_ble_eq_true rfl, Nat.le_of_ble_eq_true rfl⟩) (gp_preS hKn hG) rfl rfl hl.1 rfl (lv_room (Nat.le_of_ble_eq_true rfl)) dX11_fewest_73 ⟨Nat.le_of_ble_eq_true rfl, Nat.le_of_ble_eq_true rfl⟩) hS (fun H locs hG hS => ?_)
        refine lv_iload_n hx hb dX11_fewest_76 rfl (lv_at hl 2 rfl) ?_
        obtain ⟨o77, hc77, hj68⟩ := gb_b hj68
        refine gp_callI (va_runS (As := [.int v3]) (rest := [.int o73]) ⟨hx, hb, hml, hown, hts⟩ (c_J6_bitCount_0f7a4 (l := l) (D := D) (b := b) (cI := cI) (cL := cL) hc77) (va_cwS 1 hts gX11_fewest_J6_bitCount_0f7a4 rfl rfl rfl (by decide +kernel) ⟨Nat.le_of_ble_eq_true rfl, Nat.le_of_ble_eq_true rfl⟩) (gp_preS hKn hG) rfl rfl hl.1 rfl (lv_room (Nat.le_of_ble_eq_true rfl)) dX11_fewest_77 ⟨Nat.le_of_ble_eq_true rfl, Nat.le_of_ble_eq_true rfl⟩) hS (fun H locs hG hS => ?_)
        refine lv_icmp_ge (tgt := 87) hx hb dX11_fewest_80 (by decide) (fun c80 => ?_) (fun c80 => ?_)
        · have hj68 := gb_t c80 hj68
          refine lv_iconst (v := 0) hx hb dX11_fewest_87 (by decide) ?_
          have hj68 := Option.some.inj hj68
          subst hj68
          exact (hJ68 H locs ls hG hS (lv_sub hl [0, 1, 2, 3] rfl))
        · have hj68 := gb_f c80 hj68
          refine lv_iconst (v := 1) hx hb dX11_fewest_83 (by decide) ?_
          refine lv_goto (tgt := 88) hx hb dX11_fewest_84 (by decide) ?_
          have hj68 := Option.some.inj hj68
          subst hj68
          exact (hJ68 H locs ls hG hS (lv_sub hl [0, 1, 2, 3] rfl))
def f_X11_fewest (gv : Nat → GV) (h0 : Nat) : Option (Int32 × (Nat → GV)) :=
  L_X11_fewest_4 (fun x4_23 => ((gfO gv h0 [9]).bind fun _ => f_X11_refuse gv h0 (-3 : Int32)).bind fun o26 => some (o26.1, o26.2)) (fun x4_47 => L_X11_fewest_53 (fun x53_124 => some (x53_124, gv)) gv h0 x4_47 gF (-9 : Int32) 0) gv h0 gF (0 : Int64) 0
set_option maxHeartbeats 4000000 in
set_option maxRecDepth 100000 in
theorem c_X11_fewest {R : Int32 × (Nat → GV)} (hf : f_X11_fewest gv h0 = some R) : Met l yX11_fewest wsX11_fewest rm_X11_fewest (va_Pc [.ref h0] (gPre D b M (gW cI cL gv) (gTy cI cL))) (gQ D b (some (.int R.1)) M (gW cI cL R.2)) 0 0 (gA b) := by
  refine gp_met (cc := cX11_fewest) (maxL := 6) (ret := (some .int)) (by decide) rfl (Nat.le_of_ble_eq_true rfl) ?_
  intro p e s m below meth c X ls hG hl
  obtain ⟨H, hH0⟩ : ∃ H : Heap, H = s.heap := ⟨_, rfl⟩
  rw [← hH0] at hG ⊢
  have hS : va_S (gA b) s.heap H [] := by rw [hH0]; exact va_S.rf
  obtain ⟨locs, hlo⟩ : ∃ z : List Loc, z = [] := ⟨_, rfl⟩
  rw [← hlo] at hS ⊢
  unfold f_X11_fewest at hf
  obtain ⟨hx, hb, hr, hml, hown, hts, hlocks, hKn⟩ := id X
  have hK := hKn.1
  have gclX10 : gcl [8] TX10 6 wsX11_fewest := gcl_1 rfl (fun _ h => List.mem_cons_of_mem _ (List.mem_append_left _ (List.mem_append_left _ (List.mem_append_left _ (List.mem_append_left _ (List.mem_append_left _ (List.mem_append_left _ (List.mem_append_left _ (List.mem_append_right _ h)))))))))
  have gclX11 : gcl [9] TX11 8 wsX11_fewest := gcl_1 rfl (fun _ h => List.mem_cons_of_mem _ (List.mem_append_left _ (List.mem_append_left _ (List.mem_append_left _ (List.mem_append_left _ (List.mem_append_left _ (List.mem_append_left _ (List.mem_append_left _ (List.mem_append_left _ (List.mem_append_right _ h))))))))))
  have hl : lv_has ls 6 [(0, .ref h0)] := hl
  refine lv_lconst (v := (0 : Int64)) hx hb dX11_fewest_0 (by decide) ?_
  refine lv_lstore_n (lv' := [(1, .long (0 : Int64)), (0, .ref h0)]) hx hb dX11_fewest_1 rfl hl (by decide) rfl (fun ls hl => ?_)
  refine lv_iconst (v := 0) hx hb dX11_fewest_2 (by decide) ?_
  refine lv_istore_n (lv' := [(3, .int 0), (1, .long (0 : Int64)), (0, .ref h0)]) hx hb dX11_fewest_3 rfl hl (by decide) rfl (fun ls hl => ?_)
  refine w_X11_fewest_4 X _ _ _ hf (fun x4_23 hf H locs ls hG hS hl => ?_) (fun x4_47 hf H locs ls hG hS hl => ?_) _ _ _ hG hS (lv_sub hl [2, 1, 0] rfl)
  · refine lv_aload_n hx hb dX11_fewest_23 rfl (lv_at hl 0 rfl) ?_
    refine lv_bipush (v := (-3 : Int32)) hx hb dX11_fewest_24 (by decide) ?_
    obtain ⟨o26, hc26, hf⟩ := gb_b hf
    obtain ⟨oc26, hcO26, hc26⟩ := gb_b hc26
    obtain ⟨hcg26, hci26⟩ := gfO_s hcO26
    have hci26 := List.mem_singleton.mp hci26
    obtain ⟨kc26, fc26⟩ := oc26
    dsimp only at hci26 hcg26
    subst hci26
    refine gp_callI (va_runV (As := [.int (-3 : Int32)]) (rest := []) ⟨hx, hb, hml, hown, hts⟩ (c_X11_refuse (l := l) (D := D) (b := b) (cI := cI) (cL := cL) hc26) (cwV 1 hts gX11_fewest_X11_refuse rfl rfl rfl (by decide +kernel) ⟨Nat.le_of_ble_eq_true rfl, Nat.le_of_ble_eq_true rfl⟩) (gp_preV hKn hG (cp_obj hcg26) rfl) rfl rfl hl.1 rfl (lv_room (Nat.le_of_ble_eq_true rfl)) dX11_fewest_26 ⟨Nat.le_of_ble_eq_true rfl, Nat.le_of_ble_eq_true rfl⟩) hS (fun H locs hG hS => ?_)
    cases hf
    exact gp_retI hx hb hr hlocks hG hS (Nat.le_of_ble_eq_true rfl) (Nat.le_of_ble_eq_true rfl) dX11_fewest_29
  · refine lv_bipush (v := (-9 : Int32)) hx hb dX11_fewest_47 (by decide) ?_
    refine lv_istore_n (lv' := [(3, .int (-9 : Int32)), (0, .ref h0), (1, .long x4_47)]) hx hb dX11_fewest_49 rfl hl (by decide) rfl (fun ls hl => ?_)
    refine lv_iconst (v := 0) hx hb dX11_fewest_50 (by decide) ?_
    refine lv_istore (lv' := [(4, .int 0), (3, .int (-9 : Int32)), (0, .ref h0), (1, .long x4_47)]) hx hb dX11_fewest_51 hl (by decide) rfl (fun ls hl => ?_)
    refine w_X11_fewest_53 X _ _ _ hf (fun x53_124 hf H locs ls hG hS hl => ?_) _ _ _ hG hS (lv_sub hl [2, 3, 1, 0] rfl)
    · refine lv_iload_n hx hb dX11_fewest_124 rfl (lv_at hl 0 rfl) ?_
      cases hf
      exact gp_retI hx hb hr hlocks hG hS (Nat.le_of_ble_eq_true rfl) (Nat.le_of_ble_eq_true rfl) dX11_fewest_125
-- X11_forget
abbrev rm_X11_forget : Room := { frames := 2, cells := 0, slots := 0, locals := 43 }
def f_X11_forget (gv : Nat → GV) (h0 : Nat) (v1 : Int32) (v2 : Int32) : Option (Int32 × (Nat → GV)) :=
  (gfR gv h0 [9] 4).bind fun t1 => t1.bind fun q5 => ((gfO gv q5 [8]).bind fun _ => f_X10_lampAt gv q5 v1).bind fun o5 => match o5 with | none => ((gfO gv h0 [9]).bind fun _ => f_X11_refuse gv h0 (-1 : Int32)).bind fun o15 => some (o15.1, o15.2) | some n10 => (f_X11_outside v2 0 9999).bind fun o24 => if 0 ≤ o24 then (fv_X5_placeOfMinute gv n10 v2).bind fun o43 => (if 0 ≤ o43 then (fv_X5_room gv n10).bind fun o59 => (gfI gv n10 gLC 3).bind fun t63 => some (((o59 - t63) + o43) + 1) else some (-9 : Int32) : Option (Int32)).bind fun j50 => some (j50, gv) else ((gfO gv h0 [9]).bind fun _ => f_X11_refuse gv h0 o24).bind fun o37 => some (o37.1, o37.2)
set_option maxHeartbeats 4000000 in
set_option maxRecDepth 100000 in
theorem c_X11_forget {v1 : Int32} {v2 : Int32} {R : Int32 × (Nat → GV)} (hf : f_X11_forget gv h0 v1 v2 = some R) : Met l yX11_forget wsX11_forget rm_X11_forget (va_Pc [.ref h0, .int v1, .int v2] (gPre D b M (gW cI cL gv) (gTy cI cL))) (gQ D b (some (.int R.1)) M (gW cI cL R.2)) 0 0 (gA b) := by
  refine gp_met (cc := cX11_forget) (maxL := 6) (ret := (some .int)) (by decide) rfl (Nat.le_of_ble_eq_true rfl) ?_
  intro p e s m below meth c X ls hG hl
  obtain ⟨H, hH0⟩ : ∃ H : Heap, H = s.heap := ⟨_, rfl⟩
  rw [← hH0] at hG ⊢
  have hS : va_S (gA b) s.heap H [] := by rw [hH0]; exact va_S.rf
  obtain ⟨locs, hlo⟩ : ∃ z : List Loc, z = [] := ⟨_, rfl⟩
  rw [← hlo] at hS ⊢
  unfold f_X11_forget at hf
  obtain ⟨hx, hb, hr, hml, hown, hts, hlocks, hKn⟩ := id X
  have hK := hKn.1
  have gclL : gcl gLC TX5 5 wsX11_forget := gcl_L (fun _ h => List.mem_cons_of_mem _ (List.mem_append_left _ (List.mem_append_left _ (List.mem_append_left _ (List.mem_append_left _ (List.mem_append_left _ (List.mem_append_left _ (List.mem_append_left _ (List.mem_append_right _ h))))))))) (fun _ h => List.mem_cons_of_mem _ (List.mem_append_left _ (List.mem_append_left _ (List.mem_append_left _ (List.mem_append_left _ (List.mem_append_left _ (List.mem_append_left _ (List.mem_append_right _ h)))))))) (fun _ h => List.mem_cons_of_mem _ (List.mem_append_left _ (List.mem_append_left _ (List.mem_append_left _ (List.mem_append_left _ (List.mem_append_left _ (List.mem_append_right _ h))))))) (fun _ h => List.mem_cons_of_mem _ (List.mem_append_left _ (List.mem_append_left _ (List.mem_append_left _ (List.mem_append_left _ (List.mem_append_right _ h)))))) (fun _ h => List.mem_cons_of_mem _ (List.mem_append_left _ (List.mem_append_left _ (List.mem_append_left _ (List.mem_append_right _ h))))) (fun _ h => List.mem_cons_of_mem _ (List.mem_append_left _ (List.mem_append_left _ (List.mem_append_right _ h)))) (fun _ h => List.mem_cons_of_mem _ (List.mem_append_left _ (List.mem_append_right _ h)))
  have gclX11 : gcl [9] TX11 8 wsX11_forget := gcl_1 rfl (fun _ h => List.mem_cons_of_mem _ (List.mem_append_left _ (List.mem_append_left _ (List.mem_append_left _ (List.mem_append_left _ (List.mem_append_left _ (List.mem_append_left _ (List.mem_append_left _ (List.mem_append_left _ (List.mem_append_right _ h))))))))))
  have hl : lv_has ls 6 [(0, .ref h0), (1, .int v1), (2, .int v2)] := hl
  refine lv_aload_n hx hb dX11_forget_0 rfl (lv_at hl 0 rfl) ?_
  obtain ⟨t1, ht1, hf⟩ := gb_b hf
  refine cp_get (v := va_rf t1) hx hb hts gclX11 hown hK hG 4 (gfR_s ht1) (by decide) (hts _ (List.mem_of_getElem? (i := 1) rfl)) (fun _ h9 => h9) dX11_forget_1 ?_
  refine lv_iload_n hx hb dX11_forget_4 rfl (lv_at hl 1 rfl) ?_
  obtain ⟨q5, hq5, hf⟩ := gb_b hf
  rw [hq5]
  obtain ⟨o5, hc5, hf⟩ := gb_b hf
  obtain ⟨oc5, hcO5, hc5⟩ := gb_b hc5
  obtain ⟨hcg5, hci5⟩ := gfO_s hcO5
  have hci5 := List.mem_singleton.mp hci5
  obtain ⟨kc5, fc5⟩ := oc5
  dsimp only at hci5 hcg5
  subst hci5
  refine gp_callR (va_runV (As := [.int v1]) (rest := []) ⟨hx, hb, hml, hown, hts⟩ (c_X10_lampAt (l := l) (D := D) (b := b) (cI := cI) (cL := cL) hc5) (cwV 1 hts gX11_forget_X10_lampAt rfl rfl rfl (by decide +kernel) ⟨Nat.le_of_ble_eq_true rfl, Nat.le_of_ble_eq_true rfl⟩) (gp_preV hKn hG (cp_obj hcg5) rfl) rfl rfl hl.1 rfl (lv_room (Nat.le_of_ble_eq_true rfl)) dX11_forget_5 ⟨Nat.le_of_ble_eq_true rfl, Nat.le_of_ble_eq_true rfl⟩) hS (fun H locs hG hS => ?_)
  refine gp_astore_n (lv' := [(3, va_rf o5), (0, .ref h0), (1, .int v1), (2, .int v2)]) hx hb dX11_forget_8 rfl hl (by decide) rfl (fun ls hl => ?_)
  refine gp_aload_n (x := o5) hx hb dX11_forget_9 rfl (lv_at hl 0 rfl) ?_
  refine gp_ifnonnull (x := o5) (tgt := 19) hx hb dX11_forget_10 (by decide) ?_ ?_
  · intro n10 e10
    rw [e10] at hl
    rw [e10] at hf
    dsimp only at hf
    refine lv_iload_n hx hb dX11_forget_19 rfl (lv_at hl 3 rfl) ?_
    refine lv_iconst (v := 0) hx hb dX11_forget_20 (by decide) ?_
    refine lv_sipush (v := 9999) hx hb dX11_forget_21 (by decide) ?_
    obtain ⟨o24, hc24, hf⟩ := gb_b hf
    refine gp_callI (va_runS (As := [.int v2, .int 0, .int 9999]) (rest := []) ⟨hx, hb, hml, hown, hts⟩ (c_X11_outside (l := l) (D := D) (b := b) (cI := cI) (cL := cL) hc24) (va_cwS 3 hts gX11_forget_X11_outside rfl rfl rfl (by decide +kernel) ⟨Nat.le_of_ble_eq_true rfl, Nat.le_of_ble_eq_true rfl⟩) (gp_preS hKn hG) rfl rfl hl.1 rfl (lv_room (Nat.le_of_ble_eq_true rfl)) dX11_forget_24 ⟨Nat.le_of_ble_eq_true rfl, Nat.le_of_ble_eq_true rfl⟩) hS (fun H locs hG hS => ?_)
    refine lv_istore (lv' := [(4, .int o24), (3, .ref n10), (0, .ref h0), (1, .int v1), (2, .int v2)]) hx hb dX11_forget_27 hl (by decide) rfl (fun ls hl => ?_)
    refine lv_iload hx hb dX11_forget_29 (lv_at hl 0 rfl) ?_
    refine lv_if_ge (tgt := 41) hx hb dX11_forget_31 (by decide) (fun c31 => ?_) (fun c31 => ?_)
    · have hf := gb_t c31 hf
      refine lv_aload_n hx hb dX11_forget_41 rfl (lv_at hl 1 rfl) ?_
      refine lv_iload_n hx hb dX11_forget_42 rfl (lv_at hl 4 rfl) ?_
      obtain ⟨o43, hc43, hf⟩ := gb_b hf
      have hrun43 : va_Run p l e rm_X11_forget s m [.ref h0, .int v1, .int v2].toArray below meth c H locs 0 0 0 0 (F0 m 43 ls ([.int v2].reverse ++ .ref n10 :: [])) [] (gQ D b (some (.int o43)) M (gW cI cL gv) (Value.ref n10 :: [.int v2]).toArray) (gA b) := by
        obtain ⟨oc, hcO, hc43⟩ := gb_b hc43
        obtain ⟨hcg, hci⟩ := gfO_s hcO
        obtain ⟨kc, fc⟩ := oc
        dsimp only at hci hcg hc43
        rcases gLC_7 hci with rfl | rfl | rfl | rfl | rfl | rfl | rfl
        · exact va_runU (As := [.int v2]) (rest := []) ⟨hx, hb, hml, hown, hts⟩ (c_X5_placeOfMinute (l := l) (D := D) (b := b) (cI := cI) (cL := cL) hc43) (va_cwU 1 hts gX11_forget_X5_placeOfMinute_u147X0 rfl rfl rfl rfl (by decide +kernel) ⟨Nat.le_of_ble_eq_true rfl, Nat.le_of_ble_eq_true rfl⟩) (gp_preV hKn hG (cp_obj hcg) rfl) rfl rfl hl.1 rfl (lv_room (Nat.le_of_ble_eq_true rfl)) dX11_forget_43 ⟨Nat.le_of_ble_eq_true rfl, Nat.le_of_ble_eq_true rfl⟩
        · exact va_runU (As := [.int v2]) (rest := []) ⟨hx, hb, hml, hown, hts⟩ (c_X5_placeOfMinute (l := l) (D := D) (b := b) (cI := cI) (cL := cL) hc43) (va_cwU 1 hts gX11_forget_X5_placeOfMinute_u147X1 rfl rfl rfl rfl (by decide +kernel) ⟨Nat.le_of_ble_eq_true rfl, Nat.le_of_ble_eq_true rfl⟩) (gp_preV hKn hG (cp_obj hcg) rfl) rfl rfl hl.1 rfl (lv_room (Nat.le_of_ble_eq_true rfl)) dX11_forget_43 ⟨Nat.le_of_ble_eq_true rfl, Nat.le_of_ble_eq_true rfl⟩
        · exact va_runU (As := [.int v2]) (rest := []) ⟨hx, hb, hml, hown, hts⟩ (c_X5_placeOfMinute (l := l) (D := D) (b := b) (cI := cI) (cL := cL) hc43) (va_cwU 1 hts gX11_forget_X5_placeOfMinute_u147X3 rfl rfl rfl rfl (by decide +kernel) ⟨Nat.le_of_ble_eq_true rfl, Nat.le_of_ble_eq_true rfl⟩) (gp_preV hKn hG (cp_obj hcg) rfl) rfl rfl hl.1 rfl (lv_room (Nat.le_of_ble_eq_true rfl)) dX11_forget_43 ⟨Nat.le_of_ble_eq_true rfl, Nat.le_of_ble_eq_true rfl⟩
        · exact va_runU (As := [.int v2]) (rest := []) ⟨hx, hb, hml, hown, hts⟩ (c_X5_placeOfMinute (l := l) (D := D) (b := b) (cI := cI) (cL := cL) hc43) (va_cwU 1 hts gX11_forget_X5_placeOfMinute_u147X4 rfl rfl rfl rfl (by decide +kernel) ⟨Nat.le_of_ble_eq_true rfl, Nat.le_of_ble_eq_true rfl⟩) (gp_preV hKn hG (cp_obj hcg) rfl) rfl rfl hl.1 rfl (lv_room (Nat.le_of_ble_eq_true rfl)) dX11_forget_43 ⟨Nat.le_of_ble_eq_true rfl, Nat.le_of_ble_eq_true rfl⟩
        · exact va_runV (As := [.int v2]) (rest := []) ⟨hx, hb, hml, hown, hts⟩ (c_X5_placeOfMinute (l := l) (D := D) (b := b) (cI := cI) (cL := cL) hc43) (cwV 1 hts gX11_forget_X5_placeOfMinute rfl rfl rfl (by decide +kernel) ⟨Nat.le_of_ble_eq_true rfl, Nat.le_of_ble_eq_true rfl⟩) (gp_preV hKn hG (cp_obj hcg) rfl) rfl rfl hl.1 rfl (lv_room (Nat.le_of_ble_eq_true rfl)) dX11_forget_43 ⟨Nat.le_of_ble_eq_true rfl, Nat.le_of_ble_eq_true rfl⟩
        · exact va_runU (As := [.int v2]) (rest := []) ⟨hx, hb, hml, hown, hts⟩ (c_X5_placeOfMinute (l := l) (D := D) (b := b) (cI := cI) (cL := cL) hc43) (va_cwU 1 hts gX11_forget_X5_placeOfMinute_u147X7 rfl rfl rfl rfl (by decide +kernel) ⟨Nat.le_of_ble_eq_true rfl, Nat.le_of_ble_eq_true rfl⟩) (gp_preV hKn hG (cp_obj hcg) rfl) rfl rfl hl.1 rfl (lv_room (Nat.le_of_ble_eq_true rfl)) dX11_forget_43 ⟨Nat.le_of_ble_eq_true rfl, Nat.le_of_ble_eq_true rfl⟩
        · exact va_runU (As := [.int v2]) (rest := []) ⟨hx, hb, hml, hown, hts⟩ (c_X5_placeOfMinute (l := l) (D := D) (b := b) (cI := cI) (cL := cL) hc43) (va_cwU 1 hts gX11_forget_X5_placeOfMinute_u147X8 rfl rfl rfl rfl (by decide +kernel) ⟨Nat.le_of_ble_eq_true rfl, Nat.le_of_ble_eq_true rfl⟩) (gp_preV hKn hG (cp_obj hcg) rfl) rfl rfl hl.1 rfl (lv_room (Nat.le_of_ble_eq_true rfl)) dX11_forget_43 ⟨Nat.le_of_ble_eq_true rfl, Nat.le_of_ble_eq_true rfl⟩
      refine gp_callI hrun43 hS (fun H locs hG hS => ?_)
      refine lv_istore (lv' := [(5, .int o43), (4, .int o24), (3, .ref n10), (0, .ref h0), (1, .int v1), (2, .int v2)]) hx hb dX11_forget_46 hl (by decide) rfl (fun ls hl => ?_)
      refine lv_iload hx hb dX11_forget_48 (lv_at hl 0 rfl) ?_
      obtain ⟨j50, hj50, hf⟩ := gb_b hf
      have hJ50 : ∀ (H : Heap) (locs : List Loc) (ls : Array Slot), GP D b M (gW cI cL gv) H → va_S (gA b) s.heap H locs → lv_has ls 6 [] → W p l e rm_X11_forget s m [.ref h0, .int v1, .int v2].toArray below meth c H locs 0 0 (MQ below (gQ D b (some (.int R.1)) M (gW cI cL R.2)) [.ref h0, .int v1, .int v2].toArray s 0 0 (gA b)) (F0 m 72 ls [.int j50]) := by
        intro H locs ls hG hS hl
        cases hf
        exact gp_retI hx hb hr hlocks hG hS (Nat.le_of_ble_eq_true rfl) (Nat.le_of_ble_eq_true rfl) dX11_forget_72
      refine lv_if_ge (tgt := 58) hx hb dX11_forget_50 (by decide) (fun c50 => ?_) (fun c50 => ?_)
      · have hj50 := gb_t c50 hj50
        refine lv_aload_n hx hb dX11_forget_58 rfl (lv_at hl 2 rfl) ?_
        obtain ⟨o59, hc59, hj50⟩ := gb_b hj50
        have hrun59 : va_Run p l e rm_X11_forget s m [.ref h0, .int v1, .int v2].toArray below meth c H locs 0 0 0 0 (F0 m 59 ls ([].reverse ++ .ref n10 :: [])) [] (gQ D b (some (.int o59)) M (gW cI cL gv) (Value.ref n10 :: []).toArray) (gA b) := by
          obtain ⟨oc, hcO, hc59⟩ := gb_b hc59
          obtain ⟨hcg, hci⟩ := gfO_s hcO
          obtain ⟨kc, fc⟩ := oc
          dsimp only at hci hcg hc59
          rcases gLC_7 hci with rfl | rfl | rfl | rfl | rfl | rfl | rfl
          · have hc59 : f_X0_room n10 = some o59 := hc59
            exact va_runU (As := []) (rest := []) ⟨hx, hb, hml, hown, hts⟩ (c_X0_room (l := l) (D := D) (b := b) (cI := cI) (cL := cL) hc59) (va_cwO 0 hts gX11_forget_X0_room_u150X0 rfl rfl rfl (List.mem_of_getElem? (i := 57) rfl) (by decide +kernel) ⟨Nat.le_of_ble_eq_true rfl, Nat.le_of_ble_eq_true rfl⟩) (gp_preV hKn hG (cp_obj hcg) rfl) rfl rfl hl.1 rfl (lv_room (Nat.le_of_ble_eq_true rfl)) dX11_forget_59 ⟨Nat.le_of_ble_eq_true rfl, Nat.le_of_ble_eq_true rfl⟩
          · have hc59 : f_X5_room n10 = some o59 := hc59
            exact va_runU (As := []) (rest := []) ⟨hx, hb, hml, hown, hts⟩ (c_X5_room (l := l) (D := D) (b := b) (cI := cI) (cL := cL) hc59) (va_cwU 0 hts gX11_forget_X5_room_u150X1 rfl rfl rfl rfl (by decide +kernel) ⟨Nat.le_of_ble_eq_true rfl, Nat.le_of_ble_eq_true rfl⟩) (gp_preV hKn hG (cp_obj hcg) rfl) rfl rfl hl.1 rfl (lv_room (Nat.le_of_ble_eq_true rfl)) dX11_forget_59 ⟨Nat.le_of_ble_eq_true rfl, Nat.le_of_ble_eq_true rfl⟩
          · have hc59 : f_X5_room n10 = some o59 := hc59
            exact va_runU (As := []) (rest := []) ⟨hx, hb, hml, hown, hts⟩ (c_X5_room (l := l) (D := D) (b := b) (cI := cI) (cL := cL) hc59) (va_cwU 0 hts gX11_forget_X5_room_u150X3 rfl rfl rfl rfl (by decide +kernel) ⟨Nat.le_of_ble_eq_true rfl, Nat.le_of_ble_eq_true rfl⟩) (gp_preV hKn hG (cp_obj hcg) rfl) rfl rfl hl.1 rfl (lv_room (Nat.le_of_ble_eq_true rfl)) dX11_forget_59 ⟨Nat.le_of_ble_eq_true rfl, Nat.le_of_ble_eq_true rfl⟩
          · have hc59 : f_X5_room n10 = some o59 := hc59
            exact va_runU (As := []) (rest := []) ⟨hx, hb, hml, hown, hts⟩ (c_X5_room (l := l) (D := D) (b := b) (cI := cI) (cL := cL) hc59) (va_cwU 0 hts gX11_forget_X5_room_u150X4 rfl rfl rfl rfl (by decide +kernel) ⟨Nat.le_of_ble_eq_true rfl, Nat.le_of_ble_eq_true rfl⟩) (gp_preV hKn hG (cp_obj hcg) rfl) rfl rfl hl.1 rfl (lv_room (Nat.le_of_ble_eq_true rfl)) dX11_forget_59 ⟨Nat.le_of_ble_eq_true rfl, Nat.le_of_ble_eq_true rfl⟩
          · have hc59 : f_X5_room n10 = some o59 := hc59
            exact va_runV (As := []) (rest := []) ⟨hx, hb, hml, hown, hts⟩ (c_X5_room (l := l) (D := D) (b := b) (cI := cI) (cL := cL) hc59) (cwV 0 hts gX11_forget_X5_room rfl rfl rfl (by decide +kernel) ⟨Nat.le_of_ble_eq_true rfl, Nat.le_of_ble_eq_true rfl⟩) (gp_preV hKn hG (cp_obj hcg) rfl) rfl rfl hl.1 rfl (lv_room (Nat.le_of_ble_eq_true rfl)) dX11_forget_59 ⟨Nat.le_of_ble_eq_true rfl, Nat.le_of_ble_eq_true rfl⟩
          · have hc59 : f_X7_room n10 = some o59 := hc59
            exact va_runU (As := []) (rest := []) ⟨hx, hb, hml, hown, hts⟩ (c_X7_room (l := l) (D := D) (b := b) (cI := cI) (cL := cL) hc59) (va_cwO 0 hts gX11_forget_X7_room_u150X7 rfl rfl rfl (List.mem_of_getElem? (i := 57) rfl) (by decide +kernel) ⟨Nat.le_of_ble_eq_true rfl, Nat.le_of_ble_eq_true rfl⟩) (gp_preV hKn hG (cp_obj hcg) rfl) rfl rfl hl.1 rfl (lv_room (Nat.le_of_ble_eq_true rfl)) dX11_forget_59 ⟨Nat.le_of_ble_eq_true rfl, Nat.le_of_ble_eq_true rfl⟩
          · have hc59 : f_X5_room n10 = some o59 := hc59
            exact va_runU (As := []) (rest := []) ⟨hx, hb, hml, hown, hts⟩ (c_X5_room (l := l) (D := D) (b := b) (cI := cI) (cL := cL) hc59) (va_cwU 0 hts gX11_forget_X5_room_u150X8 rfl rfl rfl rfl (by decide +kernel) ⟨Nat.le_of_ble_eq_true rfl, Nat.le_of_ble_eq_true rfl⟩) (gp_preV hKn hG (cp_obj hcg) rfl) rfl rfl hl.1 rfl (lv_room (Nat.le_of_ble_eq_true rfl)) dX11_forget_59 ⟨Nat.le_of_ble_eq_true rfl, Nat.le_of_ble_eq_true rfl⟩
        refine gp_callI hrun59 hS (fun H locs hG hS => ?_)
        refine lv_aload_n hx hb dX11_forget_62 rfl (lv_at hl 2 rfl) ?_
        obtain ⟨t63, ht63, hj50⟩ := gb_b hj50
        refine cp_get (v := .int t63) hx hb hts gclL hown hK hG 3 (gfI_s ht63) (by decide) (hts _ (List.mem_of_getElem? (i := 2) rfl)) (fun _ h9 => h9) dX11_forget_63 ?_
        refine lv_isub hx hb dX11_forget_66 ?_
        refine lv_iload hx hb dX11_forget_67 (lv_at hl 0 rfl) ?_
        refine lv_iadd hx hb dX11_forget_69 ?_
        refine lv_iconst (v := 1) hx hb dX11_forget_70 (by decide) ?_
        refine lv_iadd hx hb dX11_forget_71 ?_
        have hj50 := Option.some.inj hj50
        subst hj50
        exact (hJ50 H locs ls hG hS (lv_sub hl [] rfl))
      · have hj50 := gb_f c50 hj50
        refine lv_bipush (v := (-9 : Int32)) hx hb dX11_forget_53 (by decide) ?_
        refine lv_goto (tgt := 72) hx hb dX11_forget_55 (by decide) ?_
        have hj50 := Option.some.inj hj50
        subst hj50
        exact (hJ50 H locs ls hG hS (lv_sub hl [] rfl))
    · have hf := gb_f c31 hf
      refine lv_aload_n hx hb dX11_forget_34 rfl (lv_at hl 2 rfl) ?_
      refine lv_iload hx hb dX11_forget_35 (lv_at hl 0 rfl) ?_
      obtain ⟨o37, hc37, hf⟩ := gb_b hf
      obtain ⟨oc37, hcO37, hc37⟩ := gb_b hc37
      obtain ⟨hcg37, hci37⟩ := gfO_s hcO37
      have hci37 := List.mem_singleton.mp hci37
      obtain ⟨kc37, fc37⟩ := oc37
      dsimp only at hci37 hcg37
      subst hci37
      refine gp_callI (va_runV (As := [.int o24]) (rest := []) ⟨hx, hb, hml, hown, hts⟩ (c_X11_refuse (l := l) (D := D) (b := b) (cI := cI) (cL := cL) hc37) (cwV 1 hts gX11_forget_X11_refuse rfl rfl rfl (by decide +kernel) ⟨Nat.le_of_ble_eq_true rfl, Nat.le_of_ble_eq_true rfl⟩) (gp_preV hKn hG (cp_obj hcg37) rfl) rfl rfl hl.1 rfl (lv_room (Nat.le_of_ble_eq_true rfl)) dX11_forget_37 ⟨Nat.le_of_ble_eq_true rfl, Nat.le_of_ble_eq_true rfl⟩) hS (fun H locs hG hS => ?_)
      cases hf
      exact gp_retI hx hb hr hlocks hG hS (Nat.le_of_ble_eq_true rfl) (Nat.le_of_ble_eq_true rfl) dX11_forget_40
  · intro e10
    rw [e10] at hl
    rw [e10] at hf
    dsimp only at hf
    refine lv_aload_n hx hb dX11_forget_13 rfl (lv_at hl 1 rfl) ?_
    refine lv_iconst (v := (-1 : Int32)) hx hb dX11_forget_14 (by decide) ?_
    obtain ⟨o15, hc15, hf⟩ := gb_b hf
    obtain ⟨oc15, hcO15, hc15⟩ := gb_b hc15
    obtain ⟨hcg15, hci15⟩ := gfO_s hcO15
    have hci15 := List.mem_singleton.mp hci15
    obtain ⟨kc15, fc15⟩ := oc15
    dsimp only at hci15 hcg15
    subst hci15
    refine gp_callI (va_runV (As := [.int (-1 : Int32)]) (rest := []) ⟨hx, hb, hml, hown, hts⟩ (c_X11_refuse (l := l) (D := D) (b := b) (cI := cI) (cL := cL) hc15) (cwV 1 hts gX11_forget_X11_refuse rfl rfl rfl (by decide +kernel) ⟨Nat.le_of_ble_eq_true rfl, Nat.le_of_ble_eq_true rfl⟩) (gp_preV hKn hG (cp_obj hcg15) rfl) rfl rfl hl.1 rfl (lv_room (Nat.le_of_ble_eq_true rfl)) dX11_forget_15 ⟨Nat.le_of_ble_eq_true rfl, Nat.le_of_ble_eq_true rfl⟩) hS (fun H locs hG hS => ?_)
    cases hf
    exact gp_retI hx hb hr hlocks hG hS (Nat.le_of_ble_eq_true rfl) (Nat.le_of_ble_eq_true rfl) dX11_forget_18
-- X11_go
abbrev rm_X11_go : Room := { frames := 5, cells := 0, slots := 0, locals := 124 }
def f_X11_go (gv : Nat → GV) (h0 : Nat) (v1 : Int32) (v2 : Int32) : Option (Int32 × (Nat → GV)) :=
  (gfR gv h0 [9] 4).bind fun t2 => t2.bind fun q7 => ((gfO gv q7 [8]).bind fun _ => f_X10_walk gv q7 v1 v2).bind fun o7 => ((gfO o7.2 h0 [9]).bind fun _ => f_X11_counted o7.2 h0 o7.1).bind fun o10 => some (o10.1, o10.2)
set_option maxHeartbeats 4000000 in
set_option maxRecDepth 100000 in
theorem c_X11_go {v1 : Int32} {v2 : Int32} {R : Int32 × (Nat → GV)} (hf : f_X11_go gv h0 v1 v2 = some R) : Met l yX11_go wsX11_go rm_X11_go (va_Pc [.ref h0, .int v1, .int v2] (gPre D b M (gW cI cL gv) (gTy cI cL))) (gQ D b (some (.int R.1)) M (gW cI cL R.2)) 0 0 (gA b) := by
  refine gp_met (cc := cX11_go) (maxL := 3) (ret := (some .int)) (by decide) rfl (Nat.le_of_ble_eq_true rfl) ?_
  intro p e s m below meth c X ls hG hl
  obtain ⟨H, hH0⟩ : ∃ H : Heap, H = s.heap := ⟨_, rfl⟩
  rw [← hH0] at hG ⊢
  have hS : va_S (gA b) s.heap H [] := by rw [hH0]; exact va_S.rf
  obtain ⟨locs, hlo⟩ : ∃ z : List Loc, z = [] := ⟨_, rfl⟩
  rw [← hlo] at hS ⊢
  unfold f_X11_go at hf
  obtain ⟨hx, hb, hr, hml, hown, hts, hlocks, hKn⟩ := id X
  have hK := hKn.1
  have gclX11 : gcl [9] TX11 8 wsX11_go := gcl_1 rfl (fun _ h => List.mem_cons_of_mem _ (List.mem_append_left _ (List.mem_append_left _ (List.mem_append_left _ (List.mem_append_left _ (List.mem_append_left _ (List.mem_append_left _ (List.mem_append_left _ (List.mem_append_left _ (List.mem_append_right _ h))))))))))
  have hl : lv_has ls 3 [(0, .ref h0), (1, .int v1), (2, .int v2)] := hl
  refine lv_aload_n hx hb dX11_go_0 rfl (lv_at hl 0 rfl) ?_
  refine lv_aload_n hx hb dX11_go_1 rfl (lv_at hl 0 rfl) ?_
  obtain ⟨t2, ht2, hf⟩ := gb_b hf
  refine cp_get (v := va_rf t2) hx hb hts gclX11 hown hK hG 4 (gfR_s ht2) (by decide) (hts _ (List.mem_of_getElem? (i := 1) rfl)) (fun _ h9 => h9) dX11_go_2 ?_
  refine lv_iload_n hx hb dX11_go_5 rfl (lv_at hl 1 rfl) ?_
  refine lv_iload_n hx hb dX11_go_6 rfl (lv_at hl 2 rfl) ?_
  obtain ⟨q7, hq7, hf⟩ := gb_b hf
  rw [hq7]
  obtain ⟨o7, hc7, hf⟩ := gb_b hf
  obtain ⟨oc7, hcO7, hc7⟩ := gb_b hc7
  obtain ⟨hcg7, hci7⟩ := gfO_s hcO7
  have hci7 := List.mem_singleton.mp hci7
  obtain ⟨kc7, fc7⟩ := oc7
  dsimp only at hci7 hcg7
  subst hci7
  refine gp_callI (va_runV (As := [.int v1, .int v2]) (rest := [.ref h0]) ⟨hx, hb, hml, hown, hts⟩ (c_X10_walk (l := l) (D := D) (b := b) (cI := cI) (cL := cL) hc7) (cwV 2 hts gX11_go_X10_walk rfl rfl rfl (by decide +kernel) ⟨Nat.le_of_ble_eq_true rfl, Nat.le_of_ble_eq_true rfl⟩) (gp_preV hKn hG (cp_obj hcg7) rfl) rfl rfl hl.1 rfl (lv_room (Nat.le_of_ble_eq_true rfl)) dX11_go_7 ⟨Nat.le_of_ble_eq_true rfl, Nat.le_of_ble_eq_true rfl⟩) hS (fun H locs hG hS => ?_)
  obtain ⟨o10, hc10, hf⟩ := gb_b hf
  obtain ⟨oc10, hcO10, hc10⟩ := gb_b hc10
  obtain ⟨hcg10, hci10⟩ := gfO_s hcO10
  have hci10 := List.mem_singleton.mp hci10
  obtain ⟨kc10, fc10⟩ := oc10
  dsimp only at hci10 hcg10
  subst hci10
  refine gp_callI (va_runV (As := [.int o7.1]) (rest := []) ⟨hx, hb, hml, hown, hts⟩ (c_X11_counted (l := l) (D := D) (b := b) (cI := cI) (cL := cL) hc10) (cwV 1 hts gX11_go_X11_counted rfl rfl rfl (by decide +kernel) ⟨Nat.le_of_ble_eq_true rfl, Nat.le_of_ble_eq_true rfl⟩) (gp_preV hKn hG (cp_obj hcg10) rfl) rfl rfl hl.1 rfl (lv_room (Nat.le_of_ble_eq_true rfl)) dX11_go_10 ⟨Nat.le_of_ble_eq_true rfl, Nat.le_of_ble_eq_true rfl⟩) hS (fun H locs hG hS => ?_)
  cases hf
  exact gp_retI hx hb hr hlocks hG hS (Nat.le_of_ble_eq_true rfl) (Nat.le_of_ble_eq_true rfl) dX11_go_13
-- X11_image
abbrev rm_X11_image : Room := { frames := 7, cells := 14, slots := 98, locals := 153 }
def f_X11_image (gv : Nat → GV) (M : Nat) (h0 : Nat) : Option (Int32 × (Nat → GV) × Nat) :=
  (gfR gv h0 [9] 3).bind fun t1 => (gfR gv h0 [9] 4).bind fun t5 => t1.bind fun q8 => ((gfO gv q8 [8]).bind fun _ => f_X10_become gv M q8 t5).bind fun o8 => (gpu o8.1 h0 [9] 7 (.int 1)).bind fun g13 => (gfR g13 h0 [9] 4).bind fun t17 => t17.bind fun q20 => (gfI g13 q20 [8] 5).bind fun t20 => some (t20, g13, o8.2)
set_option maxHeartbeats 4000000 in
set_option maxRecDepth 100000 in
theorem c_X11_image {R : Int32 × (Nat → GV) × Nat} (hf : f_X11_image gv M h0 = some R) : Met l yX11_image wsX11_image rm_X11_image (va_Pc [.ref h0] (gPre D b M (gW cI cL gv) (gTy cI cL))) (gQ D b (some (.int R.1)) R.2.2 (gW cI cL R.2.1)) 14 98 (gA b) := by
  refine gp_met (cc := cX11_image) (maxL := 1) (ret := (some .int)) (by decide) rfl (Nat.le_of_ble_eq_true rfl) ?_
  intro p e s m below meth c X ls hG hl
  obtain ⟨H, hH0⟩ : ∃ H : Heap, H = s.heap := ⟨_, rfl⟩
  rw [← hH0] at hG ⊢
  have hS : va_S (gA b) s.heap H [] := by rw [hH0]; exact va_S.rf
  obtain ⟨locs, hlo⟩ : ∃ z : List Loc, z = [] := ⟨_, rfl⟩
  rw [← hlo] at hS ⊢
  unfold f_X11_image at hf
  obtain ⟨hx, hb, hr, hml, hown, hts, hlocks, hKn⟩ := id X
  have hK := hKn.1
  have gclX10 : gcl [8] TX10 6 wsX11_image := gcl_1 rfl (fun _ h => List.mem_cons_of_mem _ (List.mem_append_left _ (List.mem_append_left _ (List.mem_append_left _ (List.mem_append_left _ (List.mem_append_left _ (List.mem_append_left _ (List.mem_append_left _ (List.mem_append_right _ h)))))))))
  have gclX11 : gcl [9] TX11 8 wsX11_image := gcl_1 rfl (fun _ h => List.mem_cons_of_mem _ (List.mem_append_left _ (List.mem_append_left _ (List.mem_append_left _ (List.mem_append_left _ (List.mem_append_left _ (List.mem_append_left _ (List.mem_append_left _ (List.mem_append_left _ (List.mem_append_right _ h))))))))))
  have hl : lv_has ls 1 [(0, .ref h0)] := hl
  refine lv_aload_n hx hb dX11_image_0 rfl (lv_at hl 0 rfl) ?_
  obtain ⟨t1, ht1, hf⟩ := gb_b hf
  refine cp_get (v := va_rf t1) hx hb hts gclX11 hown hK hG 3 (gfR_s ht1) (by decide) (hts _ (List.mem_of_getElem? (i := 1) rfl)) (fun _ h9 => h9) dX11_image_1 ?_
  refine lv_aload_n hx hb dX11_image_4 rfl (lv_at hl 0 rfl) ?_
  obtain ⟨t5, ht5, hf⟩ := gb_b hf
  refine cp_get (v := va_rf t5) hx hb hts gclX11 hown hK hG 4 (gfR_s ht5) (by decide) (hts _ (List.mem_of_getElem? (i := 2) rfl)) (fun _ h9 => h9) dX11_image_5 ?_
  obtain ⟨q8, hq8, hf⟩ := gb_b hf
  rw [hq8]
  obtain ⟨o8, hc8, hf⟩ := gb_b hf
  obtain ⟨oc8, hcO8, hc8⟩ := gb_b hc8
  obtain ⟨hcg8, hci8⟩ := gfO_s hcO8
  have hci8 := List.mem_singleton.mp hci8
  obtain ⟨kc8, fc8⟩ := oc8
  dsimp only at hci8 hcg8
  subst hci8
  refine gp_callV (va_runV (As := [va_rf t5]) (rest := []) ⟨hx, hb, hml, hown, hts⟩ (c_X10_become (l := l) (D := D) (b := b) (cI := cI) (cL := cL) hc8) (cwV 1 hts gX11_image_X10_become rfl rfl rfl (by decide +kernel) ⟨Nat.le_of_ble_eq_true rfl, Nat.le_of_ble_eq_true rfl⟩) (gp_preV hKn hG (cp_obj hcg8) rfl) rfl rfl hl.1 rfl (lv_room (Nat.le_of_ble_eq_true rfl)) dX11_image_8 ⟨Nat.le_of_ble_eq_true rfl, Nat.le_of_ble_eq_true rfl⟩) hS (fun H locs hG hS => ?_)
  refine lv_aload_n hx hb dX11_image_11 rfl (lv_at hl 0 rfl) ?_
  refine lv_iconst (v := 1) hx hb dX11_image_12 (by decide) ?_
  obtain ⟨g13, ht13, hf⟩ := gb_b hf
  refine cp_put (tyk := .boolean) hx hb hts gclX11 tyX11 tyX11_ok nmX11 hown hK hG hS 7 ht13 (by decide) (hts _ (List.mem_of_getElem? (i := 3) rfl)) (fun _ h9 => h9) rfl (by decide +kernel) (by decide) (by decide) dX11_image_13 (fun H locs hG hS => ?_)
  refine lv_aload_n hx hb dX11_image_16 rfl (lv_at hl 0 rfl) ?_
  obtain ⟨t17, ht17, hf⟩ := gb_b hf
  refine cp_get (v := va_rf t17) hx hb hts gclX11 hown hK hG 4 (gfR_s ht17) (by decide) (hts _ (List.mem_of_getElem? (i := 2) rfl)) (fun _ h9 => h9) dX11_image_17 ?_
  obtain ⟨q20, hq20, hf⟩ := gb_b hf
  rw [hq20]
  obtain ⟨t20, ht20, hf⟩ := gb_b hf
  refine cp_get (v := .int t20) hx hb hts gclX10 hown hK hG 5 (gfI_s ht20) (by decide) (hts _ (List.mem_of_getElem? (i := 4) rfl)) (fun _ h9 => h9) dX11_image_20 ?_
  cases hf
  exact gp_retI hx hb hr hlocks hG hS (Nat.le_of_ble_eq_true rfl) (Nat.le_of_ble_eq_true rfl) dX11_image_23
-- X11_init
abbrev rm_X11_init : Room := { frames := 2, cells := 13, slots := 165, locals := 48 }
def f_X11_init (gv : Nat → GV) (M : Nat) (h0 : Nat) : Option ((Nat → GV) × Nat) :=
  (f_X6_init (va_up gv M (.inl (5, [.null, .int 0]))) (M + 1) M).bind fun o9 => (gpu o9.1 h0 [9] 0 (.ref M)).bind fun g12 => (gpu (va_up g12 o9.2 (.inr (.inl (12, fun _ => 0)))) h0 [9] 1 (.ref o9.2)).bind fun g20 => (gpu (va_up g20 (o9.2 + 1) (.inr (.inl (7, fun _ => 0)))) h0 [9] 2 (.ref (o9.2 + 1))).bind fun g28 => (f_X10_init (va_up g28 ((o9.2 + 1) + 1) (.inl (8, [.null, .null, .long 0, .int 0, .int 0, .int 0]))) (((o9.2 + 1) + 1) + 1) ((o9.2 + 1) + 1)).bind fun o36 => (gpu o36.1 h0 [9] 3 (.ref ((o9.2 + 1) + 1))).bind fun g39 => (f_X10_init (va_up g39 o36.2 (.inl (8, [.null, .null, .long 0, .int 0, .int 0, .int 0]))) (o36.2 + 1) o36.2).bind fun o47 => (gpu o47.1 h0 [9] 4 (.ref o36.2)).bind fun g50 => (f_X10_init (va_up g50 o47.2 (.inl (8, [.null, .null, .long 0, .int 0, .int 0, .int 0]))) (o47.2 + 1) o47.2).bind fun o58 => (gpu o58.1 h0 [9] 5 (.ref o47.2)).bind fun g61 => some (g61, o58.2)
set_option maxHeartbeats 4000000 in
set_option maxRecDepth 100000 in
theorem c_X11_init {R : (Nat → GV) × Nat} (hf : f_X11_init gv M h0 = some R) : Met l yX11_init wsX11_init rm_X11_init (va_Pc [.ref h0] (gPre D b M (gW cI cL gv) (gTy cI cL))) (gQ D b none R.2 (gW cI cL R.1)) 13 165 (gA b) := by
  refine gp_metI (cc := cX11_init) (maxL := 1) (ret := none) (by decide) rfl (Nat.le_of_ble_eq_true rfl) ?_
  intro p e s m below meth c X hin0 ls hG hl
  obtain ⟨H, hH0⟩ : ∃ H : Heap, H = s.heap := ⟨_, rfl⟩
  rw [← hH0] at hG ⊢
  have hS : va_S (gA b) s.heap H [] := by rw [hH0]; exact va_S.rf
  obtain ⟨locs, hlo⟩ : ∃ z : List Loc, z = [] := ⟨_, rfl⟩
  rw [← hlo] at hS ⊢
  unfold f_X11_init at hf
  obtain ⟨hx, hb, hr, hml, hown, hts, hlocks, hKn⟩ := id X
  have hK := hKn.1
  have gclX11 : gcl [9] TX11 8 wsX11_init := gcl_1 rfl (fun _ h => List.mem_cons_of_mem _ (List.mem_append_left _ (List.mem_append_right _ h)))
  have hl : lv_has ls 1 [(0, .ref h0)] := hl
  refine lv_aload_n hx hb dX11_init_0 rfl (lv_at hl 0 rfl) ?_
  refine W.objInit hx hb hown (hts _ (List.mem_of_getElem? (i := 1) rfl)) (hts _ (List.mem_of_getElem? (i := 2) rfl)) (hts _ (List.mem_of_getElem? (i := 3) rfl)) rfl (by rw [hml]; exact hl.1) rfl dX11_init_1 (Nat.le_of_ble_eq_true rfl) (Nat.le_of_ble_eq_true rfl) ?_
  refine W.eq (g2 := F0 m 4 ls []) rfl ?_
  refine lv_aload_n hx hb dX11_init_4 rfl (lv_at hl 0 rfl) ?_
  refine gp_new (ci := 5) (fs := [.null, .int 0]) (C := RX6) (T := TX6) (N := 2) (g1 := gW cI cL (va_up gv M (.inl (5, [.null, .int 0])))) hx hb hts (fun _ h => List.mem_cons_of_mem _ (List.mem_append_left _ (List.mem_append_left _ (List.mem_append_right _ h)))) tyX6 tyX6_ok hown (hts _ (List.mem_of_getElem? (i := 4) rfl)) (hts _ (List.mem_of_getElem? (i := 5) rfl)) (hts _ (List.mem_of_getElem? (i := 6) rfl)) hK hG hS rfl (by intro j hj; rcases (show j = 0 ∨ j = 1 by omega) with rfl | rfl <;> rfl) (Nat.le_of_ble_eq_true rfl) (Nat.le_of_ble_eq_true rfl) (gW_up (e := .inl (5, [.null, .int 0]))) dX11_init_5 (fun H hG hS => ?_)
  refine lv_dup hx hb dX11_init_8 rfl ?_
  obtain ⟨o9, hc9, hf⟩ := gb_b hf
  refine gp_callV (va_runIN (As := []) (rest := [.ref M, .ref h0]) ⟨hx, hb, hml, hown, hts⟩ (c_X6_init (l := l) (D := D) (b := b) (cI := cI) (cL := cL) hc9) ⟨va_cnB 0 hts gX11_init_X6_init_n9 rfl rfl rfl (hKn.2.1 _ (List.mem_of_getElem? (i := 0) rfl)) (hts _ (List.mem_of_getElem? (i := 6) rfl)) (by decide +kernel) ⟨Nat.le_of_ble_eq_true rfl, Nat.le_of_ble_eq_true rfl⟩, rfl, (hts _ (List.mem_of_getElem? (i := 17) rfl))⟩ (gp_preS hKn hG) rfl rfl hl.1 rfl (lv_room (Nat.le_of_ble_eq_true rfl)) dX11_init_9 ⟨Nat.le_of_ble_eq_true rfl, Nat.le_of_ble_eq_true rfl⟩) hS (fun H locs hG hS => ?_)
  obtain ⟨g12, ht12, hf⟩ := gb_b hf
  refine cp_putF (tyk := (.object "LampsThatRemember$Letters")) hx hb hts gclX11 tyX11 tyX11_ok nmX11 hown hK hG hS 0 ht12 (by decide) (hts _ (List.mem_of_getElem? (i := 7) rfl)) (fun _ h9 => h9) rfl hin0 rfl (by decide +kernel) rfl rfl dX11_init_12 (fun H locs hG hS => ?_)
  refine lv_aload_n hx hb dX11_init_15 rfl (lv_at hl 0 rfl) ?_
  refine lv_bipush (v := 12) hx hb dX11_init_16 (by decide) ?_
  refine gp_newa (N' := 12) (g1 := gW cI cL (va_up g12 o9.2 (.inr (.inl (12, fun _ => 0))))) hx hb (hts _ (List.mem_of_getElem? (i := 8) rfl)) hK hG hS (by decide) (by decide) (by decide) (Nat.le_of_ble_eq_true rfl) (Nat.le_of_ble_eq_true rfl) (gW_up (e := .inr (.inl (12, fun _ => 0)))) dX11_init_18 (fun H hG hS => ?_)
  obtain ⟨g20, ht20, hf⟩ := gb_b hf
  refine cp_putF (tyk := .array .int) hx hb hts gclX11 tyX11 tyX11_ok nmX11 hown hK hG hS 1 ht20 (by decide) (hts _ (List.mem_of_getElem? (i := 9) rfl)) (fun _ h9 => h9) rfl hin0 rfl (by decide +kernel) rfl rfl dX11_init_20 (fun H locs hG hS => ?_)
  refine lv_aload_n hx hb dX11_init_23 rfl (lv_at hl 0 rfl) ?_
  refine lv_bipush (v := 7) hx hb dX11_init_24 (by decide) ?_
  refine gp_newa (N' := 7) (g1 := gW cI cL (va_up g20 (o9.2 + 1) (.inr (.inl (7, fun _ => 0))))) hx hb (hts _ (List.mem_of_getElem? (i := 8) rfl)) hK hG hS (by decide) (by decide) (by decide) (Nat.le_of_ble_eq_true rfl) (Nat.le_of_ble_eq_true rfl) (gW_up (e := .inr (.inl (7, fun _ => 0)))) dX11_init_26 (fun H hG hS => ?_)
  obtain ⟨g28, ht28, hf⟩ := gb_b hf
  refine cp_putF (tyk := .array .int) hx hb hts gclX11 tyX11 tyX11_ok nmX11 hown hK hG hS 2 ht28 (by decide) (hts _ (List.mem_of_getElem? (i := 10) rfl)) (fun _ h9 => h9) rfl hin0 rfl (by decide +kernel) rfl rfl dX11_init_28 (fun H locs hG hS => ?_)
  refine lv_aload_n hx hb dX11_init_31 rfl (lv_at hl 0 rfl) ?_
  refine gp_new (ci := 8) (fs := [.null, .null, .long 0, .int 0, .int 0, .int 0]) (C := RX10) (T := TX10) (N := 6) (g1 := gW cI cL (va_up g28 ((o9.2 + 1) + 1) (.inl (8, [.null, .null, .long 0, .int 0, .int 0, .int 0])))) hx hb hts (fun _ h => List.mem_cons_of_mem _ (List.mem_append_right _ h)) tyX10 tyX10_ok hown (hts _ (List.mem_of_getElem? (i := 11) rfl)) (hts _ (List.mem_of_getElem? (i := 12) rfl)) (hts _ (List.mem_of_getElem? (i := 13) rfl)) hK hG hS rfl (by intro j hj; rcases (show j = 0 ∨ j = 1 ∨ j = 2 ∨ j = 3 ∨ j = 4 ∨ j = 5 by omega) with rfl | rfl | rfl | rfl | rfl | rfl <;> rfl) (Nat.le_of_ble_eq_true rfl) (Nat.le_of_ble_eq_true rfl) (gW_up (e := .inl (8, [.null, .null, .long 0, .int 0, .int 0, .int 0]))) dX11_init_32 (fun H hG hS => ?_)
  refine lv_dup hx hb dX11_init_35 rfl ?_
  obtain ⟨o36, hc36, hf⟩ := gb_b hf
  refine gp_callV (va_runIN (As := []) (rest := [.ref ((o9.2 + 1) + 1), .ref h0]) ⟨hx, hb, hml, hown, hts⟩ (c_X10_init (l := l) (D := D) (b := b) (cI := cI) (cL := cL) hc36) ⟨va_cnB 0 hts gX11_init_X10_init_n25 rfl rfl rfl (hKn.2.1 _ (List.mem_of_getElem? (i := 1) rfl)) (hts _ (List.mem_of_getElem? (i := 13) rfl)) (by decide +kernel) ⟨Nat.le_of_ble_eq_true rfl, Nat.le_of_ble_eq_true rfl⟩, rfl, (hts _ (List.mem_of_getElem? (i := 21) rfl))⟩ (gp_preS hKn hG) rfl rfl hl.1 rfl (lv_room (Nat.le_of_ble_eq_true rfl)) dX11_init_36 ⟨Nat.le_of_ble_eq_true rfl, Nat.le_of_ble_eq_true rfl⟩) hS (fun H locs hG hS => ?_)
  obtain ⟨g39, ht39, hf⟩ := gb_b hf
  refine cp_putF (tyk := (.object "LampsThatRemember$Town")) hx hb hts gclX11 tyX11 tyX11_ok nmX11 hown hK hG hS 3 ht39 (by decide) (hts _ (List.mem_of_getElem? (i := 14) rfl)) (fun _ h9 => h9) rfl hin0 rfl (by decide +kernel) rfl rfl dX11_init_39 (fun H locs hG hS => ?_)
  refine lv_aload_n hx hb dX11_init_42 rfl (lv_at hl 0 rfl) ?_
  refine gp_new (ci := 8) (fs := [.null, .null, .long 0, .int 0, .int 0, .int 0]) (C := RX10) (T := TX10) (N := 6) (g1 := gW cI cL (va_up g39 o36.2 (.inl (8, [.null, .null, .long 0, .int 0, .int 0, .int 0])))) hx hb hts (fun _ h => List.mem_cons_of_mem _ (List.mem_append_right _ h)) tyX10 tyX10_ok hown (hts _ (List.mem_of_getElem? (i := 11) rfl)) (hts _ (List.mem_of_getElem? (i := 12) rfl)) (hts _ (List.mem_of_getElem? (i := 13) rfl)) hK hG hS rfl (by intro j hj; rcases (show j = 0 ∨ j = 1 ∨ j = 2 ∨ j = 3 ∨ j = 4 ∨ j = 5 by omega) with rfl | rfl | rfl | rfl | rfl | rfl <;> rfl) (Nat.le_of_ble_eq_true rfl) (Nat.le_of_ble_eq_true rfl) (gW_up (e := .inl (8, [.null, .null, .long 0, .int 0, .int 0, .int 0]))) dX11_init_43 (fun H hG hS => ?_)
  refine lv_dup hx hb dX11_init_46 rfl ?_
  obtain ⟨o47, hc47, hf⟩ := gb_b hf
  refine gp_callV (va_runIN (As := []) (rest := [.ref o36.2, .ref h0]) ⟨hx, hb, hml, hown, hts⟩ (c_X10_init (l := l) (D := D) (b := b) (cI := cI) (cL := cL) hc47) ⟨va_cnB 0 hts gX11_init_X10_init_n25 rfl rfl rfl (hKn.2.1 _ (List.mem_of_getElem? (i := 1) rfl)) (hts _ (List.mem_of_getElem? (i := 13) rfl)) (by decide +kernel) ⟨Nat.le_of_ble_eq_true rfl, Nat.le_of_ble_eq_true rfl⟩, rfl, (hts _ (List.mem_of_getElem? (i := 21) rfl))⟩ (gp_preS hKn hG) rfl rfl hl.1 rfl (lv_room (Nat.le_of_ble_eq_true rfl)) dX11_init_47 ⟨Nat.le_of_ble_eq_true rfl, Nat.le_of_ble_eq_true rfl⟩) hS (fun H locs hG hS => ?_)
  obtain ⟨g50, ht50, hf⟩ := gb_b hf
  refine cp_put (tyk := (.object "LampsThatRemember$Town")) hx hb hts gclX11 tyX11 tyX11_ok nmX11 hown hK hG hS 4 ht50 (by decide) (hts _ (List.mem_of_getElem? (i := 15) rfl)) (fun _ h9 => h9) rfl (by decide +kernel) rfl rfl dX11_init_50 (fun H locs hG hS => ?_)
  refine lv_aload_n hx hb dX11_init_53 rfl (lv_at hl 0 rfl) ?_
  refine gp_new (ci := 8) (fs := [.null, .null, .long 0, .int 0, .int 0, .int 0]) (C := RX10) (T := TX10) (N := 6) (g1 := gW cI cL (va_up g50 o47.2 (.inl (8, [.null, .null, .long 0, .int 0, .int 0, .int 0])))) hx hb hts (fun _ h => List.mem_cons_of_mem _ (List.mem_append_right _ h)) tyX10 tyX10_ok hown (hts _ (List.mem_of_getElem? (i := 11) rfl)) (hts _ (List.mem_of_getElem? (i := 12) rfl)) (hts _ (List.mem_of_getElem? (i := 13) rfl)) hK hG hS rfl (by intro j hj; rcases (show j = 0 ∨ j = 1 ∨ j = 2 ∨ j = 3 ∨ j = 4 ∨ j = 5 by omega) with rfl | rfl | rfl | rfl | rfl | rfl <;> rfl) (Nat.le_of_ble_eq_true rfl) (Nat.le_of_ble_eq_true rfl) (gW_up (e := .inl (8, [.null, .null, .long 0, .int 0, .int 0, .int 0]))) dX11_init_54 (fun H hG hS => ?_)
  refine lv_dup hx hb dX11_init_57 rfl ?_
  obtain ⟨o58, hc58, hf⟩ := gb_b hf
  refine gp_callV (va_runIN (As := []) (rest := [.ref o47.2, .ref h0]) ⟨hx, hb, hml, hown, hts⟩ (c_X10_init (l := l) (D := D) (b := b) (cI := cI) (cL := cL) hc58) ⟨va_cnB 0 hts gX11_init_X10_init_n25 rfl rfl rfl (hKn.2.1 _ (List.mem_of_getElem? (i := 1) rfl)) (hts _ (List.mem_of_getElem? (i := 13) rfl)) (by decide +kernel) ⟨Nat.le_of_ble_eq_true rfl, Nat.le_of_ble_eq_true rfl⟩, rfl, (hts _ (List.mem_of_getElem? (i := 21) rfl))⟩ (gp_preS hKn hG) rfl rfl hl.1 rfl (lv_room (Nat.le_of_ble_eq_true rfl)) dX11_init_58 ⟨Nat.le_of_ble_eq_true rfl, Nat.le_of_ble_eq_true rfl⟩) hS (fun H locs hG hS => ?_)
  obtain ⟨g61, ht61, hf⟩ := gb_b hf
  refine cp_put (tyk := (.object "LampsThatRemember$Town")) hx hb hts gclX11 tyX11 tyX11_ok nmX11 hown hK hG hS 5 ht61 (by decide) (hts _ (List.mem_of_getElem? (i := 16) rfl)) (fun _ h9 => h9) rfl (by decide +kernel) rfl rfl dX11_init_61 (fun H locs hG hS => ?_)
  cases hf
  exact gp_retV hx hb hr hlocks hG hS (Nat.le_of_ble_eq_true rfl) (Nat.le_of_ble_eq_true rfl) dX11_init_64
-- X11_judge
abbrev rm_X11_judge : Room := { frames := 2, cells := 0, slots := 0, locals := 53 }
def L_X11_judge_28 {α : Type} (K63 : Int32 → Option α) (K74 : Unit → Option α) (gv : Nat → GV) (v0 : Nat) : Nat → Int32 → Int32 → Option α
  | 0, _, _ => none
  | n + 1, v2, v3 => (gfI gv v0 [9] 6).bind fun t30 => if t30 ≤ v3 then K74 () else ((gfO gv v0 [9]).bind fun _ => f_X11_inRowAt gv v0 v3).bind fun o38 => (gfR gv v0 [9] 4).bind fun t46 => t46.bind fun q49 => ((gfO gv q49 [8]).bind fun _ => f_X10_free gv q49).bind fun o49 => (f_X2_within v2 1 o49).bind fun o52 => (f_X2_has o52 o38).bind fun o57 => if o57 = 0 then K63 v3 else L_X11_judge_28 K63 K74 gv v0 n o38 (v3 + 1)
set_option maxHeartbeats 4000000 in
set_option maxRecDepth 100000 in
theorem w_X11_judge_28 {α : Type} {R : α} {K63 : Int32 → Option α} {K74 : Unit → Option α} {v0 : Nat} (X : gC p s m args meth c cX11_judge 5 (some .int) wsX11_judge RX11 D b (gTy cI cL)) : ∀ (n : Nat) (v2 : Int32) (v3 : Int32), L_X11_judge_28 K63 K74 gv v0 n v2 v3 = some R → (∀ (x : Int32), K63 x = some R → ∀ (H : Heap) (locs : List Loc) (ls : Array Slot), GP D b M (gW cI cL gv) H → va_S (gA b) s.heap H locs → lv_has ls 5 [(3, .int x)] → W p l e rm_X11_judge s m args below meth c H locs 0 0 Q (F0 m 63 ls [])) → (∀ (x : Unit), K74 x = some R → ∀ (H : Heap) (locs : List Loc) (ls : Array Slot), GP D b M (gW cI cL gv) H → va_S (gA b) s.heap H locs → lv_has ls 5 [] → W p l e rm_X11_judge s m args below meth c H locs 0 0 Q (F0 m 74 ls [])) → ∀ (H : Heap) (locs : List Loc) (ls : Array Slot), GP D b M (gW cI cL gv) H → va_S (gA b) s.heap H locs → lv_has ls 5 [(0, .ref v0), (2, .int v2), (3, .int v3)] → W p l e rm_X11_judge s m args below meth c H locs 0 0 Q (F0 m 28 ls []) := by
  obtain ⟨hx, hb, hr, hml, hown, hts, hlocks, hKn⟩ := id X
  have hK := hKn.1
  have gclX11 : gcl [9] TX11 8 wsX11_judge := gcl_1 rfl (fun _ h => List.mem_cons_of_mem _ (List.mem_append_left _ (List.mem_append_right _ h)))
  intro n
  induction n with
  | zero =>
    intro v2 v3 hf
    cases hf
  | succ n ih =>
    intro v2 v3 hf hk63 hk74 H locs ls hG hS hl
    rw [L_X11_judge_28.eq_2] at hf
    refine lv_iload_n hx hb dX11_judge_28 rfl (lv_at hl 2 rfl) ?_
    refine lv_aload_n hx hb dX11_judge_29 rfl (lv_at hl 0 rfl) ?_
    obtain ⟨t30, ht30, hf⟩ := gb_b hf
    refine cp_get (v := .int t30) hx hb hts gclX11 hown hK hG 6 (gfI_s ht30) (by decide) (hts _ (List.mem_of_getElem? (i := 2) rfl)) (fun _ h9 => h9) dX11_judge_30 ?_
    refine lv_icmp_ge (tgt := 74) hx hb dX11_judge_33 (by decide) (fun c33 => ?_) (fun c33 => ?_)
    · have hf := gb_t c33 hf
      exact (hk74 _ hf _ _ _ hG hS (lv_sub hl [] rfl))
    · have hf := gb_f c33 hf
      refine lv_aload_n hx hb dX11_judge_36 rfl (lv_at hl 0 rfl) ?_
      refine lv_iload_n hx hb dX11_judge_37 rfl (lv_at hl 2 rfl) ?_
      obtain ⟨o38, hc38, hf⟩ := gb_b hf
      obtain ⟨oc38, hcO38, hc38⟩ := gb_b hc38
      obtain ⟨hcg38, hci38⟩ := gfO_s hcO38
      have hci38 := List.mem_singleton.mp hci38
      obtain ⟨kc38, fc38⟩ := oc38
      dsimp only at hci38 hcg38
      subst hci38
      refine gp_callI (va_runV (As := [.int v3]) (rest := []) ⟨hx, hb, hml, hown, hts⟩ (c_X11_inRowAt (l := l) (D := D) (b := b) (cI := cI) (cL := cL) hc38) (cwV 1 hts gX11_judge_X11_inRowAt rfl rfl rfl (by decide +kernel) ⟨Nat.le_of_ble_eq_true rfl, Nat.le_of_ble_eq_true rfl⟩) (gp_preV hKn hG (cp_obj hcg38) rfl) rfl rfl hl.1 rfl (lv_room (Nat.le_of_ble_eq_true rfl)) dX11_judge_38 ⟨Nat.le_of_ble_eq_true rfl, Nat.le_of_ble_eq_true rfl⟩) hS (fun H locs hG hS => ?_)
      refine lv_istore (lv' := [(4, .int o38), (0, .ref v0), (2, .int v2), (3, .int v3)]) hx hb dX11_judge_41 hl (by decide) rfl (fun ls hl => ?_)
      refine lv_iload_n hx hb dX11_judge_43 rfl (lv_at hl 2 rfl) ?_
      refine lv_iconst (v := 1) hx hb dX11_judge_44 (by decide) ?_
      refine lv_aload_n hx hb dX11_judge_45 rfl (lv_at hl 1 rfl) ?_
      obtain ⟨t46, ht46, hf⟩ := gb_b hf
      refine cp_get (v := va_rf t46) hx hb hts gclX11 hown hK hG 4 (gfR_s ht46) (by decide) (hts _ (List.mem_of_getElem? (i := 1) rfl)) (fun _ h9 => h9) dX11_judge_46 ?_
      obtain ⟨q49, hq49, hf⟩ := gb_b hf
      rw [hq49]
      obtain ⟨o49, hc49, hf⟩ := gb_b hf
      obtain ⟨oc49, hcO49, hc49⟩ := gb_b hc49
      obtain ⟨hcg49, hci49⟩ := gfO_s hcO49
      have hci49 := List.mem_singleton.mp hci49
      obtain ⟨kc49, fc49⟩ := oc49
      dsimp only at hci49 hcg49
      subst hci49
      refine gp_callL (va_runV (As := []) (rest := [.int 1, .int v2]) ⟨hx, hb, hml, hown, hts⟩ (c_X10_free (l := l) (D := D) (b := b) (cI := cI) (cL := cL) hc49) (cwV 0 hts gX11_judge_X10_free rfl rfl rfl (by decide +kernel) ⟨Nat.le_of_ble_eq_true rfl, Nat.le_of_ble_eq_true rfl⟩) (gp_preV hKn hG (cp_obj hcg49) rfl) rfl rfl hl.1 rfl (lv_room (Nat.le_of_ble_eq_true rfl)) dX11_judge_49 ⟨Nat.le_of_ble_eq_true rfl, Nat.le_of_ble_eq_true rfl⟩) hS (fun H locs hG hS => ?_)
      obtain ⟨o52, hc52, hf⟩ := gb_b hf
      refine gp_callL (va_runS (As := [.int v2, .int 1, .long o49]) (rest := []) ⟨hx, hb, hml, hown, hts⟩ (c_X2_within (l := l) (D := D) (b := b) (cI := cI) (cL := cL) hc52) (va_cwS 3 hts gX11_judge_X2_within rfl rfl rfl (by decide +kernel) ⟨Nat.le_of_ble_eq_true rfl, Nat.le_of_ble_eq_true rfl⟩) (gp_preS hKn hG) rfl rfl hl.1 rfl (lv_room (Nat.le_of_ble_eq_true rfl)) dX11_judge_52 ⟨Nat.le_of_ble_eq_true rfl, Nat.le_of_ble_eq_true rfl⟩) hS (fun H locs hG hS => ?_)
      refine lv_iload hx hb dX11_judge_55 (lv_at hl 0 rfl) ?_
      obtain ⟨o57, hc57, hf⟩ := gb_b hf
      refine gp_callI (va_runS (As := [.long o52, .int o38]) (rest := []) ⟨hx, hb, hml, hown, hts⟩ (c_X2_has (l := l) (D := D) (b := b) (cI := cI) (cL := cL) hc57) (va_cwS 2 hts gX11_judge_X2_has rfl rfl rfl (by decide +kernel) ⟨Nat.le_of_ble_eq_true rfl, Nat.le_of_ble_eq_true rfl⟩) (gp_preS hKn hG) rfl rfl hl.1 rfl (lv_room (Nat.le_of_ble_eq_true rfl)) dX11_judge_57 ⟨Nat.le_of_ble_eq_true rfl, Nat.le_of_ble_eq_true rfl⟩) hS (fun H locs hG hS => ?_)
      refine lv_if_ne (tgt := 65) hx hb dX11_judge_60 (by decide) (fun c60 => ?_) (fun c60 => ?_)
      · have hf := gb_f c60 hf
        refine lv_iload hx hb dX11_judge_65 (lv_at hl 0 rfl) ?_
        refine lv_istore_n (lv' := [(2, .int o38), (4, .int o38), (0, .ref v0), (3, .int v3)]) hx hb dX11_judge_67 rfl hl (by decide) rfl (fun ls hl => ?_)
        refine lv_iinc (v := v3 + 1) (lv' := [(3, .int (v3 + 1)), (2, .int o38), (4, .int o38), (0, .ref v0)]) hx hb dX11_judge_68 hl (k := 3) rfl rfl (by decide) rfl (fun ls hl => ?_)
        refine lv_goto (tgt := 28) hx hb dX11_judge_71 (by decide) ?_
        exact ih _ _ hf hk63 hk74 _ _ _ hG hS (lv_sub hl [3, 1, 0] rfl)
      · have hf := gb_t c60 hf
        exact (hk63 _ hf _ _ _ hG hS (lv_sub hl [3] rfl))
def f_X11_judge (gv : Nat → GV) (h0 : Nat) (v1 : Int32) : Option (Int32 × (Nat → GV)) :=
  (gfR gv h0 [9] 4).bind fun t1 => t1.bind fun q5 => ((gfO gv q5 [8]).bind fun _ => f_X10_isPerson gv q5 v1).bind fun o5 => if o5 = 0 then ((gfO gv h0 [9]).bind fun _ => f_X11_refuse gv h0 (-1 : Int32)).bind fun o13 => some (o13.1, o13.2) else (gfR gv h0 [9] 4).bind fun t18 => t18.bind fun q22 => ((gfO gv q22 [8]).bind fun _ => f_X10_cellOf gv q22 v1).bind fun o22 => L_X11_judge_28 (fun x28_63 => some (x28_63, gv)) (fun x28_74 => some ((-9 : Int32), gv)) gv h0 gF o22 0
set_option maxHeartbeats 4000000 in
set_option maxRecDepth 100000 in
theorem c_X11_judge {v1 : Int32} {R : Int32 × (Nat → GV)} (hf : f_X11_judge gv h0 v1 = some R) : Met l yX11_judge wsX11_judge rm_X11_judge (va_Pc [.ref h0, .int v1] (gPre D b M (gW cI cL gv) (gTy cI cL))) (gQ D b (some (.int R.1)) M (gW cI cL R.2)) 0 0 (gA b) := by
  refine gp_met (cc := cX11_judge) (maxL := 5) (ret := (some .int)) (by decide) rfl (Nat.le_of_ble_eq_true rfl) ?_
  intro p e s m below meth c X ls hG hl
  obtain ⟨H, hH0⟩ : ∃ H : Heap, H = s.heap := ⟨_, rfl⟩
  rw [← hH0] at hG ⊢
  have hS : va_S (gA b) s.heap H [] := by rw [hH0]; exact va_S.rf
  obtain ⟨locs, hlo⟩ : ∃ z : List Loc, z = [] := ⟨_, rfl⟩
  rw [← hlo] at hS ⊢
  unfold f_X11_judge at hf
  obtain ⟨hx, hb, hr, hml, hown, hts, hlocks, hKn⟩ := id X
  have hK := hKn.1
  have gclX11 : gcl [9] TX11 8 wsX11_judge := gcl_1 rfl (fun _ h => List.mem_cons_of_mem _ (List.mem_append_left _ (List.mem_append_right _ h)))
  have hl : lv_has ls 5 [(0, .ref h0), (1, .int v1)] := hl
  refine lv_aload_n hx hb dX11_judge_0 rfl (lv_at hl 0 rfl) ?_
  obtain ⟨t1, ht1, hf⟩ := gb_b hf
  refine cp_get (v := va_rf t1) hx hb hts gclX11 hown hK hG 4 (gfR_s ht1) (by decide) (hts _ (List.mem_of_getElem? (i := 1) rfl)) (fun _ h9 => h9) dX11_judge_1 ?_
  refine lv_iload_n hx hb dX11_judge_4 rfl (lv_at hl 1 rfl) ?_
  obtain ⟨q5, hq5, hf⟩ := gb_b hf
  rw [hq5]
  obtain ⟨o5, hc5, hf⟩ := gb_b hf
  obtain ⟨oc5, hcO5, hc5⟩ := gb_b hc5
  obtain ⟨hcg5, hci5⟩ := gfO_s hcO5
  have hci5 := List.mem_singleton.mp hci5
  obtain ⟨kc5, fc5⟩ := oc5
  dsimp only at hci5 hcg5
  subst hci5
  refine gp_callI (va_runV (As := [.int v1]) (rest := []) ⟨hx, hb, hml, hown, hts⟩ (c_X10_isPerson (l := l) (D := D) (b := b) (cI := cI) (cL := cL) hc5) (cwV 1 hts gX11_judge_X10_isPerson rfl rfl rfl (by decide +kernel) ⟨Nat.le_of_ble_eq_true rfl, Nat.le_of_ble_eq_true rfl⟩) (gp_preV hKn hG (cp_obj hcg5) rfl) rfl rfl hl.1 rfl (lv_room (Nat.le_of_ble_eq_true rfl)) dX11_judge_5 ⟨Nat.le_of_ble_eq_true rfl, Nat.le_of_ble_eq_true rfl⟩) hS (fun H locs hG hS => ?_)
  refine lv_if_ne (tgt := 17) hx hb dX11_judge_8 (by decide) (fun c8 => ?_) (fun c8 => ?_)
  · have hf := gb_f c8 hf
    refine lv_aload_n hx hb dX11_judge_17 rfl (lv_at hl 0 rfl) ?_
    obtain ⟨t18, ht18, hf⟩ := gb_b hf
    refine cp_get (v := va_rf t18) hx hb hts gclX11 hown hK hG 4 (gfR_s ht18) (by decide) (hts _ (List.mem_of_getElem? (i := 1) rfl)) (fun _ h9 => h9) dX11_judge_18 ?_
    refine lv_iload_n hx hb dX11_judge_21 rfl (lv_at hl 1 rfl) ?_
    obtain ⟨q22, hq22, hf⟩ := gb_b hf
    rw [hq22]
    obtain ⟨o22, hc22, hf⟩ := gb_b hf
    obtain ⟨oc22, hcO22, hc22⟩ := gb_b hc22
    obtain ⟨hcg22, hci22⟩ := gfO_s hcO22
    have hci22 := List.mem_singleton.mp hci22
    obtain ⟨kc22, fc22⟩ := oc22
    dsimp only at hci22 hcg22
    subst hci22
    refine gp_callI (va_runV (As := [.int v1]) (rest := []) ⟨hx, hb, hml, hown, hts⟩ (c_X10_cellOf (l := l) (D := D) (b := b) (cI := cI) (cL := cL) hc22) (cwV 1 hts gX11_judge_X10_cellOf rfl rfl rfl (by decide +kernel) ⟨Nat.le_of_ble_eq_true rfl, Nat.le_of_ble_eq_true rfl⟩) (gp_preV hKn hG (cp_obj hcg22) rfl) rfl rfl hl.1 rfl (lv_room (Nat.le_of_ble_eq_true rfl)) dX11_judge_22 ⟨Nat.le_of_ble_eq_true rfl, Nat.le_of_ble_eq_true rfl⟩) hS (fun H locs hG hS => ?_)
    refine lv_istore_n (lv' := [(2, .int o22), (0, .ref h0), (1, .int v1)]) hx hb dX11_judge_25 rfl hl (by decide) rfl (fun ls hl => ?_)
    refine lv_iconst (v := 0) hx hb dX11_judge_26 (by decide) ?_
    refine lv_istore_n (lv' := [(3, .int 0), (2, .int o22), (0, .ref h0), (1, .int v1)]) hx hb dX11_judge_27 rfl hl (by decide) rfl (fun ls hl => ?_)
    refine w_X11_judge_28 X _ _ _ hf (fun x28_63 hf H locs ls hG hS hl => ?_) (fun x28_74 hf H locs ls hG hS hl => ?_) _ _ _ hG hS (lv_sub hl [2, 1, 0] rfl)
    · refine lv_iload_n hx hb dX11_judge_63 rfl (lv_at hl 0 rfl) ?_
      cases hf
      exact gp_retI hx hb hr hlocks hG hS (Nat.le_of_ble_eq_true rfl) (Nat.le_of_ble_eq_true rfl) dX11_judge_64
    · refine lv_bipush (v := (-9 : Int32)) hx hb dX11_judge_74 (by decide) ?_
      cases hf
      exact gp_retI hx hb hr hlocks hG hS (Nat.le_of_ble_eq_true rfl) (Nat.le_of_ble_eq_true rfl) dX11_judge_76
  · have hf := gb_t c8 hf
    refine lv_aload_n hx hb dX11_judge_11 rfl (lv_at hl 0 rfl) ?_
    refine lv_iconst (v := (-1 : Int32)) hx hb dX11_judge_12 (by decide) ?_
    obtain ⟨o13, hc13, hf⟩ := gb_b hf
    obtain ⟨oc13, hcO13, hc13⟩ := gb_b hc13
    obtain ⟨hcg13, hci13⟩ := gfO_s hcO13
    have hci13 := List.mem_singleton.mp hci13
    obtain ⟨kc13, fc13⟩ := oc13
    dsimp only at hci13 hcg13
    subst hci13
    refine gp_callI (va_runV (As := [.int (-1 : Int32)]) (rest := []) ⟨hx, hb, hml, hown, hts⟩ (c_X11_refuse (l := l) (D := D) (b := b) (cI := cI) (cL := cL) hc13) (cwV 1 hts gX11_judge_X11_refuse rfl rfl rfl (by decide +kernel) ⟨Nat.le_of_ble_eq_true rfl, Nat.le_of_ble_eq_true rfl⟩) (gp_preV hKn hG (cp_obj hcg13) rfl) rfl rfl hl.1 rfl (lv_room (Nat.le_of_ble_eq_true rfl)) dX11_judge_13 ⟨Nat.le_of_ble_eq_true rfl, Nat.le_of_ble_eq_true rfl⟩) hS (fun H locs hG hS => ?_)
    cases hf
    exact gp_retI hx hb hr hlocks hG hS (Nat.le_of_ble_eq_true rfl) (Nat.le_of_ble_eq_true rfl) dX11_judge_16
end
