set_option maxHeartbeats 8000000 in
set_option maxRecDepth 100000 in
/-- the law, from its entry: both objects made, then script by script -/
theorem whole_start {p : Program} {e : Env} {s : State} {m : MethodId} {below : List Frame} {meth : Method} {c : Code} (l : Launch) (hflags : l.flags = flags0) {b L : Nat} {xs : Nat → Int32} (hL : L ≤ 2048) (C0 : lw_At p s m meth c b L xs) : W p l e room_1 s m #[Value.ref b] below meth c s.heap [] 0 0 (lw_Z below #[Value.ref b] s) (entryFrame m ([Value.ref b] : List Value).toArray 4) := by
  obtain ⟨hx, hb, hr, hml, hown, hts0, hX, hbl, hlocks, hgv⟩ := id C0
  have hown : s.vm.findClass RL = some m.cls := hown
  obtain ⟨D, gb, cI, cL, hgb, hgb2, hKn⟩ := start_kn hts0 hgv
  have hK := hKn.1
  have hts : ∀ w ∈ wsL_law, w.before #[Value.ref b] s = true := fun w h => hts0 w (wsL_law_in w h)
  have hbA : ¬ gA gb b := fun h => by
    have h : gb.1 ≤ b := h
    omega
  have hS : va_S (gA gb) s.heap s.heap [] := va_S.rf
  obtain ⟨M, hM⟩ : ∃ M, M = s.heap.size := ⟨_, rfl⟩
  have hG : GP D gb M (gW cI cL gv0) s.heap := ⟨by omega, hM.symm, fun a h => absurd (show gW cI cL gv0 a = gJ from rfl) h, fun q _ => by rw [hgb2]⟩
  obtain ⟨g1, g2, e1, e2, hR⟩ := init_rel (M := M)
  have hl := lv_entry ([.ref b]) (n := 4) (Nat.le_of_ble_eq_true rfl)
  rw [lg_entry_eq]
  generalize (lg_sl ([.ref b]) ++ List.replicate (4 - (lg_sl ([.ref b])).length) Slot.unset).toArray = ls at hl ⊢
  have hl : lv_has ls 4 [(0, .ref b)] := hl
  have hCC : lC p s m meth c b L xs D gb cI cL := ⟨hx, hb, hr, hml, hown, hts0, hX, hbl, hbA, hlocks, hgb, hKn⟩
  refine gp_new (ci := 9) (fs := [.null, .null, .null, .null, .null, .null, .int 0, .int 0]) (C := RX11) (T := TX11) (N := 8) (g1 := gW cI cL (va_up gv0 M (.inl (9, [.null, .null, .null, .null, .null, .null, .int 0, .int 0])))) hx hb hts0 wsL_in_X110 tyX11 tyX11_ok hown (hts0 _ (wsL_in_1 _ (List.mem_of_getElem? (i := 0) rfl))) (hts0 _ (wsL_in_1 _ (List.mem_of_getElem? (i := 1) rfl))) (hts0 _ (wsL_in_1 _ (List.mem_of_getElem? (i := 2) rfl))) hK hG hS rfl (by intro j hj; rcases (show j = 0 ∨ j = 1 ∨ j = 2 ∨ j = 3 ∨ j = 4 ∨ j = 5 ∨ j = 6 ∨ j = 7 by omega) with rfl | rfl | rfl | rfl | rfl | rfl | rfl | rfl <;> rfl) (Nat.le_of_ble_eq_true rfl) (Nat.le_of_ble_eq_true rfl) (gW_up (e := .inl (9, [.null, .null, .null, .null, .null, .null, .int 0, .int 0]))) dL_law_0 (fun H hG hS => ?_)
  refine lv_dup hx hb dL_law_3 rfl ?_
  refine gp_callV (va_runI (As := []) (rest := [.ref M]) ⟨hx, hb, hml, hown, hts⟩ (c_X11_init (l := l) (D := D) (b := gb) (cI := cI) (cL := cL) e1) (cwI 0 hts gL_law_X11_init rfl rfl rfl (hts0 _ (wsL_in_1 _ (List.mem_of_getElem? (i := 2) rfl))) (hts0 _ (wsL_in_1 _ (List.mem_of_getElem? (i := 6) rfl))) (hts0 _ (wsL_in_1 _ (List.mem_of_getElem? (i := 7) rfl))) rfl (by decide +kernel) ⟨Nat.le_of_ble_eq_true rfl, Nat.le_of_ble_eq_true rfl⟩) (gp_preS hKn hG) rfl rfl hl.1 rfl (lv_room (Nat.le_of_ble_eq_true rfl)) dL_law_4 ⟨Nat.le_of_ble_eq_true rfl, Nat.le_of_ble_eq_true rfl⟩) hS (fun H locs hG hS => ?_)
  refine lv_astore_n (lv' := [(1, .ref M), (0, .ref b)]) hx hb dL_law_7 rfl hl (by decide) rfl (fun ls hl => ?_)
  refine gp_new (ci := 10) (fs := [.null, .null, .null, .null, .null, .null, .null, .null, .null, .null, .null, .int 0, .int 0, .int 0, .null, .null, .null, .null, .int 0, .int 0, .int 0, .null, .int 0, .int 0, .int 0, .null, .null, .null, .int 0, .null, .null, .null, .int 0]) (C := RX12) (T := TX12) (N := 33) (g1 := gW cI cL (va_up g1 (M + 14) (.inl (10, [.null, .null, .null, .null, .null, .null, .null, .null, .null, .null, .null, .int 0, .int 0, .int 0, .null, .null, .null, .null, .int 0, .int 0, .int 0, .null, .int 0, .int 0, .int 0, .null, .null, .null, .int 0, .null, .null, .null, .int 0])))) hx hb hts0 wsL_in_X120 tyX12 tyX12_ok hown (hts0 _ (wsL_in_1 _ (List.mem_of_getElem? (i := 3) rfl))) (hts0 _ (wsL_in_1 _ (List.mem_of_getElem? (i := 4) rfl))) (hts0 _ (wsL_in_1 _ (List.mem_of_getElem? (i := 5) rfl))) hK hG hS rfl (by intro j hj; rcases (show j = 0 ∨ j = 1 ∨ j = 2 ∨ j = 3 ∨ j = 4 ∨ j = 5 ∨ j = 6 ∨ j = 7 ∨ j = 8 ∨ j = 9 ∨ j = 10 ∨ j = 11 ∨ j = 12 ∨ j = 13 ∨ j = 14 ∨ j = 15 ∨ j = 16 ∨ j = 17 ∨ j = 18 ∨ j = 19 ∨ j = 20 ∨ j = 21 ∨ j = 22 ∨ j = 23 ∨ j = 24 ∨ j = 25 ∨ j = 26 ∨ j = 27 ∨ j = 28 ∨ j = 29 ∨ j = 30 ∨ j = 31 ∨ j = 32 by omega) with rfl | rfl | rfl | rfl | rfl | rfl | rfl | rfl | rfl | rfl | rfl | rfl | rfl | rfl | rfl | rfl | rfl | rfl | rfl | rfl | rfl | rfl | rfl | rfl | rfl | rfl | rfl | rfl | rfl | rfl | rfl | rfl | rfl <;> rfl) (Nat.le_of_ble_eq_true rfl) (Nat.le_of_ble_eq_true rfl) (gW_up (e := .inl (10, [.null, .null, .null, .null, .null, .null, .null, .null, .null, .null, .null, .int 0, .int 0, .int 0, .null, .null, .null, .null, .int 0, .int 0, .int 0, .null, .int 0, .int 0, .int 0, .null, .null, .null, .int 0, .null, .null, .null, .int 0]))) dL_law_8 (fun H hG hS => ?_)
  refine lv_dup hx hb dL_law_11 rfl ?_
  refine gp_callV (va_runI (As := []) (rest := [.ref (M + 14)]) ⟨hx, hb, hml, hown, hts⟩ (c_X12_init (l := l) (D := D) (b := gb) (cI := cI) (cL := cL) e2) (cwI 0 hts gL_law_X12_init rfl rfl rfl (hts0 _ (wsL_in_1 _ (List.mem_of_getElem? (i := 5) rfl))) (hts0 _ (wsL_in_2 _ (List.mem_of_getElem? (i := 11) rfl))) (hts0 _ (wsL_in_2 _ (List.mem_of_getElem? (i := 12) rfl))) rfl (by decide +kernel) ⟨Nat.le_of_ble_eq_true rfl, Nat.le_of_ble_eq_true rfl⟩) (gp_preS hKn hG) rfl rfl hl.1 rfl (lv_room (Nat.le_of_ble_eq_true rfl)) dL_law_12 ⟨Nat.le_of_ble_eq_true rfl, Nat.le_of_ble_eq_true rfl⟩) hS (fun H locs hG hS => ?_)
  refine lv_astore_n (lv' := [(2, .ref (M + 14)), (1, .ref M), (0, .ref b)]) hx hb dL_law_15 rfl hl (by decide) rfl (fun ls hl => ?_)
  refine lv_iconst (v := 0) hx hb dL_law_16 (by decide) ?_
  refine lv_istore_n (lv' := [(3, .int 0), (2, .ref (M + 14)), (1, .ref M), (0, .ref b)]) hx hb dL_law_17 rfl hl (by decide) rfl (fun ls hl => ?_)
  exact law_loop hL hCC 512 0 0 _ _ _ _ _ _ _ _ _ _ _ _ _ _ _ _ _ _ _ _ _ _ _ _ _ _ _ _ _ _ _ _ _ _ _ _ _ _ _ _ (by omega) (by omega) rfl (by omega) (by omega) hR hG hS (lv_sub hl [3, 2, 1, 0] rfl)
