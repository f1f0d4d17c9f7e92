section
variable {p : Program} {l : Launch} {e : Env} {s : State} {m : MethodId} {args : Array Value} {below : List Frame} {meth : Method} {c : Code} {D : va_G} {b : GB} {M : Nat} {cI cL : ClassId} {h0 : Nat} {gv : Nat → GV} {gh : Nat → va_E} {Q : State → Prop}
-- X12_init
abbrev rm_X12_init : Room := { frames := 1, cells := 22, slots := 1367, locals := 28 }
set_option maxHeartbeats 4000000 in
set_option maxRecDepth 100000 in
theorem c_X12_init {R : (Nat → GV) × Nat} (hf : f_X12_init gv M h0 = some R) : Met l yX12_init wsX12_init rm_X12_init (va_Pc [.ref h0] (gPre D b M (gW cI cL gv) (gTy cI cL))) (gQ D b none R.2 (gW cI cL R.1)) 22 1367 (gA b) := by
  refine gp_metI (cc := cX12_init) (maxL := 1) (ret := none) (by decide) rfl (Nat.le_of_ble_eq_true rfl) ?_
  intro p e s m below meth c X hin0 ls hG hl
  obtain ⟨H, hH0⟩ : ∃ H : Heap, H = s.heap := ⟨_, rfl⟩
  rw [← hH0] at hG ⊢
  have hS : va_S (gA b) s.heap H [] := by rw [hH0]; exact va_S.rf
  obtain ⟨locs, hlo⟩ : ∃ z : List Loc, z = [] := ⟨_, rfl⟩
  rw [← hlo] at hS ⊢
  unfold f_X12_init at hf
  obtain ⟨hx, hb, hr, hml, hown, hts, hlocks, hKn, hBs⟩ := id X
  have hK := hKn.1
  have gclX12 : gcl [10] TX12 33 wsX12_init := gcl_1 rfl (fun _ h => List.mem_cons_of_mem _ (List.mem_append_right _ h))
  have hl : lv_has ls 1 [(0, .ref h0)] := hl
  refine lv_aload_n hx hb dX12_init_0 rfl (lv_at hl 0 rfl) ?_
  refine W.objInit hx hb hown (hts _ (List.mem_of_getElem? (i := 1) rfl)) (hts _ (List.mem_of_getElem? (i := 2) rfl)) (hts _ (List.mem_of_getElem? (i := 3) rfl)) rfl (by rw [hml]; exact hl.1) rfl dX12_init_1 (Nat.le_of_ble_eq_true rfl) (Nat.le_of_ble_eq_true rfl) ?_
  refine W.eq (g2 := F0 m 4 ls []) rfl ?_
  refine lv_aload_n hx hb dX12_init_4 rfl (lv_at hl 0 rfl) ?_
  refine lv_bipush (v := 7) hx hb dX12_init_5 (by decide) ?_
  refine gp_newa (N' := 7) (g1 := gW cI cL (va_up gv M (.inr (.inl (7, fun _ => 0))))) hx hb (hts _ (List.mem_of_getElem? (i := 4) rfl)) hK hG hS (by decide) (by decide) (by decide) (Nat.le_of_ble_eq_true rfl) (Nat.le_of_ble_eq_true rfl) (gW_up (e := .inr (.inl (7, fun _ => 0)))) dX12_init_7 (fun H hG hS => ?_)
  obtain ⟨g9, ht9, hf⟩ := gb_b hf
  refine cp_putF (tyk := .array .int) hx hb hts gclX12 tyX12 tyX12_ok nmX12 hown hK hG hS 0 ht9 (by decide) (hts _ (List.mem_of_getElem? (i := 5) rfl)) (fun _ h9 => h9) rfl hin0 rfl (by decide +kernel) rfl rfl dX12_init_9 (fun H locs hG hS => ?_)
  refine lv_aload_n hx hb dX12_init_12 rfl (lv_at hl 0 rfl) ?_
  refine lv_bipush (v := 36) hx hb dX12_init_13 (by decide) ?_
  refine gp_newa (N' := 36) (g1 := gW cI cL (va_up g9 (M + 1) (.inr (.inl (36, fun _ => 0))))) hx hb (hts _ (List.mem_of_getElem? (i := 4) rfl)) hK hG hS (by decide) (by decide) (by decide) (Nat.le_of_ble_eq_true rfl) (Nat.le_of_ble_eq_true rfl) (gW_up (e := .inr (.inl (36, fun _ => 0)))) dX12_init_15 (fun H hG hS => ?_)
  obtain ⟨g17, ht17, hf⟩ := gb_b hf
  refine cp_putF (tyk := .array .int) hx hb hts gclX12 tyX12 tyX12_ok nmX12 hown hK hG hS 1 ht17 (by decide) (hts _ (List.mem_of_getElem? (i := 6) rfl)) (fun _ h9 => h9) rfl hin0 rfl (by decide +kernel) rfl rfl dX12_init_17 (fun H locs hG hS => ?_)
  refine lv_aload_n hx hb dX12_init_20 rfl (lv_at hl 0 rfl) ?_
  refine lv_bipush (v := 6) hx hb dX12_init_21 (by decide) ?_
  refine gp_newa (N' := 6) (g1 := gW cI cL (va_up g17 ((M + 1) + 1) (.inr (.inl (6, fun _ => 0))))) hx hb (hts _ (List.mem_of_getElem? (i := 4) rfl)) hK hG hS (by decide) (by decide) (by decide) (Nat.le_of_ble_eq_true rfl) (Nat.le_of_ble_eq_true rfl) (gW_up (e := .inr (.inl (6, fun _ => 0)))) dX12_init_23 (fun H hG hS => ?_)
  obtain ⟨g25, ht25, hf⟩ := gb_b hf
  refine cp_putF (tyk := .array .int) hx hb hts gclX12 tyX12 tyX12_ok nmX12 hown hK hG hS 2 ht25 (by decide) (hts _ (List.mem_of_getElem? (i := 7) rfl)) (fun _ h9 => h9) rfl hin0 rfl (by decide +kernel) rfl rfl dX12_init_25 (fun H locs hG hS => ?_)
  refine lv_aload_n hx hb dX12_init_28 rfl (lv_at hl 0 rfl) ?_
  refine lv_bipush (v := 6) hx hb dX12_init_29 (by decide) ?_
  refine gp_newa (N' := 6) (g1 := gW cI cL (va_up g25 (((M + 1) + 1) + 1) (.inr (.inl (6, fun _ => 0))))) hx hb (hts _ (List.mem_of_getElem? (i := 4) rfl)) hK hG hS (by decide) (by decide) (by decide) (Nat.le_of_ble_eq_true rfl) (Nat.le_of_ble_eq_true rfl) (gW_up (e := .inr (.inl (6, fun _ => 0)))) dX12_init_31 (fun H hG hS => ?_)
  obtain ⟨g33, ht33, hf⟩ := gb_b hf
  refine cp_putF (tyk := .array .int) hx hb hts gclX12 tyX12 tyX12_ok nmX12 hown hK hG hS 3 ht33 (by decide) (hts _ (List.mem_of_getElem? (i := 8) rfl)) (fun _ h9 => h9) rfl hin0 rfl (by decide +kernel) rfl rfl dX12_init_33 (fun H locs hG hS => ?_)
  refine lv_aload_n hx hb dX12_init_36 rfl (lv_at hl 0 rfl) ?_
  refine lv_bipush (v := 6) hx hb dX12_init_37 (by decide) ?_
  refine gp_newa (N' := 6) (g1 := gW cI cL (va_up g33 ((((M + 1) + 1) + 1) + 1) (.inr (.inl (6, fun _ => 0))))) hx hb (hts _ (List.mem_of_getElem? (i := 4) rfl)) hK hG hS (by decide) (by decide) (by decide) (Nat.le_of_ble_eq_true rfl) (Nat.le_of_ble_eq_true rfl) (gW_up (e := .inr (.inl (6, fun _ => 0)))) dX12_init_39 (fun H hG hS => ?_)
  obtain ⟨g41, ht41, hf⟩ := gb_b hf
  refine cp_putF (tyk := .array .int) hx hb hts gclX12 tyX12 tyX12_ok nmX12 hown hK hG hS 4 ht41 (by decide) (hts _ (List.mem_of_getElem? (i := 9) rfl)) (fun _ h9 => h9) rfl hin0 rfl (by decide +kernel) rfl rfl dX12_init_41 (fun H locs hG hS => ?_)
  refine lv_aload_n hx hb dX12_init_44 rfl (lv_at hl 0 rfl) ?_
  refine lv_bipush (v := 6) hx hb dX12_init_45 (by decide) ?_
  refine gp_newa (N' := 6) (g1 := gW cI cL (va_up g41 (((((M + 1) + 1) + 1) + 1) + 1) (.inr (.inl (6, fun _ => 0))))) hx hb (hts _ (List.mem_of_getElem? (i := 4) rfl)) hK hG hS (by decide) (by decide) (by decide) (Nat.le_of_ble_eq_true rfl) (Nat.le_of_ble_eq_true rfl) (gW_up (e := .inr (.inl (6, fun _ => 0)))) dX12_init_47 (fun H hG hS => ?_)
  obtain ⟨g49, ht49, hf⟩ := gb_b hf
  refine cp_putF (tyk := .array .int) hx hb hts gclX12 tyX12 tyX12_ok nmX12 hown hK hG hS 5 ht49 (by decide) (hts _ (List.mem_of_getElem? (i := 10) rfl)) (fun _ h9 => h9) rfl hin0 rfl (by decide +kernel) rfl rfl dX12_init_49 (fun H locs hG hS => ?_)
  refine lv_aload_n hx hb dX12_init_52 rfl (lv_at hl 0 rfl) ?_
  refine lv_bipush (v := 6) hx hb dX12_init_53 (by decide) ?_
  refine gp_newa (N' := 6) (g1 := gW cI cL (va_up g49 ((((((M + 1) + 1) + 1) + 1) + 1) + 1) (.inr (.inl (6, fun _ => 0))))) hx hb (hts _ (List.mem_of_getElem? (i := 4) rfl)) hK hG hS (by decide) (by decide) (by decide) (Nat.le_of_ble_eq_true rfl) (Nat.le_of_ble_eq_true rfl) (gW_up (e := .inr (.inl (6, fun _ => 0)))) dX12_init_55 (fun H hG hS => ?_)
  obtain ⟨g57, ht57, hf⟩ := gb_b hf
  refine cp_putF (tyk := .array .int) hx hb hts gclX12 tyX12 tyX12_ok nmX12 hown hK hG hS 6 ht57 (by decide) (hts _ (List.mem_of_getElem? (i := 11) rfl)) (fun _ h9 => h9) rfl hin0 rfl (by decide +kernel) rfl rfl dX12_init_57 (fun H locs hG hS => ?_)
  refine lv_aload_n hx hb dX12_init_60 rfl (lv_at hl 0 rfl) ?_
  refine lv_bipush (v := 54) hx hb dX12_init_61 (by decide) ?_
  refine gp_newa (N' := 54) (g1 := gW cI cL (va_up g57 (((((((M + 1) + 1) + 1) + 1) + 1) + 1) + 1) (.inr (.inl (54, fun _ => 0))))) hx hb (hts _ (List.mem_of_getElem? (i := 4) rfl)) hK hG hS (by decide) (by decide) (by decide) (Nat.le_of_ble_eq_true rfl) (Nat.le_of_ble_eq_true rfl) (gW_up (e := .inr (.inl (54, fun _ => 0)))) dX12_init_63 (fun H hG hS => ?_)
  obtain ⟨g65, ht65, hf⟩ := gb_b hf
  refine cp_putF (tyk := .array .int) hx hb hts gclX12 tyX12 tyX12_ok nmX12 hown hK hG hS 7 ht65 (by decide) (hts _ (List.mem_of_getElem? (i := 12) rfl)) (fun _ h9 => h9) rfl hin0 rfl (by decide +kernel) rfl rfl dX12_init_65 (fun H locs hG hS => ?_)
  refine lv_aload_n hx hb dX12_init_68 rfl (lv_at hl 0 rfl) ?_
  refine lv_bipush (v := 54) hx hb dX12_init_69 (by decide) ?_
  refine gp_newa (N' := 54) (g1 := gW cI cL (va_up g65 ((((((((M + 1) + 1) + 1) + 1) + 1) + 1) + 1) + 1) (.inr (.inl (54, fun _ => 0))))) hx hb (hts _ (List.mem_of_getElem? (i := 4) rfl)) hK hG hS (by decide) (by decide) (by decide) (Nat.le_of_ble_eq_true rfl) (Nat.le_of_ble_eq_true rfl) (gW_up (e := .inr (.inl (54, fun _ => 0)))) dX12_init_71 (fun H hG hS => ?_)
  obtain ⟨g73, ht73, hf⟩ := gb_b hf
  refine cp_putF (tyk := .array .int) hx hb hts gclX12 tyX12 tyX12_ok nmX12 hown hK hG hS 8 ht73 (by decide) (hts _ (List.mem_of_getElem? (i := 13) rfl)) (fun _ h9 => h9) rfl hin0 rfl (by decide +kernel) rfl rfl dX12_init_73 (fun H locs hG hS => ?_)
  refine lv_aload_n hx hb dX12_init_76 rfl (lv_at hl 0 rfl) ?_
  refine lv_bipush (v := 54) hx hb dX12_init_77 (by decide) ?_
  refine gp_newa (N' := 54) (g1 := gW cI cL (va_up g73 (((((((((M + 1) + 1) + 1) + 1) + 1) + 1) + 1) + 1) + 1) (.inr (.inl (54, fun _ => 0))))) hx hb (hts _ (List.mem_of_getElem? (i := 4) rfl)) hK hG hS (by decide) (by decide) (by decide) (Nat.le_of_ble_eq_true rfl) (Nat.le_of_ble_eq_true rfl) (gW_up (e := .inr (.inl (54, fun _ => 0)))) dX12_init_79 (fun H hG hS => ?_)
  obtain ⟨g81, ht81, hf⟩ := gb_b hf
  refine cp_putF (tyk := .array .int) hx hb hts gclX12 tyX12 tyX12_ok nmX12 hown hK hG hS 9 ht81 (by decide) (hts _ (List.mem_of_getElem? (i := 14) rfl)) (fun _ h9 => h9) rfl hin0 rfl (by decide +kernel) rfl rfl dX12_init_81 (fun H locs hG hS => ?_)
  refine lv_aload_n hx hb dX12_init_84 rfl (lv_at hl 0 rfl) ?_
  refine lv_iconst (v := 4) hx hb dX12_init_85 (by decide) ?_
  refine gp_newa (N' := 4) (g1 := gW cI cL (va_up g81 ((((((((((M + 1) + 1) + 1) + 1) + 1) + 1) + 1) + 1) + 1) + 1) (.inr (.inl (4, fun _ => 0))))) hx hb (hts _ (List.mem_of_getElem? (i := 4) rfl)) hK hG hS (by decide) (by decide) (by decide) (Nat.le_of_ble_eq_true rfl) (Nat.le_of_ble_eq_true rfl) (gW_up (e := .inr (.inl (4, fun _ => 0)))) dX12_init_86 (fun H hG hS => ?_)
  obtain ⟨g88, ht88, hf⟩ := gb_b hf
  refine cp_putF (tyk := .array .int) hx hb hts gclX12 tyX12 tyX12_ok nmX12 hown hK hG hS 10 ht88 (by decide) (hts _ (List.mem_of_getElem? (i := 15) rfl)) (fun _ h9 => h9) rfl hin0 rfl (by decide +kernel) rfl rfl dX12_init_88 (fun H locs hG hS => ?_)
  refine lv_aload_n hx hb dX12_init_91 rfl (lv_at hl 0 rfl) ?_
  refine lv_bipush (v := 96) hx hb dX12_init_92 (by decide) ?_
  refine gp_newa (N' := 96) (g1 := gW cI cL (va_up g88 (((((((((((M + 1) + 1) + 1) + 1) + 1) + 1) + 1) + 1) + 1) + 1) + 1) (.inr (.inl (96, fun _ => 0))))) hx hb (hts _ (List.mem_of_getElem? (i := 4) rfl)) hK hG hS (by decide) (by decide) (by decide) (Nat.le_of_ble_eq_true rfl) (Nat.le_of_ble_eq_true rfl) (gW_up (e := .inr (.inl (96, fun _ => 0)))) dX12_init_94 (fun H hG hS => ?_)
  obtain ⟨g96, ht96, hf⟩ := gb_b hf
  refine cp_putF (tyk := .array .int) hx hb hts gclX12 tyX12 tyX12_ok nmX12 hown hK hG hS 14 ht96 (by decide) (hts _ (List.mem_of_getElem? (i := 16) rfl)) (fun _ h9 => h9) rfl hin0 rfl (by decide +kernel) rfl rfl dX12_init_96 (fun H locs hG hS => ?_)
  refine lv_aload_n hx hb dX12_init_99 rfl (lv_at hl 0 rfl) ?_
  refine lv_bipush (v := 48) hx hb dX12_init_100 (by decide) ?_
  refine gp_newa (N' := 48) (g1 := gW cI cL (va_up g96 ((((((((((((M + 1) + 1) + 1) + 1) + 1) + 1) + 1) + 1) + 1) + 1) + 1) + 1) (.inr (.inl (48, fun _ => 0))))) hx hb (hts _ (List.mem_of_getElem? (i := 4) rfl)) hK hG hS (by decide) (by decide) (by decide) (Nat.le_of_ble_eq_true rfl) (Nat.le_of_ble_eq_true rfl) (gW_up (e := .inr (.inl (48, fun _ => 0)))) dX12_init_102 (fun H hG hS => ?_)
  obtain ⟨g104, ht104, hf⟩ := gb_b hf
  refine cp_putF (tyk := .array .int) hx hb hts gclX12 tyX12 tyX12_ok nmX12 hown hK hG hS 15 ht104 (by decide) (hts _ (List.mem_of_getElem? (i := 17) rfl)) (fun _ h9 => h9) rfl hin0 rfl (by decide +kernel) rfl rfl dX12_init_104 (fun H locs hG hS => ?_)
  refine lv_aload_n hx hb dX12_init_107 rfl (lv_at hl 0 rfl) ?_
  refine lv_bipush (v := 48) hx hb dX12_init_108 (by decide) ?_
  refine gp_newa (N' := 48) (g1 := gW cI cL (va_up g104 (((((((((((((M + 1) + 1) + 1) + 1) + 1) + 1) + 1) + 1) + 1) + 1) + 1) + 1) + 1) (.inr (.inl (48, fun _ => 0))))) hx hb (hts _ (List.mem_of_getElem? (i := 4) rfl)) hK hG hS (by decide) (by decide) (by decide) (Nat.le_of_ble_eq_true rfl) (Nat.le_of_ble_eq_true rfl) (gW_up (e := .inr (.inl (48, fun _ => 0)))) dX12_init_110 (fun H hG hS => ?_)
  obtain ⟨g112, ht112, hf⟩ := gb_b hf
  refine cp_putF (tyk := .array .int) hx hb hts gclX12 tyX12 tyX12_ok nmX12 hown hK hG hS 16 ht112 (by decide) (hts _ (List.mem_of_getElem? (i := 18) rfl)) (fun _ h9 => h9) rfl hin0 rfl (by decide +kernel) rfl rfl dX12_init_112 (fun H locs hG hS => ?_)
  refine lv_aload_n hx hb dX12_init_115 rfl (lv_at hl 0 rfl) ?_
  refine lv_sipush (v := 144) hx hb dX12_init_116 (by decide) ?_
  refine gp_newa (N' := 144) (g1 := gW cI cL (va_up g112 ((((((((((((((M + 1) + 1) + 1) + 1) + 1) + 1) + 1) + 1) + 1) + 1) + 1) + 1) + 1) + 1) (.inr (.inl (144, fun _ => 0))))) hx hb (hts _ (List.mem_of_getElem? (i := 4) rfl)) hK hG hS (by decide) (by decide) (by decide) (Nat.le_of_ble_eq_true rfl) (Nat.le_of_ble_eq_true rfl) (gW_up (e := .inr (.inl (144, fun _ => 0)))) dX12_init_119 (fun H hG hS => ?_)
  obtain ⟨g121, ht121, hf⟩ := gb_b hf
  refine cp_putF (tyk := .array .int) hx hb hts gclX12 tyX12 tyX12_ok nmX12 hown hK hG hS 17 ht121 (by decide) (hts _ (List.mem_of_getElem? (i := 19) rfl)) (fun _ h9 => h9) rfl hin0 rfl (by decide +kernel) rfl rfl dX12_init_121 (fun H locs hG hS => ?_)
  refine lv_aload_n hx hb dX12_init_124 rfl (lv_at hl 0 rfl) ?_
  refine lv_sipush (v := 600) hx hb dX12_init_125 (by decide) ?_
  refine gp_newa (N' := 600) (g1 := gW cI cL (va_up g121 (((((((((((((((M + 1) + 1) + 1) + 1) + 1) + 1) + 1) + 1) + 1) + 1) + 1) + 1) + 1) + 1) + 1) (.inr (.inl (600, fun _ => 0))))) hx hb (hts _ (List.mem_of_getElem? (i := 4) rfl)) hK hG hS (by decide) (by decide) (by decide) (Nat.le_of_ble_eq_true rfl) (Nat.le_of_ble_eq_true rfl) (gW_up (e := .inr (.inl (600, fun _ => 0)))) dX12_init_128 (fun H hG hS => ?_)
  obtain ⟨g130, ht130, hf⟩ := gb_b hf
  refine cp_putF (tyk := .array .int) hx hb hts gclX12 tyX12 tyX12_ok nmX12 hown hK hG hS 21 ht130 (by decide) (hts _ (List.mem_of_getElem? (i := 20) rfl)) (fun _ h9 => h9) rfl hin0 rfl (by decide +kernel) rfl rfl dX12_init_130 (fun H locs hG hS => ?_)
  refine lv_aload_n hx hb dX12_init_133 rfl (lv_at hl 0 rfl) ?_
  refine lv_bipush (v := 36) hx hb dX12_init_134 (by decide) ?_
  refine gp_newa (N' := 36) (g1 := gW cI cL (va_up g130 ((((((((((((((((M + 1) + 1) + 1) + 1) + 1) + 1) + 1) + 1) + 1) + 1) + 1) + 1) + 1) + 1) + 1) + 1) (.inr (.inl (36, fun _ => 0))))) hx hb (hts _ (List.mem_of_getElem? (i := 4) rfl)) hK hG hS (by decide) (by decide) (by decide) (Nat.le_of_ble_eq_true rfl) (Nat.le_of_ble_eq_true rfl) (gW_up (e := .inr (.inl (36, fun _ => 0)))) dX12_init_136 (fun H hG hS => ?_)
  obtain ⟨g138, ht138, hf⟩ := gb_b hf
  refine cp_putF (tyk := .array .int) hx hb hts gclX12 tyX12 tyX12_ok nmX12 hown hK hG hS 25 ht138 (by decide) (hts _ (List.mem_of_getElem? (i := 21) rfl)) (fun _ h9 => h9) rfl hin0 rfl (by decide +kernel) rfl rfl dX12_init_138 (fun H locs hG hS => ?_)
  refine lv_aload_n hx hb dX12_init_141 rfl (lv_at hl 0 rfl) ?_
  refine lv_bipush (v := 36) hx hb dX12_init_142 (by decide) ?_
  refine gp_newa (N' := 36) (g1 := gW cI cL (va_up g138 (((((((((((((((((M + 1) + 1) + 1) + 1) + 1) + 1) + 1) + 1) + 1) + 1) + 1) + 1) + 1) + 1) + 1) + 1) + 1) (.inr (.inl (36, fun _ => 0))))) hx hb (hts _ (List.mem_of_getElem? (i := 4) rfl)) hK hG hS (by decide) (by decide) (by decide) (Nat.le_of_ble_eq_true rfl) (Nat.le_of_ble_eq_true rfl) (gW_up (e := .inr (.inl (36, fun _ => 0)))) dX12_init_144 (fun H hG hS => ?_)
  obtain ⟨g146, ht146, hf⟩ := gb_b hf
  refine cp_putF (tyk := .array .int) hx hb hts gclX12 tyX12 tyX12_ok nmX12 hown hK hG hS 26 ht146 (by decide) (hts _ (List.mem_of_getElem? (i := 22) rfl)) (fun _ h9 => h9) rfl hin0 rfl (by decide +kernel) rfl rfl dX12_init_146 (fun H locs hG hS => ?_)
  refine lv_aload_n hx hb dX12_init_149 rfl (lv_at hl 0 rfl) ?_
  refine lv_bipush (v := 36) hx hb dX12_init_150 (by decide) ?_
  refine gp_newa (N' := 36) (g1 := gW cI cL (va_up g146 ((((((((((((((((((M + 1) + 1) + 1) + 1) + 1) + 1) + 1) + 1) + 1) + 1) + 1) + 1) + 1) + 1) + 1) + 1) + 1) + 1) (.inr (.inl (36, fun _ => 0))))) hx hb (hts _ (List.mem_of_getElem? (i := 4) rfl)) hK hG hS (by decide) (by decide) (by decide) (Nat.le_of_ble_eq_true rfl) (Nat.le_of_ble_eq_true rfl) (gW_up (e := .inr (.inl (36, fun _ => 0)))) dX12_init_152 (fun H hG hS => ?_)
  obtain ⟨g154, ht154, hf⟩ := gb_b hf
  refine cp_putF (tyk := .array .int) hx hb hts gclX12 tyX12 tyX12_ok nmX12 hown hK hG hS 27 ht154 (by decide) (hts _ (List.mem_of_getElem? (i := 23) rfl)) (fun _ h9 => h9) rfl hin0 rfl (by decide +kernel) rfl rfl dX12_init_154 (fun H locs hG hS => ?_)
  refine lv_aload_n hx hb dX12_init_157 rfl (lv_at hl 0 rfl) ?_
  refine lv_bipush (v := 36) hx hb dX12_init_158 (by decide) ?_
  refine gp_newa (N' := 36) (g1 := gW cI cL (va_up g154 (((((((((((((((((((M + 1) + 1) + 1) + 1) + 1) + 1) + 1) + 1) + 1) + 1) + 1) + 1) + 1) + 1) + 1) + 1) + 1) + 1) + 1) (.inr (.inl (36, fun _ => 0))))) hx hb (hts _ (List.mem_of_getElem? (i := 4) rfl)) hK hG hS (by decide) (by decide) (by decide) (Nat.le_of_ble_eq_true rfl) (Nat.le_of_ble_eq_true rfl) (gW_up (e := .inr (.inl (36, fun _ => 0)))) dX12_init_160 (fun H hG hS => ?_)
  obtain ⟨g162, ht162, hf⟩ := gb_b hf
  refine cp_putF (tyk := .array .int) hx hb hts gclX12 tyX12 tyX12_ok nmX12 hown hK hG hS 29 ht162 (by decide) (hts _ (List.mem_of_getElem? (i := 24) rfl)) (fun _ h9 => h9) rfl hin0 rfl (by decide +kernel) rfl rfl dX12_init_162 (fun H locs hG hS => ?_)
  refine lv_aload_n hx hb dX12_init_165 rfl (lv_at hl 0 rfl) ?_
  refine lv_bipush (v := 36) hx hb dX12_init_166 (by decide) ?_
  refine gp_newa (N' := 36) (g1 := gW cI cL (va_up g162 ((((((((((((((((((((M + 1) + 1) + 1) + 1) + 1) + 1) + 1) + 1) + 1) + 1) + 1) + 1) + 1) + 1) + 1) + 1) + 1) + 1) + 1) + 1) (.inr (.inl (36, fun _ => 0))))) hx hb (hts _ (List.mem_of_getElem? (i := 4) rfl)) hK hG hS (by decide) (by decide) (by decide) (Nat.le_of_ble_eq_true rfl) (Nat.le_of_ble_eq_true rfl) (gW_up (e := .inr (.inl (36, fun _ => 0)))) dX12_init_168 (fun H hG hS => ?_)
  obtain ⟨g170, ht170, hf⟩ := gb_b hf
  refine cp_putF (tyk := .array .int) hx hb hts gclX12 tyX12 tyX12_ok nmX12 hown hK hG hS 30 ht170 (by decide) (hts _ (List.mem_of_getElem? (i := 25) rfl)) (fun _ h9 => h9) rfl hin0 rfl (by decide +kernel) rfl rfl dX12_init_170 (fun H locs hG hS => ?_)
  refine lv_aload_n hx hb dX12_init_173 rfl (lv_at hl 0 rfl) ?_
  refine lv_bipush (v := 12) hx hb dX12_init_174 (by decide) ?_
  refine gp_newa (N' := 12) (g1 := gW cI cL (va_up g170 (((((((((((((((((((((M + 1) + 1) + 1) + 1) + 1) + 1) + 1) + 1) + 1) + 1) + 1) + 1) + 1) + 1) + 1) + 1) + 1) + 1) + 1) + 1) + 1) (.inr (.inl (12, fun _ => 0))))) hx hb (hts _ (List.mem_of_getElem? (i := 4) rfl)) hK hG hS (by decide) (by decide) (by decide) (Nat.le_of_ble_eq_true rfl) (Nat.le_of_ble_eq_true rfl) (gW_up (e := .inr (.inl (12, fun _ => 0)))) dX12_init_176 (fun H hG hS => ?_)
  obtain ⟨g178, ht178, hf⟩ := gb_b hf
  refine cp_putF (tyk := .array .int) hx hb hts gclX12 tyX12 tyX12_ok nmX12 hown hK hG hS 31 ht178 (by decide) (hts _ (List.mem_of_getElem? (i := 26) rfl)) (fun _ h9 => h9) rfl hin0 rfl (by decide +kernel) rfl rfl dX12_init_178 (fun H locs hG hS => ?_)
  refine lv_aload_n hx hb dX12_init_181 rfl (lv_at hl 0 rfl) ?_
  refine lv_iconst (v := 0) hx hb dX12_init_182 (by decide) ?_
  obtain ⟨g183, ht183, hf⟩ := gb_b hf
  refine cp_put (tyk := .int) hx hb hts gclX12 tyX12 tyX12_ok nmX12 hown hK hG hS 11 ht183 (by decide) (hts _ (List.mem_of_getElem? (i := 27) rfl)) (fun _ h9 => h9) rfl (by decide +kernel) rfl rfl dX12_init_183 (fun H locs hG hS => ?_)
  have hf := Option.some.inj hf
  subst hf
  exact gp_retV hx hb hr hlocks hG hS (Nat.le_of_ble_eq_true rfl) (Nat.le_of_ble_eq_true rfl) dX12_init_186
end
