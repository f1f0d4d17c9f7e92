/-! what the law's start gives of classes, arrays, words and String constants -/
set_option maxHeartbeats 4000000 in
set_option maxRecDepth 100000 in
theorem start_kn {s : State} {b : Nat} (hts0 : ∀ w ∈ lw_tbl, w.before #[Value.ref b] s = true) (hgv : (Jvm.Cond.and given_1 narrow_1).before #[Value.ref b] s = true) : ∃ (D : va_G) (gb : GB) (cI cL : ClassId), gb.1 = s.heap.size ∧ gb.2.1 = s.heap ∧ gKn D gb (gTy cI cL) s := by
  have hs := flat_of_before _ hgv
  have hA : ∀ a : Nat, a < s.heap.size → ¬ (fun q : Nat => s.heap.size ≤ q) a := fun a h => Nat.not_le.mpr h
  obtain ⟨c0, i0, k0⟩ := u_known (C := RX0) (T := TX0) (N := 5) (n := 5) hts0 wsL_in_X00 (hts0 _ (wsL_in_7 _ (List.mem_of_getElem? (i := 15) rfl)))
  obtain ⟨c1, i1, k1⟩ := u_known (C := RX1) (T := TX1) (N := 5) (n := 5) hts0 wsL_in_X10 (hts0 _ (wsL_in_7 _ (List.mem_of_getElem? (i := 13) rfl)))
  obtain ⟨c2, i2, k2⟩ := u_known (C := RX3) (T := TX3) (N := 5) (n := 5) hts0 wsL_in_X30 (hts0 _ (wsL_in_7 _ (List.mem_of_getElem? (i := 9) rfl)))
  obtain ⟨c3, i3, k3⟩ := u_known (C := RX4) (T := TX4) (N := 5) (n := 5) hts0 wsL_in_X40 (hts0 _ (wsL_in_7 _ (List.mem_of_getElem? (i := 19) rfl)))
  obtain ⟨c4, i4, k4⟩ := u_known (C := RX5) (T := TX5) (N := 5) (n := 5) hts0 wsL_in_X50 (hts0 _ (wsL_in_7 _ (List.mem_of_getElem? (i := 21) rfl)))
  obtain ⟨c5, i5, k5⟩ := u_known (C := RX6) (T := TX6) (N := 2) (n := 2) hts0 wsL_in_X60 (hts0 _ (wsL_in_1 _ (List.mem_of_getElem? (i := 13) rfl)))
  obtain ⟨c6, i6, k6⟩ := u_known (C := RX7) (T := TX7) (N := 5) (n := 5) hts0 wsL_in_X70 (hts0 _ (wsL_in_7 _ (List.mem_of_getElem? (i := 11) rfl)))
  obtain ⟨c7, i7, k7⟩ := u_known (C := RX8) (T := TX8) (N := 5) (n := 5) hts0 wsL_in_X80 (hts0 _ (wsL_in_7 _ (List.mem_of_getElem? (i := 17) rfl)))
  obtain ⟨c8, i8, k8⟩ := u_known (C := RX10) (T := TX10) (N := 6) (n := 6) hts0 wsL_in_X100 (hts0 _ (wsL_in_1 _ (List.mem_of_getElem? (i := 20) rfl)))
  obtain ⟨c9, i9, k9⟩ := u_known (C := RX11) (T := TX11) (N := 8) (n := 8) hts0 wsL_in_X110 (hts0 _ (wsL_in_1 _ (List.mem_of_getElem? (i := 1) rfl)))
  obtain ⟨cT, iT, kT⟩ := u_known (C := RX12) (T := TX12) (N := 33) (n := 33) hts0 wsL_in_X120 (hts0 _ (wsL_in_1 _ (List.mem_of_getElem? (i := 4) rfl)))
  obtain ⟨D, hD⟩ : ∃ D : va_G, ∀ (k : Nat) (q : vw_C), vwCl[k]? = some q → u_Kn s q.1 q.2.1 q.2.2 (D.1 k) (D.2 k) := by
    refine ⟨(fun k => match k with | 0 => c0 | 1 => c1 | 2 => c2 | 3 => c3 | 4 => c4 | 5 => c5 | 6 => c6 | 7 => c7 | 8 => c8 | 9 => c9 | _ => cT, fun k => match k with | 0 => i0 | 1 => i1 | 2 => i2 | 3 => i3 | 4 => i4 | 5 => i5 | 6 => i6 | 7 => i7 | 8 => i8 | 9 => i9 | _ => iT), ?_⟩
    intro k q hq
    match k, hq with
    | 0, hq => cases hq; exact k0
    | 1, hq => cases hq; exact k1
    | 2, hq => cases hq; exact k2
    | 3, hq => cases hq; exact k3
    | 4, hq => cases hq; exact k4
    | 5, hq => cases hq; exact k5
    | 6, hq => cases hq; exact k6
    | 7, hq => cases hq; exact k7
    | 8, hq => cases hq; exact k8
    | 9, hq => cases hq; exact k9
    | 10, hq => cases hq; exact kT
    | k + 11, hq => simp [vwCl] at hq
  obtain ⟨cI, kI, coI, a1, a2, a3⟩ := Cond.arrayClass_spec (hts0 _ (wsL_in_1 (.arrayClass .int) (List.mem_of_getElem? (i := 16) rfl)))
  have hao : (Cond.arrayOver (.object "LampsThatRemember$Lamp")).before #[Value.ref b] s = true := hts0 _ (by decide +kernel)
  obtain ⟨comp, cL, kL, l1, l2, l3, l4, l5⟩ := Cond.arrayOver_spec hao
  have hK : va_K D vwCl (gTy cI cL) s := by
    refine ⟨hD, fun k q hq => ?_⟩
    match k, hq with
    | 0, hq => cases hq; exact ⟨fun n z => ⟨fun k h => (by cases h), kI, a2, coI, a3⟩, a1⟩
    | 1, hq => cases hq; exact ⟨fun n z => ⟨fun k h => (by cases h), kL, l3, comp, l4⟩, ⟨kL, comp, l3, l4, l1, l5⟩⟩
    | k + 2, hq => simp [gTy] at hq
  have m1 : ∀ i, i < 6 → Cond.exactly (Term.string RX6 (gSk i)) "java/lang/String" ∈ flatC (Jvm.Cond.and given_1 narrow_1) := by decide +kernel
  have m2 : ∀ i, i < 6 → Cond.eq (.field (Term.string RX6 (gSk i)) "java/lang/String" "coder" "B") (.int 0) ∈ flatC (Jvm.Cond.and given_1 narrow_1) := by decide +kernel
  have m3 : ∀ i, i < 6 → Cond.arrayOf (.field (Term.string RX6 (gSk i)) "java/lang/String" "value" "[B") .byte ∈ flatC (Jvm.Cond.and given_1 narrow_1) := by decide +kernel
  have m4 : ∀ i, i < 6 → Cond.eq (.length (.field (Term.string RX6 (gSk i)) "java/lang/String" "value" "[B")) (.int (Int32.ofNat (gSl.getD i 0))) ∈ flatC (Jvm.Cond.and given_1 narrow_1) := by decide +kernel
  have m5 : ∀ i, i < 6 → ∀ j, j < gSl.getD i 0 → Cond.eq (.elem (.field (Term.string RX6 (gSk i)) "java/lang/String" "value" "[B") (.int (Int32.ofNat j))) (.int ((gSb.getD i []).getD j 0)) ∈ flatC (Jvm.Cond.and given_1 narrow_1) := by decide +kernel
  have m6 : ∀ i, i < 6 → ∀ j, j < 6 → i ≠ j → Cond.not (Cond.eq (Term.string RX6 (gSk i)) (Term.string RX6 (gSk j))) ∈ flatC (Jvm.Cond.and given_1 narrow_1) ∨ Cond.not (Cond.eq (Term.string RX6 (gSk j)) (Term.string RX6 (gSk i))) ∈ flatC (Jvm.Cond.and given_1 narrow_1) := by decide +kernel
  have m7 : ∀ i, i < 6 → Cond.stringRef RX6 (gSk i) (gSt i) ∈ lw_tbl := by decide +kernel
  have m8 : ∀ q ∈ gNm, Cond.methodLinkNest q.1 q.2.1 q.2.2.1 q.2.2.2 ∈ lw_tbl := by decide +kernel
  have m9 : ∀ C ∈ gCa, Cond.castable C "LampsThatRemember$Lamp" ∈ lw_tbl := by decide +kernel
  obtain ⟨adK, adV, v1, v2⟩ := vk_Sof (args := #[Value.ref b]) (s := s) (N := 6) (tm := fun i => Term.string RX6 (gSk i)) (len := gSl) (byt := gSb) (A := fun q : Nat => s.heap.size ≤ q) (by decide) (fun i hi => hs _ (m1 i hi)) (fun i hi => hs _ (m2 i hi)) (fun i hi => hs _ (m3 i hi)) (fun i hi => hs _ (m4 i hi)) (fun i hi j hj => hs _ (m5 i hi j hj)) (fun i j hi hj h => (m6 i hi j hj h).imp (fun h => hs _ h) (fun h => hs _ h)) hA
  refine ⟨D, (s.heap.size, s.heap, adK, adV), cI, cL, rfl, rfl, hK, fun q hq => va_Nw.of rfl (hts0 _ (m8 q hq)), fun C hC => va_Nw.of rfl (hts0 _ (m9 C hC)), va_AO.of hao, v1, fun i hi => vk_R.of (hts0 _ (m7 i hi)) (v2 i hi), ?_, ?_⟩
  · exact va_Zof (hts0 (.laysStatic "java/lang/String" "COMPACT_STRINGS" "Z") (by decide +kernel)) (hts0 (.initialized "java/lang/String") (by decide +kernel)) (va_eqt (hs (.eq (.static "java/lang/String" "COMPACT_STRINGS" "Z") (.int 1)) (by decide +kernel))) hA
  · exact va_Zqof (hts0 (.laysStatic "jdk/internal/util/Preconditions" "SIOOBE_FORMATTER" "Ljava/util/function/BiFunction;") (by decide +kernel)) (hts0 (.initialized "jdk/internal/util/Preconditions") (by decide +kernel)) (hs (.isRef (.static "jdk/internal/util/Preconditions" "SIOOBE_FORMATTER" "Ljava/util/function/BiFunction;")) (by decide +kernel)) hA
