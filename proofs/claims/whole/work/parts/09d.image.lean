section
variable {gv : Nat → GV} {M hx : Nat} {ow : Nat → Nat} {S : SS} {re wa ka la ra li sa wh ce mi st ta ke ro : Nat → Int32} {hi : Int32} {fa sh qu lb may : Nat → Int32} {q : Int32} {tl1 le1 lt1 : Nat → Int32} {at1 ss1 ik1 cu1 : Int32}
/-! the image, and on from it -/
def CM (gv : Nat → GV) (M hx : Nat) (ow : Nat → Nat) (f : Option (Int32 × (Nat → GV) × Nat)) (r : Int32) (S' : SS) : Prop := ∃ gv' M' ow', f = some (r, gv', M') ∧ CX gv' M' hx ow' S' ∧ Keep gv gv' ow ow'
theorem CX.img (h : CX gv M hx ow S) (hT : SOK S) : CM gv M hx ow (f_X11_image gv M hx) (nI (tM (zT S))) (zT S, true, zT S, zF S, zL S, zl S, zR S, zr S) := by
  obtain ⟨lt, tx, ro, rf, tk, he, sp, th, ts, tf, rof, rff, ⟨c1, c2, c3, c4, c5, ⟨o1, o2, o3, o4, o5⟩, c6, c7, c8⟩, ⟨w1, w2, w3, w4, w5⟩, hM⟩ := h
  have ht : th ≤ 2 ∧ ts ≤ 2 ∧ 1 ≤ th ∧ 1 ≤ ts := by omega
  have l1 : gfR gv hx [9] 3 = some (some tk) := gfR_of c1 (by decide) rfl
  have l2 : gfR gv hx [9] 4 = some (some he) := gfR_of c1 (by decide) rfl
  obtain ⟨g1, ow', b1, b2, b3, b4⟩ := become_ok w2 hT.1 w4 (by omega) hM
  have htk : ∃ o, gfO gv tk [8] = some o := by
    obtain ⟨la, pa, w0, n0, p0, m0, fl, pf, ha, -⟩ := w4
    exact ⟨_, gfO_of ha (by decide)⟩
  obtain ⟨otk, htk⟩ := htk
  have hx1 : g1 hx = gv hx ∧ ow' hx = ow hx := b4 hx (by omega) (by omega)
  obtain ⟨g2, hg2⟩ : ∃ g2, g2 = va_up g1 hx (.inl (9, [.ref lt, .ref ro, .ref rf, .ref tk, .ref he, .ref sp, .int (nI (zr S)), .int 1])) := ⟨_, rfl⟩
  have p1 : gpu g1 hx [9] 7 (.int 1) = some g2 := by
    rw [hg2]
    exact gpu_of (hx1.1.trans c1) (by decide) (by show 7 < 8; decide)
  have d2 : g2 hx = .inl (9, [.ref lt, .ref ro, .ref rf, .ref tk, .ref he, .ref sp, .int (nI (zr S)), .int 1]) := by rw [hg2, va_up_self]
  have l3 : gfR g2 hx [9] 4 = some (some he) := gfR_of d2 (by decide) rfl
  have fr : ∀ q, ow q ≠ 0 → ow q ≠ 101 → (ow q ≤ 60 ∨ 80 ≤ ow q) → g2 q = gv q ∧ ow' q = ow q := fun q q1 q2 q3 => by
    have := b4 q q1 (by omega)
    refine ⟨?_, this.2⟩
    rw [hg2, va_ne (fun e => by rw [e] at q2; omega)]
    exact this.1
  have hth : TH g2 ow' th he (zT S) := w2.frame hT.1.2.2.1 (fun q q1 q2 => fr q (by omega) (by omega) (by omega))
  have l4 : gfI g2 he [8] 5 = some (nI (tM (zT S))) := by
    obtain ⟨la, pa, fl, pf, LA, SA, sf, k1, -⟩ := hth
    exact k1.f5
  have htk2 : TH g2 ow' 3 tk (zT S) := b2.frame hT.1.2.2.1 (fun q q1 q2 => ⟨by rw [hg2, va_ne (fun e => by rw [e, hx1.2] at q1 q2; omega)], rfl⟩)
  refine ⟨g2, M + 2 * tn (zT S), ow', ?_, ⟨lt, tx, ro, rf, tk, he, sp, th, ts, tf, rof, rff, ⟨d2, ?_, ?_, ?_, ?_, ⟨hx1.2.trans o1, ?_, ?_, ?_, ?_⟩, c6, c7, c8⟩, ⟨w1, hth, w3.frame (fun q q1 q2 => fr q (by omega) (by omega) (by omega)), htk2.te, fun _ => htk2⟩, b3⟩, fun q hq => fr q (by omega) (by omega) (by omega)⟩
  · unfold f_X11_image
    simp only [l1, l2, htk, obs]
    rw [b1]
    simp only [obs, p1, l3, l4]
  · exact (fr lt (by omega) (by omega) (by omega)).1.trans c2
  · exact (fr tx (by omega) (by omega) (by omega)).1.trans c3
  · exact (fr ro (by omega) (by omega) (by omega)).1.trans c4
  · exact (fr rf (by omega) (by omega) (by omega)).1.trans c5
  · exact (fr lt (by omega) (by omega) (by omega)).2.trans o2
  · exact (fr tx (by omega) (by omega) (by omega)).2.trans o3
  · exact (fr ro (by omega) (by omega) (by omega)).2.trans o4
  · exact (fr rf (by omega) (by omega) (by omega)).2.trans o5
theorem CX.onn (h : CX gv M hx ow S) (hT : SOK S) (hI : zI S = true) : CM gv M hx ow (f_X11_on gv M hx) (nI (tM (zU S))) (zU S, S.2) := by
  obtain ⟨lt, tx, ro, rf, tk, he, sp, th, ts, tf, rof, rff, ⟨c1, c2, c3, c4, c5, ⟨o1, o2, o3, o4, o5⟩, c6, c7, c8⟩, ⟨w1, w2, w3, w4, w5⟩, hM⟩ := h
  have ht : th ≤ 2 ∧ ts ≤ 2 ∧ 1 ≤ th ∧ 1 ≤ ts := by omega
  have hTU := hT.2.1 hI
  have w5 := w5 hI
  have l1 : gfR gv hx [9] 3 = some (some tk) := gfR_of c1 (by decide) rfl
  have l2 : gfR gv hx [9] 4 = some (some he) := gfR_of c1 (by decide) rfl
  have l7 : gfI gv hx [9] 7 = some 1 := by
    refine gfI_of c1 (by decide) ?_
    rw [hI]
    rfl
  obtain ⟨g1, ow', b1, b2, b3, b4⟩ := become_ok w5 hTU w2.te (by omega) hM
  have hhe : ∃ o, gfO gv he [8] = some o := by
    obtain ⟨la, pa, w0, n0, p0, m0, fl, pf, ha, -⟩ := w2.te
    exact ⟨_, gfO_of ha (by decide)⟩
  obtain ⟨ohe, hhe⟩ := hhe
  have fr : ∀ q, ow q ≠ 0 → (ow q ≤ 20 * th ∨ 20 * th + 20 ≤ ow q) → g1 q = gv q ∧ ow' q = ow q := b4
  have hx1 : g1 hx = gv hx ∧ ow' hx = ow hx := fr hx (by omega) (by omega)
  have l3 : gfR g1 hx [9] 4 = some (some he) := gfR_of (hx1.1.trans c1) (by decide) rfl
  have l4 : gfI g1 he [8] 5 = some (nI (tM (zU S))) := by
    obtain ⟨la, pa, fl, pf, LA, SA, sf, k1, -⟩ := b2
    exact k1.f5
  have htk2 : TH g1 ow' 3 tk (zU S) := w5.frame hTU.2.2.1 (fun q q1 q2 => fr q (by omega) (by omega))
  refine ⟨g1, M + 2 * tn (zU S), ow', ?_, ⟨lt, tx, ro, rf, tk, he, sp, th, ts, tf, rof, rff, ⟨hx1.1.trans c1, ?_, ?_, ?_, ?_, ⟨hx1.2.trans o1, ?_, ?_, ?_, ?_⟩, c6, c7, c8⟩, ⟨w1, b2, w3.frame (fun q q1 q2 => fr q (by omega) (by omega)), htk2.te, fun _ => htk2⟩, b3⟩, fun q hq => fr q (by omega) (by omega)⟩
  · unfold f_X11_on
    rw [l7]
    simp only [obs]
    rw [if_neg (by decide), l2, l1]
    simp only [obs, hhe]
    rw [b1]
    simp only [obs, l3, l4]
  · exact (fr lt (by omega) (by omega)).1.trans c2
  · exact (fr tx (by omega) (by omega)).1.trans c3
  · exact (fr ro (by omega) (by omega)).1.trans c4
  · exact (fr rf (by omega) (by omega)).1.trans c5
  · exact (fr lt (by omega) (by omega)).2.trans o2
  · exact (fr tx (by omega) (by omega)).2.trans o3
  · exact (fr ro (by omega) (by omega)).2.trans o4
  · exact (fr rf (by omega) (by omega)).2.trans o5
theorem RK0 {T : TS} : RK T ke (300 * 0) ↔ (RT T ke (fun k => ke (36 + k)) (fun k => ke (42 + k)) (fun k => ke (48 + k)) (fun k => ke (54 + k)) (fun k => ke (60 + k)) (fun k => ke (66 + k)) (fun k => ke (120 + k)) (fun k => ke (174 + k)) (fun k => ke (228 + k)) ∧ ke 232 = nI (tn T) ∧ ke 233 = nI (tp T) ∧ ke 234 = nI (tM T)) := by
  unfold RK
  simp only [Nat.mul_zero, Nat.zero_add]
theorem q_image (hT : SOK S) (h : CX gv M hx ow S) (hX : XR S re wa ka la ra li sa wh ce mi st ta ke ro (nI (tn (zT S))) (nI (tp (zT S))) (nI (tM (zT S))) (nI (zl S)) hi (nI (zr S))) : ∃ r S' wa' ka' la' ra' li' sa' wh' ce' mi' st' lm' pe' mn' ke' hi' ik' cu', CM gv M hx ow (f_X11_image gv M hx) r S' ∧ f_X12_image wa ka la ra li sa wh ce mi st (nI (tn (zT S))) (nI (tp (zT S))) (nI (tM (zT S))) ke hi ik1 cu1 = some (r, wa', ka', la', ra', li', sa', wh', ce', mi', st', lm', pe', mn', ke', hi', ik', cu') ∧ XR S' re wa' ka' la' ra' li' sa' wh' ce' mi' st' ta ke' ro lm' pe' mn' (nI (zl S)) hi' (nI (zr S)) ∧ SOK S' := by
  obtain ⟨he, th, la1, pa, fl, pf, LA, SA, sf, e4, ⟨fs, hO⟩, hC, -⟩ := id h.here
  have n1 : ¬ (1 : Int32) = 0 := by decide
  have hn : tn (zT S) ≤ 6 := hT.1.2.2.1
  have hp : tp (zT S) ≤ 4 := hT.1.2.2.2.1
  obtain ⟨ke', k1, k2, k3⟩ := xkeep_ok (ke := ke) (ik := ik1) (cu := cu1) hT.1 hX.2.1 (b := 0) (by decide)
  have k1 : f_X12_passesAll wa ka la ra li sa wh ce mi st (nI (tn (zT S))) (nI (tp (zT S))) (nI (tM (zT S))) ke ik1 cu1 0 1 = _ := k1
  refine ⟨nI (tM (zT S)), (zT S, true, zT S, zF S, zL S, zl S, zR S, zr S), wa, ka, la, ra, li, sa, wh, ce, mi, st, nI (tn (zT S)), nI (tp (zT S)), nI (tM (zT S)), ke', 1, 1, nI (300 * 0 + 235), h.img hT, ?_, ⟨hX.1, hX.2.1, ⟨rfl, rfl, rfl⟩, hX.2.2.2.1, ⟨rfl, fun _ => RK0.mp k2⟩, hX.2.2.2.2.2⟩, ⟨hT.1, fun _ => hT.1, hT.2.2⟩⟩
  unfold f_X12_image
  rw [k1]
  simp only [obs]
theorem q_on (hT : SOK S) (h : CX gv M hx ow S) (hX : XR S re wa ka la ra li sa wh ce mi st ta ke ro (nI (tn (zT S))) (nI (tp (zT S))) (nI (tM (zT S))) (nI (zl S)) hi (nI (zr S))) : ∃ r S' re' wa' ka' la' ra' li' sa' wh' ce' mi' st' lm' pe' mn' ke' ik' cu', CM gv M hx ow (f_X11_on gv M hx) r S' ∧ f_X12_on re wa ka la ra li sa wh ce mi st (nI (tn (zT S))) (nI (tp (zT S))) (nI (tM (zT S))) ke hi ik1 cu1 = some (r, re', wa', ka', la', ra', li', sa', wh', ce', mi', st', lm', pe', mn', ke', ik', cu') ∧ XR S' re' wa' ka' la' ra' li' sa' wh' ce' mi' st' ta ke' ro lm' pe' mn' (nI (zl S)) hi (nI (zr S)) ∧ SOK S' := by
  obtain ⟨he, th, la1, pa, fl, pf, LA, SA, sf, e4, ⟨fs, hO⟩, hC, -⟩ := id h.here
  have n1 : ¬ (1 : Int32) = 0 := by decide
  have hn : tn (zT S) ≤ 6 := hT.1.2.2.1
  have hp : tp (zT S) ≤ 4 := hT.1.2.2.2.1
  by_cases hI : zI S = true
  · have hi1 : hi = 1 := by
      rw [hX.2.2.2.2.1.1, if_pos hI]
    obtain ⟨wa', ka', la', ra', li', sa', wh', ce', mi', st', r1, r2⟩ := xrest_ok (wa := wa) (ka := ka) (la := la) (ra := ra) (li := li) (sa := sa) (wh := wh) (ce := ce) (mi := mi) (st := st) (ke := ke) (ik := ik1) (cu := cu1) (hT.2.1 hI) (b := 0) (by decide) (RK0.mpr (hX.2.2.2.2.1.2 hI)) (lm := nI (tn (zT S))) (pe := nI (tp (zT S))) (mn := nI (tM (zT S)))
    have r1 : f_X12_passesAll wa ka la ra li sa wh ce mi st (nI (tn (zT S))) (nI (tp (zT S))) (nI (tM (zT S))) ke ik1 cu1 0 0 = _ := r1
    refine ⟨nI (tM (zU S)), (zU S, S.2), re, wa', ka', la', ra', li', sa', wh', ce', mi', st', nI (tn (zU S)), nI (tp (zU S)), nI (tM (zU S)), ke, 0, nI (300 * 0 + 235), h.onn hT hI, ?_, ⟨hX.1, r2, ⟨rfl, rfl, rfl⟩, hX.2.2.2.1, hX.2.2.2.2.1, hX.2.2.2.2.2⟩, ⟨hT.2.1 hI, hT.2⟩⟩
    unfold f_X12_on
    rw [if_neg (by rw [hi1]; decide), r1]
    simp only [obs]
  · have hi0 : hi = 0 := by
      rw [hX.2.2.2.2.1.1, if_neg hI]
    obtain ⟨gv', e1, e2, e3⟩ := h.refuse hT (k := 3) (by decide) (by decide)
    have l7 : gfI gv hx [9] 7 = some 0 := by
      obtain ⟨lt, tx, ro, rf, tk, he', sp, th', ts, tf, rof, rff, ⟨c1, -⟩, -⟩ := id h
      refine gfI_of c1 (by decide) ?_
      rw [if_neg hI]
      rfl
    refine ⟨-3, sNo S 3, upd re 3 (re 3 + 1), wa, ka, la, ra, li, sa, wh, ce, mi, st, _, _, _, ke, ik1, cu1, ⟨gv', M, ow, ?_, e2, e3⟩, ?_, hX.no 3, hT.no 3⟩
    · unfold f_X11_on
      rw [l7]
      simp only [obs, if_true]
      rw [hO, lm3]
      simp only [obs]
      rw [e1]
      simp only [obs]
    · unfold f_X12_on
      rw [hi0, if_pos rfl, lm3, xno_ok (by decide)]
      rfl
end
