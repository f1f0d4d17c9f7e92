section
variable {gv : Nat → GV} {M hx : Nat} {ow : Nat → Nat} {S : SS} {re wa ka la ra li sa wh ce mi st ta ke ro : Nat → Int32} {hi : Int32} {fa sh qu lb may : Nat → Int32} {q : Int32} {tl1 le1 lt1 : Nat → Int32} {at1 ss1 ik1 cu1 : Int32}
/-! TOWN -/
set_option maxRecDepth 100000 in
theorem neg1 : ∀ b, b < 1000 → (-1000 - nI b : Int32) < 0 := by decide +kernel
set_option maxRecDepth 100000 in
theorem neg2 : ∀ b, b < 1000 → (-2000 - nI b : Int32) < 0 := by decide +kernel
theorem RK.fr {T : TS} {ke' : Nat → Int32} (hT : TOK T) (h : RK T ke (300 * 0)) (e : ∀ j, j < 300 → ke' j = ke j) : RK T ke' (300 * 0) := by
  have hn : tn T ≤ 6 := hT.2.2.1
  have hp : tp T ≤ 4 := hT.2.2.2.1
  obtain ⟨⟨h1, h2, h3⟩, h4, h5, h6⟩ := h
  refine ⟨⟨fun c hc => (e _ (by omega)).trans (h1 c hc), fun p hp => (e _ (by omega)).trans (h2 p hp), fun l hl => ?_⟩, (e _ (by omega)).trans h4, (e _ (by omega)).trans h5, (e _ (by omega)).trans h6⟩
  obtain ⟨a1, a2, a3, a4, a5, a6⟩ := h3 l hl
  have h9 := hT.s9 hl
  refine ⟨(e _ (by omega)).trans a1, (e _ (by omega)).trans a2, (e _ (by omega)).trans a3, (e _ (by omega)).trans a4, (e _ (by omega)).trans a5, fun k hk => ?_⟩
  obtain ⟨b1, b2, b3⟩ := a6 k hk
  exact ⟨(e _ (by omega)).trans b1, (e _ (by omega)).trans b2, (e _ (by omega)).trans b3⟩
theorem q_town (hT : SOK S) (h : CX gv M hx ow S) (hX : XR S re wa ka la ra li sa wh ce mi st ta ke ro (nI (tn (zT S))) (nI (tp (zT S))) (nI (tM (zT S))) (nI (zl S)) hi (nI (zr S))) : ∃ r S' wa' ka' la' ra' li' sa' wh' ce' mi' st' lm' pe' mn' le' lt' to' tt' at' ss' ke' ik' cu' fa' sh' qu' q' lb', CM gv M hx ow (f_X11_town gv M hx) r S' ∧ f_X12_town wa ka la ra li sa wh ce mi st (nI (tn (zT S))) (nI (tp (zT S))) (nI (tM (zT S))) ta le1 lt1 tl1 (nI (zl S)) at1 ss1 ke ik1 cu1 fa sh qu q lb = some (r, wa', ka', la', ra', li', sa', wh', ce', mi', st', lm', pe', mn', le', lt', to', tt', at', ss', ke', ik', cu', fa', sh', qu', q', lb') ∧ XR S' re wa' ka' la' ra' li' sa' wh' ce' mi' st' ta ke' ro lm' pe' mn' tt' hi (nI (zr S)) ∧ SOK S' := by
  obtain ⟨he, th, la1, pa, fl, pf, LA, SA, sf, e4, ⟨fs, hO⟩, hC, -⟩ := id h.here
  have n1 : ¬ (1 : Int32) = 0 := by decide
  have hn : tn (zT S) ≤ 6 := hT.1.2.2.1
  have hp : tp (zT S) ≤ 4 := hT.1.2.2.2.1
  obtain ⟨lt, tx, ro2, rf, tk, he2, sp, th2, ts, tf, rof, rff, ⟨c1, c2, c3, c4, c5, ⟨o1, o2, o3, o4, o5⟩, c6, c7, c8⟩, ⟨w1, w2, w3, w4, w5⟩, hM⟩ := id h
  have hts : ts ≤ 2 ∧ 1 ≤ ts ∧ th2 ≤ 2 ∧ 1 ≤ th2 ∧ th2 ≠ ts := by omega
  obtain ⟨g1, ow1, b1, b2, b3, b4⟩ := become_ok w2 hT.1 w3 (by omega) hM
  have F1 : Fr gv g1 ow ow1 ts := b4
  have k4 : gfR gv hx [9] 4 = some (some he2) := gfR_of c1 (by decide) rfl
  have k5 : gfR gv hx [9] 5 = some (some sp) := gfR_of c1 (by decide) rfl
  have hspo : ∃ o, gfO gv sp [8] = some o := by
    obtain ⟨la, pa, w0, n0, p0, m0, fl, pf, ha, -⟩ := w3
    exact ⟨_, gfO_of ha (by decide)⟩
  obtain ⟨osp, hspo⟩ := hspo
  have fx1 := F1 hx (by omega) (by omega)
  have fl1 := F1 lt (by omega) (by omega)
  have y0 : gfR g1 hx [9] 0 = some (some lt) := gfR_of (fx1.1.trans c1) (by decide) rfl
  have y5 : gfR g1 hx [9] 5 = some (some sp) := gfR_of (fx1.1.trans c1) (by decide) rfl
  have yo : gfO g1 lt [5] = some (5, [.ref tx, .int (nI (zl S))]) := gfO_of (fl1.1.trans c2) (by decide)
  have build : ∀ (g' : Nat → GV) (ow' : Nat → Nat) (M' : Nat), Fr gv g' ow ow' ts → (∀ q, M' ≤ q → ow' q = 0) → ∀ (g4 : Nat → GV) (he3 sp3 th3 ts3 : Nat) (T3 : TS), (∀ z, z ≠ lt → z ≠ hx → g4 z = g' z) → g4 lt = .inl (5, [.ref tx, .int 0]) → g4 hx = .inl (9, [.ref lt, .ref ro2, .ref rf, .ref tk, .ref he3, .ref sp3, .int (nI (zr S)), .int (if zI S = true then 1 else 0)]) → ((th3 = 1 ∧ ts3 = 2) ∨ (th3 = 2 ∧ ts3 = 1)) → TH g' ow' th3 he3 T3 → tn T3 ≤ 6 → TE g' ow' ts3 sp3 → CX g4 M' hx ow' (T3, zI S, zU S, zF S, zL S, 0, zR S, zr S) ∧ Keep gv g4 ow ow' := by
    intro g' ow' M' hF hM' g4 he3 sp3 th3 ts3 T3 e1 e2 e3 e4 hH hn3 hE
    have fx := hF hx (by omega) (by omega)
    have fl := hF lt (by omega) (by omega)
    have ft := hF tx (by omega) (by omega)
    have fo := hF ro2 (by omega) (by omega)
    have ff := hF rf (by omega) (by omega)
    have out : ∀ q, 20 < ow' q → ow' q < 80 → g4 q = g' q := fun q q1 q2 => e1 q (fun e => by rw [e] at q1 q2; omega) (fun e => by rw [e] at q1 q2; omega)
    have out2 : ∀ q, 60 < ow q → ow q < 80 → g4 q = gv q ∧ ow' q = ow q := fun q q1 q2 => by
      have := hF q (by omega) (by omega)
      exact ⟨(out q (by omega) (by omega)).trans this.1, this.2⟩
    refine ⟨⟨lt, tx, ro2, rf, tk, he3, sp3, th3, ts3, tf, rof, rff, ⟨e3, e2, ?_, ?_, ?_, ⟨fx.2.trans o1, fl.2.trans o2, ft.2.trans o3, fo.2.trans o4, ff.2.trans o5⟩, fun k hk => absurd hk (Nat.not_lt_zero k), c7, c8⟩, ⟨e4, hH.frame hn3 (fun q q1 q2 => ⟨out q (by omega) (by omega), rfl⟩), hE.frame (fun q q1 q2 => ⟨out q (by omega) (by omega), rfl⟩), w4.frame (fun q q1 q2 => out2 q (by omega) (by omega)), fun hi2 => (w5 hi2).frame (hT.2.1 hi2).2.2.1 (fun q q1 q2 => out2 q (by omega) (by omega))⟩, hM'⟩, fun q hq => ?_⟩
    · exact (e1 tx (fun e => by rw [e] at o3; omega) (fun e => by rw [e] at o3; omega)).trans (ft.1.trans c3)
    · exact (e1 ro2 (fun e => by rw [e] at o4; omega) (fun e => by rw [e] at o4; omega)).trans (fo.1.trans c4)
    · exact (e1 rf (fun e => by rw [e] at o5; omega) (fun e => by rw [e] at o5; omega)).trans (ff.1.trans c5)
    · have := hF q (by omega) (by omega)
      exact ⟨(e1 q (fun e => by rw [e] at hq; omega) (fun e => by rw [e] at hq; omega)).trans this.1, this.2⟩
  have key : ∀ (r : Int32) (g' : Nat → GV) (ow' : Nat → Nat) (M' : Nat), f_X6_tellTo g1 (M + 2 * tn (zT S)) lt (some sp) = some (r, g', M') → Fr gv g' ow ow' ts → (∀ q, M' ≤ q → ow' q = 0) → (r < 0 → TE g' ow' ts sp → CM gv M hx ow (f_X11_town gv M hx) r (zT S, zI S, zU S, zF S, zL S, 0, zR S, zr S)) ∧ (∀ T', ¬ r < 0 → TH g' ow' ts sp T' → tn T' ≤ 6 → CM gv M hx ow (f_X11_town gv M hx) r (T', zI S, zU S, zF S, zL S, 0, zR S, zr S)) := by
    intro r g' ow' M' ht hF hM'
    have fx := hF hx (by omega) (by omega)
    have fl := hF lt (by omega) (by omega)
    have nlh : hx ≠ lt := fun e => by rw [e] at o1; omega
    have x0 : gfR g' hx [9] 0 = some (some lt) := gfR_of (fx.1.trans c1) (by decide) rfl
    have xo : gfO g' lt [5] = some (5, [.ref tx, .int (nI (zl S))]) := gfO_of (fl.1.trans c2) (by decide)
    obtain ⟨g2, hg2⟩ : ∃ g2, g2 = va_up g' lt (.inl (5, [.ref tx, .int 0])) := ⟨_, rfl⟩
    have xp : gpu g' lt [5] 1 (.int 0) = some g2 := by
      rw [hg2]
      exact gpu_of (fl.1.trans c2) (by decide) (by show 1 < 2; decide)
    have xc : f_X6_clear g' lt = some g2 := by
      unfold f_X6_clear
      rw [xp]
      simp only [obs]
    have off : ∀ z, z ≠ lt → g2 z = g' z := fun z hz => by rw [hg2, va_ne hz]
    have hlt : g2 lt = .inl (5, [.ref tx, .int 0]) := by rw [hg2, va_up_self]
    have hhx : g2 hx = .inl (9, [.ref lt, .ref ro2, .ref rf, .ref tk, .ref he2, .ref sp, .int (nI (zr S)), .int (if zI S = true then 1 else 0)]) := (off hx nlh).trans (fx.1.trans c1)
    have hth : TH g' ow' th2 he2 (zT S) := w2.frame hn (fun q q1 q2 => hF q (by omega) (by omega))
    constructor
    · intro hr hE
      obtain ⟨B1, B2⟩ := build g' ow' M' hF hM' g2 he2 sp th2 ts (zT S) (fun z z1 _ => off z z1) hlt hhx w1 hth hn hE
      refine ⟨g2, M', ow', ?_, B1, B2⟩
      unfold f_X11_town
      simp only [k5, k4, obs, hspo]
      rw [b1]
      simp only [obs, y0, y5, yo]
      rw [ht]
      simp only [obs, x0, xo, xc, hr, if_true]
    · intro T' hr hH hn'
      obtain ⟨g3, hg3⟩ : ∃ g3, g3 = va_up g2 hx (.inl (9, [.ref lt, .ref ro2, .ref rf, .ref tk, .ref sp, .ref sp, .int (nI (zr S)), .int (if zI S = true then 1 else 0)])) := ⟨_, rfl⟩
      have z3 : g3 hx = .inl (9, [.ref lt, .ref ro2, .ref rf, .ref tk, .ref sp, .ref sp, .int (nI (zr S)), .int (if zI S = true then 1 else 0)]) := by rw [hg3, va_up_self]
      obtain ⟨g4, hg4⟩ : ∃ g4, g4 = va_up g3 hx (.inl (9, [.ref lt, .ref ro2, .ref rf, .ref tk, .ref sp, .ref he2, .int (nI (zr S)), .int (if zI S = true then 1 else 0)])) := ⟨_, rfl⟩
      have z4 : g4 hx = .inl (9, [.ref lt, .ref ro2, .ref rf, .ref tk, .ref sp, .ref he2, .int (nI (zr S)), .int (if zI S = true then 1 else 0)]) := by rw [hg4, va_up_self]
      have p4 : gfR g2 hx [9] 4 = some (some he2) := gfR_of hhx (by decide) rfl
      have p5 : gfR g2 hx [9] 5 = some (some sp) := gfR_of hhx (by decide) rfl
      have q3 : gpu g2 hx [9] 4 (va_rf (some sp)) = some g3 := by
        rw [hg3]
        exact gpu_of hhx (by decide) (by show 4 < 8; decide)
      have q4 : gpu g3 hx [9] 5 (va_rf (some he2)) = some g4 := by
        rw [hg4]
        exact gpu_of z3 (by decide) (by show 5 < 8; decide)
      have off4 : ∀ z, z ≠ lt → z ≠ hx → g4 z = g' z := fun z z1 z2 => by rw [hg4, va_ne z2, hg3, va_ne z2, off z z1]
      have hlt4 : g4 lt = .inl (5, [.ref tx, .int 0]) := by rw [hg4, va_ne (Ne.symm nlh), hg3, va_ne (Ne.symm nlh)]; exact hlt
      obtain ⟨B1, B2⟩ := build g' ow' M' hF hM' g4 sp he2 ts th2 T' off4 hlt4 z4 (by omega) hH hn' hth.te
      refine ⟨g4, M', ow', ?_, B1, B2⟩
      unfold f_X11_town
      simp only [k5, k4, obs, hspo]
      rw [b1]
      simp only [obs, y0, y5, yo]
      rw [ht]
      simp only [obs, x0, xo, xc, hr, if_false, p4, p5, q3, q4]
  have hg : LO gv ow lt (zl S) (zL S) := ⟨tx, tf, c2, c3, c6, ⟨hT.2.2.1, hT.2.2.2.1⟩, o2, o3⟩
  have hg1 := hg.fr F1 hts.1
  have h96 := hg.lt.n96
  have sok : ∀ T', TOK T' → SOK (T', zI S, zU S, zF S, zL S, 0, zR S, zr S) := fun T' hT' => ⟨hT', hT.2.1, Nat.zero_le _, fun k hk => absurd hk (Nat.not_lt_zero k), hT.2.2.2.2⟩
  rcases parse_ok hX.2.2.2.1.2 hg1.lt le1 lt1 tl1 with ⟨b, le', lt', to', s', p1, p2, p3⟩ | ⟨N, le', lt', to', p1, p2, p3, p4, p5⟩
  · have ht : f_X6_tellTo g1 (M + 2 * tn (zT S)) lt (some sp) = some (-1000 - nI b, g1, M + 2 * tn (zT S)) := by
      unfold f_X6_tellTo
      rw [yo]
      simp only [obs]
      rw [p1]
      simp only [obs]
      rw [if_neg (nI_pos (by omega))]
    refine ⟨-1000 - nI b, (zT S, zI S, zU S, zF S, zL S, 0, zR S, zr S), wa, ka, la, ra, li, sa, wh, ce, mi, st, _, _, _, le', lt', to', 0, nI b, s', ke, ik1, cu1, fa, sh, qu, q, lb, (key _ _ _ _ ht F1 b3).1 (neg1 b p2) b2.te, ?_, ⟨hX.1, hX.2.1, ⟨rfl, rfl, rfl⟩, ⟨rfl, fun k hk => absurd hk (Nat.not_lt_zero k)⟩, hX.2.2.2.2.1, hX.2.2.2.2.2⟩, sok _ hT.1⟩
    unfold f_X12_town
    refine (p3 _ _).trans ?_
    simp only [if_true]
    rfl
  · have h3 := p3.three N (Nat.le_refl _)
    obtain ⟨ke', k1, k2, k3⟩ := xkeep_ok (ke := ke) (ik := ik1) (cu := cu1) hT.1 hX.2.1 (b := 1) (by decide)
    have k1 : f_X12_passesAll wa ka la ra li sa wh ce mi st (nI (tn (zT S))) (nI (tp (zT S))) (nI (tM (zT S))) ke ik1 cu1 1 1 = some (wa, ka, la, ra, li, sa, wh, ce, mi, st, nI (tn (zT S)), nI (tp (zT S)), nI (tM (zT S)), ke', 1, nI (300 * 1 + 235)) := k1
    have him : hi = (if zI S = true then 1 else 0) ∧ (zI S = true → RT (zU S) ke' (fun k => ke' (36 + k)) (fun k => ke' (42 + k)) (fun k => ke' (48 + k)) (fun k => ke' (54 + k)) (fun k => ke' (60 + k)) (fun k => ke' (66 + k)) (fun k => ke' (120 + k)) (fun k => ke' (174 + k)) (fun k => ke' (228 + k)) ∧ ke' 232 = nI (tn (zU S)) ∧ ke' 233 = nI (tp (zU S)) ∧ ke' 234 = nI (tM (zU S))) := ⟨hX.2.2.2.2.1.1, fun hI => RK0.mp ((RK0.mpr (hX.2.2.2.2.1.2 hI)).fr (hT.2.1 hI) (fun j hj => k3 j (Or.inl (by omega))))⟩
    rcases tell_ok (a := sp) (to := to') hts.1 p3 p4 (by omega) h96 N 0 g1 ow1 (M + 2 * tn (zT S)) (zT S) wa ka la ra li sa wh ce mi st fa sh qu lb q gFt gF (by omega) b2 hT.1 hX.2.1 b3 hg1 (by unfold gFt; omega) (by unfold gF; omega) with ⟨k', gv', ow', M', T', wa', ka', la', ra', li', sa', wh', ce', mi', st', fa', sh', qu', q', lb', t0, t1, t2, t3, t4, t5⟩ | ⟨gv', ow', M', T', wa', ka', la', ra', li', sa', wh', ce', mi', st', fa', sh', qu', q', lb', t1, t2, t3, t4, t5, t6, t7⟩
    · have hk := p3.three k' (by omega)
      have ht : f_X6_tellTo g1 (M + 2 * tn (zT S)) lt (some sp) = some (-2000 - nI (posF (tcN (zl S) (zL S)) k'), gv', M') := by
        unfold f_X6_tellTo
        rw [yo]
        simp only [obs]
        rw [p1]
        simp only [obs]
        rw [if_pos (by decide)]
        exact t1 _ _ _
      obtain ⟨wa2, ka2, la2, ra2, li2, sa2, wh2, ce2, mi2, st2, r1, r2⟩ := xrest_ok (wa := wa') (ka := ka') (la := la') (ra := ra') (li := li') (sa := sa') (wh := wh') (ce := ce') (mi := mi') (st := st') (ke := ke') (ik := 1) (cu := nI (300 * 1 + 235)) hT.1 (b := 1) (by decide) k2 (lm := nI (tn T')) (pe := nI (tp T')) (mn := nI (tM T'))
      have r1 : f_X12_passesAll wa' ka' la' ra' li' sa' wh' ce' mi' st' (nI (tn T')) (nI (tp T')) (nI (tM T')) ke' 1 (nI (300 * 1 + 235)) 1 0 = some (wa2, ka2, la2, ra2, li2, sa2, wh2, ce2, mi2, st2, nI (tn (zT S)), nI (tp (zT S)), nI (tM (zT S)), ke', 0, nI (300 * 1 + 235)) := r1
      have hltk := (p3 k' t0).2.2.2.1
      refine ⟨-2000 - nI (posF (tcN (zl S) (zL S)) k'), (zT S, zI S, zU S, zF S, zL S, 0, zR S, zr S), wa2, ka2, la2, ra2, li2, sa2, wh2, ce2, mi2, st2, _, _, _, le', lt', to', 0, nI (zl S), nI N, ke', 0, nI (300 * 1 + 235), fa', sh', qu', q', lb', (key _ _ _ _ ht (F1.tr t5) t4).1 (neg2 _ (by omega)) t3.te, ?_, ⟨hX.1, r2, ⟨rfl, rfl, rfl⟩, ⟨rfl, fun k hk => absurd hk (Nat.not_lt_zero k)⟩, him, hX.2.2.2.2.2⟩, sok _ hT.1⟩
      unfold f_X12_town
      refine (p2 _ _).trans ?_
      simp only [n1, if_false]
      rw [k1]
      simp only [obs]
      refine (t2 _ _ _).trans ?_
      simp only [r1, obs, gix_ok (show k' < 48 by omega) (show 48 < 2 ^ 31 by decide), nI_clamp (show k' < 2 ^ 31 by omega), hltk]
      rfl
    · have ht : f_X6_tellTo g1 (M + 2 * tn (zT S)) lt (some sp) = some (nI N, gv', M') := by
        unfold f_X6_tellTo
        rw [yo]
        simp only [obs]
        rw [p1]
        simp only [obs]
        rw [if_pos (by decide)]
        exact t1 _ _ _
      refine ⟨nI N, (T', zI S, zU S, zF S, zL S, 0, zR S, zr S), wa', ka', la', ra', li', sa', wh', ce', mi', st', _, _, _, le', lt', to', 0, nI (zl S), nI N, ke', 1, nI (300 * 1 + 235), fa', sh', qu', q', lb', (key _ _ _ _ ht (F1.tr t7) t6).2 T' (nI_pos (by omega)) t3 t4.2.2.1, ?_, ⟨hX.1, t5, ⟨rfl, rfl, rfl⟩, ⟨rfl, fun k hk => absurd hk (Nat.not_lt_zero k)⟩, him, hX.2.2.2.2.2⟩, sok _ t4⟩
      unfold f_X12_town
      refine (p2 _ _).trans ?_
      simp only [n1, if_false]
      rw [k1]
      simp only [obs]
      exact t2 _ _ _
end
