section
variable {gv : Nat → GV} {M hx : Nat} {ow : Nat → Nat} {S : SS} {re wa ka la ra li sa wh ce mi st ta ke ro : Nat → Int32} {hi : Int32} {fa sh qu lb may : Nat → Int32} {q : Int32} {tl1 le1 lt1 : Nat → Int32} {at1 ss1 ik1 cu1 : Int32}
/-! a lamp of the town changes -/
theorem CT.set {a la1 pa t l : Nat} {T T' : TS} {fl : Nat → Option Nat} {pf : Nat → Int32} {LA SA : Nat → Nat} {sf : Nat → Nat → Int32} {gv' : Nat → GV} {sf' : Nat → Int32} (h : CT gv a T la1 pa fl pf LA SA sf) (hO : OWN ow t a la1 pa LA SA (tn T)) (hl : l < tn T) (hfr : ∀ q, q ≠ LA l → q ≠ SA l → gv' q = gv q) (hL : Lp gv' (LA l) (SA l) (tK T' l) (tC T' l) (tR T' l) (tL T' l) (tS T' l) sf') (hs : ∀ k, k < tS T' l → sf' k = nI (tm T' l k * 1000 + tx T' l k * 10 + tw T' l k)) (e1 : tW T' = tW T ∧ tn T' = tn T ∧ tp T' = tp T ∧ tM T' = tM T ∧ tP T' = tP T) (e2 : ∀ m, m ≠ l → tK T' m = tK T m ∧ tC T' m = tC T m ∧ tR T' m = tR T m ∧ tL T' m = tL T m ∧ tS T' m = tS T m ∧ tw T' m = tw T m ∧ tx T' m = tx T m ∧ tm T' m = tm T m) : CT gv' a T' la1 pa fl pf LA SA (fun m => if m = l then sf' else sf m) := by
  obtain ⟨h1, h2, h3, h4, h5⟩ := h
  obtain ⟨o1, o2, o3, o4⟩ := hO
  obtain ⟨u1, u2, u3, u4, u5⟩ := e1
  obtain ⟨p1, p2⟩ := o4 l hl
  refine ⟨?_, ?_, ?_, ?_, ?_⟩
  · rw [hfr a (fun e => by rw [e] at o1; omega) (fun e => by rw [e] at o1; omega), u1, u2, u3, u4]
    exact h1
  · rw [hfr la1 (fun e => by rw [e] at o2; omega) (fun e => by rw [e] at o2; omega)]
    exact h2
  · rw [hfr pa (fun e => by rw [e] at o3; omega) (fun e => by rw [e] at o3; omega)]
    exact h3
  · rw [u3, u5]
    exact h4
  · intro m hm
    rw [u2] at hm
    obtain ⟨k1, k2, k3⟩ := h5 m hm
    by_cases em : m = l
    · rw [em] at k1 ⊢
      simp only [if_true]
      exact ⟨k1, hL, hs⟩
    · obtain ⟨f1, f2, f3, f4, f5, f6, f7, f8⟩ := e2 m em
      obtain ⟨r1, r2⟩ := o4 m hm
      simp only [em, if_false]
      rw [f1, f2, f3, f4, f5, f6, f7, f8]
      refine ⟨k1, ⟨?_, ?_⟩, k3⟩
      · rw [hfr (LA m) (fun e => by rw [e] at r1; omega) (fun e => by rw [e] at r1; omega)]
        exact k2.1
      · rw [hfr (SA m) (fun e => by rw [e] at r2; omega) (fun e => by rw [e] at r2; omega)]
        exact k2.2
/-- off the town's own cells nothing changes -/
def Off (gv gv' : Nat → GV) (ow : Nat → Nat) (t : Nat) : Prop := ∀ q, (ow q ≤ 20 * t ∨ 20 * t + 20 ≤ ow q) → gv' q = gv q
theorem Off.rf {t : Nat} : Off gv gv ow t := fun _ _ => rfl
theorem Off.tr {gv1 gv2 : Nat → GV} {t : Nat} (h1 : Off gv gv1 ow t) (h2 : Off gv1 gv2 ow t) : Off gv gv2 ow t := fun q hq => (h2 q hq).trans (h1 q hq)
theorem OWN.off {a la1 pa t l n : Nat} {LA SA : Nat → Nat} {gv' : Nat → GV} (hO : OWN ow t a la1 pa LA SA n) (hn : n ≤ 6) (hl : l < n) (hfr : ∀ q, q ≠ LA l → q ≠ SA l → gv' q = gv q) : Off gv gv' ow t := fun q hq => by
  obtain ⟨p1, p2⟩ := hO.2.2.2 l hl
  exact hfr q (fun e => by rw [e] at hq; omega) (fun e => by rw [e] at hq; omega)
/-- the town changes, all else stays -/
theorem CX.town {gv' : Nat → GV} {T' : TS} (h : CX gv M hx ow S) (hT : SOK S) {he th : Nat} (hhe : gfR gv hx [9] 4 = some (some he)) (hown : ow he = 20 * th + 1) (hN : TH gv' ow th he T') (hfr : Off gv gv' ow th) : CX gv' M hx ow (T', S.2) ∧ Keep gv gv' ow ow := by
  obtain ⟨lt, tx, ro, rf, tk, he', sp, th', ts, tf, rof, rff, ⟨c1, c2, c3, c4, c5, ⟨o1, o2, o3, o4, o5⟩, c6, c7, c8⟩, ⟨w1, w2, w3, w4, w5⟩, hM⟩ := h
  have e := gfR_of (k := 4) (x := he') c1 (cis := [9]) (by decide) rfl
  rw [hhe] at e
  have ee : he = he' := by cases e; rfl
  subst ee
  have hto : ow he = 20 * th' + 1 := by
    obtain ⟨la, pa, fl, pf, LA, SA, sf, -, q1, -⟩ := w2
    exact q1
  have et : th' = th := by omega
  subst et
  refine ⟨⟨lt, tx, ro, rf, tk, he, sp, th', ts, tf, rof, rff, ⟨?_, ?_, ?_, ?_, ?_, ⟨o1, o2, o3, o4, o5⟩, c6, c7, c8⟩, ⟨w1, hN, w3.frame (fun q q1 q2 => ⟨hfr q (by omega), rfl⟩), w4.frame (fun q q1 q2 => ⟨hfr q (by omega), rfl⟩), fun hi2 => (w5 hi2).frame (hT.2.1 hi2).2.2.1 (fun q q1 q2 => ⟨hfr q (by omega), rfl⟩)⟩, hM⟩, fun q hq => ⟨hfr q (by omega), rfl⟩⟩
  · rw [hfr hx (by omega)]; exact c1
  · rw [hfr lt (by omega)]; exact c2
  · rw [hfr tx (by omega)]; exact c3
  · rw [hfr ro (by omega)]; exact c4
  · rw [hfr rf (by omega)]; exact c5
/-! a lamp's fields -/
theorem Lp.ne {x q1 k c r s : Nat} {l : Bool} {f : Nat → Int32} (h : Lp gv x q1 k c r l s f) : q1 ≠ x := fun e => by
  have h1 := h.1
  have h2 := h.2
  rw [e, h1] at h2
  cases h2
theorem Lp.setC {x q1 k c r s : Nat} {l : Bool} {f : Nat → Int32} (h : Lp gv x q1 k c r l s f) (c' : Nat) : ∃ gv', gpu gv x gLC 0 (.int (nI c')) = some gv' ∧ Lp gv' x q1 k c' r l s f ∧ ∀ y, y ≠ x → gv' y = gv y :=
  ⟨_, gpu_of h.1 (kc_in k) (by show 0 < 5; decide), ⟨va_up_self _ _ _, (va_ne h.ne).trans h.2⟩, fun _ hy => va_ne hy⟩
theorem Lp.setL {x q1 k c r s : Nat} {l : Bool} {f : Nat → Int32} (h : Lp gv x q1 k c r l s f) (l' : Bool) : ∃ gv', gpu gv x gLC 2 (.int (if l' = true then 1 else 0)) = some gv' ∧ Lp gv' x q1 k c r l' s f ∧ ∀ y, y ≠ x → gv' y = gv y :=
  ⟨_, gpu_of h.1 (kc_in k) (by show 2 < 5; decide), ⟨va_up_self _ _ _, (va_ne h.ne).trans h.2⟩, fun _ hy => va_ne hy⟩
theorem Lp.setS {x q1 k c r s : Nat} {l : Bool} {f : Nat → Int32} (h : Lp gv x q1 k c r l s f) (s' : Nat) : ∃ gv', gpu gv x gLC 3 (.int (nI s')) = some gv' ∧ Lp gv' x q1 k c r l s' f ∧ ∀ y, y ≠ x → gv' y = gv y :=
  ⟨_, gpu_of h.1 (kc_in k) (by show 3 < 5; decide), ⟨va_up_self _ _ _, (va_ne h.ne).trans h.2⟩, fun _ hy => va_ne hy⟩
theorem CX.o101 (h : CX gv M hx ow S) : ow hx = 101 := by
  obtain ⟨lt, tx, ro, rf, tk, he, sp, th, ts, tf, rof, rff, ⟨c1, c2, c3, c4, c5, ⟨o1, o2, o3, o4, o5⟩, c6, c7, c8⟩, -⟩ := h
  exact o1
theorem gfO_eq {gv' : Nat → GV} {a : Nat} {cis : List Nat} (e : gv' a = gv a) : gfO gv' a cis = gfO gv a cis := by
  unfold gfO
  rw [e]
theorem gfR_eq {gv' : Nat → GV} {a k : Nat} {cis : List Nat} (e : gv' a = gv a) : gfR gv' a cis k = gfR gv a cis k := by
  unfold gfR
  rw [gfO_eq e]
theorem gfI_eq {gv' : Nat → GV} {a k : Nat} {cis : List Nat} (e : gv' a = gv a) : gfI gv' a cis k = gfI gv a cis k := by
  unfold gfI
  rw [gfO_eq e]
/-! two lamps change their cells -/
def xC1 (T : TS) (l c : Nat) : TS := (T.1, T.2.1, (fun k => if k = l then c else tC T k), T.2.2.2)
def xC (T : TS) (l m : Nat) : TS := xC1 (xC1 T l (tC T m)) m (tC T l)
theorem CT.setC {a la1 pa t l c : Nat} {T : TS} {fl : Nat → Option Nat} {pf : Nat → Int32} {LA SA : Nat → Nat} {sf : Nat → Nat → Int32} (h : CT gv a T la1 pa fl pf LA SA sf) (hO : OWN ow t a la1 pa LA SA (tn T)) (hn : tn T ≤ 6) (hl : l < tn T) : ∃ gv' sf', gpu gv (LA l) gLC 0 (.int (nI c)) = some gv' ∧ CT gv' a (xC1 T l c) la1 pa fl pf LA SA sf' ∧ Off gv gv' ow t := by
  obtain ⟨gv', g1, g2, g3⟩ := (h.lp hl).setC c
  refine ⟨gv', _, g1, h.set (T' := xC1 T l c) hO hl (fun q h1 _ => g3 q h1) (sf' := sf l) ?_ (h.2.2.2.2 l hl).2.2 ⟨rfl, rfl, rfl, rfl, rfl⟩ (fun m hm => ⟨rfl, if_neg hm, rfl, rfl, rfl, rfl, rfl, rfl⟩), hO.off hn hl (fun q h1 _ => g3 q h1)⟩
  show Lp gv' (LA l) (SA l) (tK T l) (if l = l then c else tC T l) (tR T l) (tL T l) (tS T l) (sf l)
  rw [if_pos rfl]
  exact g2
theorem CT.chg {a la1 pa t l m : Nat} {T : TS} {fl : Nat → Option Nat} {pf : Nat → Int32} {LA SA : Nat → Nat} {sf : Nat → Nat → Int32} (h : CT gv a T la1 pa fl pf LA SA sf) (hO : OWN ow t a la1 pa LA SA (tn T)) (hn : tn T ≤ 6) (hl : l < tn T) (hm : m < tn T) : ∃ gv' sf', f_X11_changeCells gv (some (LA l)) (some (LA m)) = some gv' ∧ CT gv' a (xC T l m) la1 pa fl pf LA SA sf' ∧ Off gv gv' ow t := by
  obtain ⟨g1, sf1, a1, a2, a3⟩ := h.setC (c := tC T m) hO hn hl
  obtain ⟨g2, sf2, b1, b2, b3⟩ := a2.setC (l := m) (c := tC T l) hO hn hm
  refine ⟨g2, sf2, ?_, b2, a3.tr b3⟩
  unfold f_X11_changeCells
  simp only [obs, (h.lp hl).f0, (h.lp hm).f0, a1, b1]
theorem xC_xC (T : TS) (l m : Nat) : xC (xC T l m) l m = T := by
  have e : (fun k => if k = m then tC (xC T l m) l else if k = l then tC (xC T l m) m else tC (xC T l m) k) = tC T := by
    funext k
    show (if k = m then (if l = m then tC T l else if l = l then tC T m else tC T l) else if k = l then (if m = m then tC T l else if m = l then tC T m else tC T m) else (if k = m then tC T l else if k = l then tC T m else tC T k)) = tC T k
    by_cases c1 : k = m
    · rw [if_pos c1, c1]
      by_cases c2 : l = m
      · rw [if_pos c2, c2]
      · rw [if_neg c2, if_pos rfl]
    · rw [if_neg c1, if_neg c1]
      by_cases c2 : k = l
      · rw [if_pos c2, if_pos rfl, c2]
      · rw [if_neg c2, if_neg c2]
  show (T.1, T.2.1, (fun k => if k = m then tC (xC T l m) l else if k = l then tC (xC T l m) m else tC (xC T l m) k), T.2.2.2) = T
  rw [e]
  rfl
theorem TOK.xC1 {T : TS} (h : TOK T) {l c : Nat} (hc : c < 36) : TOK (xC1 T l c) := by
  obtain ⟨h1, h2, h3, h4, h5, h6, h7⟩ := h
  refine ⟨h1, h2, h3, h4, h5, h6, fun k hk => ?_⟩
  obtain ⟨k1, k2, k3⟩ := h7 k hk
  refine ⟨k1, ?_, k3⟩
  show (if k = l then c else tC T k) < 36
  by_cases e : k = l
  · rw [if_pos e]; exact hc
  · rw [if_neg e]; exact k2
theorem TOK.xC {T : TS} (h : TOK T) {l m : Nat} (hl : l < tn T) (hm : m < tn T) : TOK (xC T l m) := (h.xC1 (h.2.2.2.2.2.2 m hm).2.1).xC1 (h.2.2.2.2.2.2 l hl).2.1
theorem RT.xC1 {T : TS} (hR : RT T wa ka la ra li sa wh ce mi st) {l c : Nat} : RT (xC1 T l c) wa ka (upd la l (nI c)) ra li sa wh ce mi st := by
  obtain ⟨h1, h2, h3⟩ := hR
  refine ⟨h1, h2, fun k hk => ?_⟩
  obtain ⟨k1, k2, k3⟩ := h3 k hk
  refine ⟨k1, ?_, k3⟩
  show upd la l (nI c) k = nI (if k = l then c else tC T k)
  by_cases e : k = l
  · rw [e, upd_s, if_pos rfl]
  · rw [upd_n e, if_neg e]; exact k2
theorem RT.xC {T : TS} (hR : RT T wa ka la ra li sa wh ce mi st) {l m : Nat} (hl : l < tn T) (hm : m < tn T) : RT (xC T l m) wa ka (upd (upd la l (la m)) m (la l)) ra li sa wh ce mi st := by
  rw [(hR.2.2 m hm).2.1, (hR.2.2 l hl).2.1]
  exact hR.xC1.xC1
theorem xex_ok {l m : Nat} (hl : l < 6) (hm : m < 6) : f_X12_exchanges la (nI l) (nI m) = some (upd (upd la l (la m)) m (la l)) := by
  unfold f_X12_exchanges
  simp only [gix_ok hl (show 6 < 2 ^ 31 by decide), gix_ok hm (show 6 < 2 ^ 31 by decide), nI_clamp (show l < 2 ^ 31 by omega), nI_clamp (show m < 2 ^ 31 by omega)]
theorem xlow_ok : f_X12_lower re (-1) = some (1000000001, upd re 1 (re 1 + 1)) := by
  unfold f_X12_lower
  rw [lm1, Int32.neg_neg, gix_ok (show 1 < 7 by decide) (by decide), gix_ok (show 1 < 7 by decide) (by decide), nI_clamp (by decide)]
  rfl
theorem CX.no9 (h : CX gv M hx ow S) (hT : SOK S) : CA gv M hx ow (((gfO gv hx [9]).bind fun _ => f_X11_refuse gv hx (-1 : Int32)).bind fun o32 => some (1000000000 - o32.1, o32.2)) 1000000001 (sNo S 1) := by
  obtain ⟨gv', e1, e2, e3⟩ := h.refuse hT (k := 1) (by decide) (by decide)
  obtain ⟨he, th, la, pa, fl, pf, LA, SA, sf, -, ⟨fs, hf⟩, -⟩ := h.here
  refine ⟨gv', ow, ?_, e2, e3⟩
  rw [hf, lm1]
  simp only [obs]
  rw [e1]
  simp only [obs]
  rw [show (1000000000 : Int32) - -nI 1 = 1000000001 from by decide +kernel]
/-- swap -/
theorem q_swap (hT : SOK S) (h : CX gv M hx ow S) (hX : XR S re wa ka la ra li sa wh ce mi st ta ke ro (nI (tn (zT S))) (nI (tp (zT S))) (nI (tM (zT S))) (nI (zl S)) hi (nI (zr S))) (v w : Int32) : ∃ r S' re' la' fa' sh' qu' q' lb', CA gv M hx ow (f_X11_swap gv hx v w) r S' ∧ f_X12_swap re wa ka la ra li st (nI (tn (zT S))) (nI (tp (zT S))) fa sh qu q lb v w = some (r, re', la', fa', sh', qu', q', lb') ∧ XR S' re' wa ka la' ra li sa wh ce mi st ta ke ro (nI (tn (zT S))) (nI (tp (zT S))) (nI (tM (zT S))) (nI (zl S)) hi (nI (zr S)) ∧ SOK S' := by
  obtain ⟨he, th, la1, pa, fl, pf, LA, SA, sf, e4, ⟨fs, hO⟩, hC, hOW, ht1, ht2⟩ := id h.here
  have n1 : ¬ (1 : Int32) = 0 := by decide
  have hn : tn (zT S) ≤ 6 := hT.1.2.2.1
  have hp : tp (zT S) ≤ 4 := hT.1.2.2.2.1
  unfold f_X11_swap f_X12_swap
  simp only [e4, hC.o, obs]
  rcases idx v (n := tn (zT S)) (by omega) with hv | ⟨l, hl, e⟩
  · have hw : ∃ o, f_X10_lampAt gv he w = some o := by
      rcases idx w (n := tn (zT S)) (by omega) with hw | ⟨m, hm, e⟩
      · exact ⟨_, hC.lampNo hw⟩
      · exact ⟨_, by rw [e]; exact hC.lampAt hT.1 hm⟩
    obtain ⟨o, ho⟩ := hw
    refine ⟨1000000001, sNo S 1, upd re 1 (re 1 + 1), la, fa, sh, qu, q, lb, ?_, ?_, hX.no 1, hT.no 1⟩
    · rw [hC.lampNo hv, ho]
      exact h.no9 hT
    · rw [xil_no hv]
      simp only [obs, if_true]
      rw [xlow_ok]
      simp only [obs]
  · subst e
    rw [hC.lampAt hT.1 hl, xil_ok hl (by omega)]
    simp only [obs, n1, if_false]
    rcases idx w (n := tn (zT S)) (by omega) with hv | ⟨m, hm, e⟩
    · refine ⟨1000000001, sNo S 1, upd re 1 (re 1 + 1), la, fa, sh, qu, q, lb, ?_, ?_, hX.no 1, hT.no 1⟩
      · rw [hC.lampNo hv]
        exact h.no9 hT
      · rw [xil_no hv]
        simp only [obs, if_true]
        rw [xlow_ok]
        simp only [obs]
    · subst e
      rw [hC.lampAt hT.1 hm, xil_ok hm (by omega)]
      simp only [obs, n1, if_false]
      obtain ⟨g1, sf1, a1, a2, a3⟩ := hC.chg hOW hn hl hm
      obtain ⟨g2, sf2, b1, b2, b3⟩ := a2.chg (l := l) (m := m) hOW hn hl hm
      rw [xC_xC] at b2
      have T1 := hT.1.xC hl hm
      have R1 := hX.2.1.xC hl hm
      have R2 := R1.xC hl hm
      rw [xC_xC] at R2
      obtain ⟨fa1, sha, qu1, q1, lb1, x1, -⟩ := xcells_ok hT.1 hX.2.1 (fa := fa) (sh := sh) (qu := qu) (q := q) (lb := lb) (bm (tL (zT S)) (tn (zT S)))
      obtain ⟨fa2, shb, qu2, q2, lb2, x2, -⟩ := xcells_ok T1 R1 (fa := fa1) (sh := sha) (qu := qu1) (q := q1) (lb := lb1) (bm (tL (zT S)) (tn (zT S)))
      have x2 : f_X12_cellsLitBy wa ka (upd (upd la l (la m)) m (la l)) ra st (nI (tn (zT S))) (nI (tp (zT S))) fa1 sha qu1 q1 lb1 (nI (bm (tL (zT S)) (tn (zT S)))) = some (nI (cnt (gS (xC (zT S) l m) (bm (tL (zT S)) (tn (zT S)))) 36), fa2, shb, qu2, q2, lb2) := x2
      have K1 := h.town hT e4 hOW.1 ⟨_, _, _, _, _, _, _, b2, hOW⟩ (a3.tr b3)
      have ehx : g1 hx = gv hx := a3 hx (by have := h.o101; omega)
      have hx4 : gfR g1 hx [9] 4 = some (some he) := (gfR_eq ehx).trans e4
      have l1 := hC.lit0 hT.1
      have l2 := a2.lit0 T1
      have l2 : f_X10_litBut g1 he 0 = some (lN (bm (gS (xC (zT S) l m) (bm (tL (zT S)) (tn (zT S)))) 36)) := l2
      refine ⟨nI (cnt (gS (xC (zT S) l m) (bm (tL (zT S)) (tn (zT S)))) 36) - nI (cnt (gS (zT S) (bm (tL (zT S)) (tn (zT S)))) 36), S, re, _, fa2, shb, qu2, q2, lb2, ⟨g2, ow, ?_, K1.1, K1.2⟩, ?_, ⟨hX.1, R2, hX.2.2⟩, hT⟩
      · rw [l1]
        simp only [obs]
        rw [howMany_b]
        simp only [obs]
        rw [a1]
        simp only [obs, hx4, a2.o]
        rw [l2]
        simp only [obs]
        rw [howMany_b]
        simp only [obs]
        rw [b1]
        simp only [obs]
      · rw [xlitBits_ok hT.1 hX.2.1]
        simp only [obs]
        rw [x1]
        simp only [obs]
        rw [xex_ok (show l < 6 by omega) (show m < 6 by omega)]
        simp only [obs]
        rw [x2]
        simp only [obs]
        rw [xex_ok (show l < 6 by omega) (show m < 6 by omega)]
        simp only [obs]
end
