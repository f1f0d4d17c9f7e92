section
variable {gv : Nat → GV} {M hx : Nat} {ow : Nat → Nat} {S : SS} {re wa ka la ra li sa wh ce mi st ta ke ro : Nat → Int32} {hi : Int32} {fa sh qu lb may : Nat → Int32} {q : Int32} {tl1 le1 lt1 : Nat → Int32} {at1 ss1 ik1 cu1 : Int32}
/-! light -/
def xL1 (T : TS) (l : Nat) (b : Bool) : TS := (T.1, T.2.1, T.2.2.1, T.2.2.2.1, (fun k => if k = l then b else tL T k), T.2.2.2.2.2)
theorem CT.setL {a la1 pa t l : Nat} {b : Bool} {T : TS} {fl : Nat → Option Nat} {pf : Nat → Int32} {LA SA : Nat → Nat} {sf : Nat → Nat → Int32} (h : CT gv a T la1 pa fl pf LA SA sf) (hO : OWN ow t a la1 pa LA SA (tn T)) (hn : tn T ≤ 6) (hl : l < tn T) : ∃ gv' sf', gpu gv (LA l) gLC 2 (.int (if b = true then 1 else 0)) = some gv' ∧ CT gv' a (xL1 T l b) la1 pa fl pf LA SA sf' ∧ Off gv gv' ow t ∧ gfI gv' (LA l) gLC 2 = some (if b = true then 1 else 0) := by
  obtain ⟨gv', g1, g2, g3⟩ := (h.lp hl).setL b
  refine ⟨gv', _, g1, h.set (T' := xL1 T l b) hO hl (fun q h1 _ => g3 q h1) (sf' := sf l) ?_ (h.2.2.2.2 l hl).2.2 ⟨rfl, rfl, rfl, rfl, rfl⟩ (fun m hm => ⟨rfl, rfl, rfl, if_neg hm, rfl, rfl, rfl, rfl⟩), hO.off hn hl (fun q h1 _ => g3 q h1), g2.f2⟩
  show Lp gv' (LA l) (SA l) (tK T l) (tC T l) (tR T l) (if l = l then b else tL T l) (tS T l) (sf l)
  rw [if_pos rfl]
  exact g2
theorem TOK.xL1 {T : TS} (h : TOK T) {l : Nat} {b : Bool} : TOK (xL1 T l b) := h
theorem RT.xL1 {T : TS} (hR : RT T wa ka la ra li sa wh ce mi st) {l : Nat} {b : Bool} {y : Int32} (hy : y = if b = true then 1 else 0) : RT (xL1 T l b) wa ka la ra (upd li l y) sa wh ce mi st := by
  obtain ⟨h1, h2, h3⟩ := hR
  refine ⟨h1, h2, fun k hk => ?_⟩
  obtain ⟨k1, k2, k3, k4, k5⟩ := h3 k hk
  refine ⟨k1, k2, k3, ?_, k5⟩
  show upd li l y k = if (if k = l then b else tL T k) = true then 1 else 0
  by_cases e : k = l
  · rw [e, upd_s, if_pos rfl, hy]
  · rw [upd_n e, if_neg e]; exact k4
theorem q_light (hT : SOK S) (h : CX gv M hx ow S) (hX : XR S re wa ka la ra li sa wh ce mi st ta ke ro (nI (tn (zT S))) (nI (tp (zT S))) (nI (tM (zT S))) (nI (zl S)) hi (nI (zr S))) (v w : Int32) : ∃ r S' re' li', CA gv M hx ow (f_X11_light gv hx v w) r S' ∧ f_X12_light re li (nI (tn (zT S))) v w = some (r, re', li') ∧ XR S' re' wa ka la ra li' sa wh ce mi st ta ke ro (nI (tn (zT S))) (nI (tp (zT S))) (nI (tM (zT S))) (nI (zl S)) hi (nI (zr S)) ∧ SOK S' := by
  obtain ⟨he, th, la1, pa, fl, pf, LA, SA, sf, e4, ⟨fs, hO⟩, hC, hOW, ht1, ht2⟩ := id h.here
  have n1 : ¬ (1 : Int32) = 0 := by decide
  have hn : tn (zT S) ≤ 6 := hT.1.2.2.1
  have hp : tp (zT S) ≤ 4 := hT.1.2.2.2.1
  unfold f_X11_light f_X12_light
  simp only [e4, hC.o, obs]
  rcases idx v (n := tn (zT S)) (by omega) with hv | ⟨l, hl, e⟩
  · refine ⟨-1, sNo S 1, upd re 1 (re 1 + 1), li, ?_, ?_, hX.no 1, hT.no 1⟩
    · rw [hC.lampNo hv]
      exact h.no hT (by decide) (by decide) lm1
    · rw [xil_no hv]
      simp only [obs, if_true, z1, if_false]
      rw [lm1, xno_ok (by decide)]
      rfl
  · subst e
    have hlp := hC.lp hl
    have h6 : l < 6 := by omega
    have hli := (hX.2.1.2.2 l hl).2.2.2.1
    rw [hC.lampAt hT.1 hl, xil_ok hl (by omega)]
    simp only [obs, n1, if_false]
    have main : ∀ b : Bool, w = (if b = true then 1 else 0) → ∃ gv', (gpu gv (LA l) gLC 2 (.int (if w = 1 then 1 else 0)) = some gv') ∧ CX gv' M hx ow (xL1 (zT S) l b, S.2) ∧ Keep gv gv' ow ow ∧ f_X12_isIn w 0 1 = some 1 ∧ RT (xL1 (zT S) l b) wa ka la ra (upd li l w) sa wh ce mi st := by
      intro b hb
      obtain ⟨g1, sf1, a1, a2, a3, -⟩ := hC.setL (b := b) hOW hn hl
      have K1 := h.town hT e4 hOW.1 ⟨_, _, _, _, _, _, _, a2, hOW⟩ a3
      refine ⟨g1, ?_, K1.1, K1.2, ?_, hX.2.1.xL1 hb⟩
      · rw [hb]
        cases b with
        | true => exact a1
        | false => exact a1
      · rw [hb]
        cases b <;> decide
    have yes : f_X11_yes (if tL (zT S) l = true then 1 else 0) = some (if tL (zT S) l = true then 1 else 0) := by
      unfold f_X11_yes
      cases tL (zT S) l <;> rfl
    by_cases c0 : w = 0
    · obtain ⟨gv', a1, a2, a3, a4, a5⟩ := main false c0
      refine ⟨if tL (zT S) l = true then 1 else 0, (xL1 (zT S) l false, S.2), re, upd li l w, ⟨gv', ow, ?_, a2, a3⟩, ?_, ⟨hX.1, a5, hX.2.2⟩, ⟨hT.1.xL1, hT.2⟩⟩
      · rw [if_pos c0, hlp.f2]
        simp only [obs]
        rw [yes]
        simp only [obs]
        rw [gzb_if, a1]
        simp only [obs]
      · rw [a4]
        simp only [obs, n1, if_false, if_true, gix_ok h6 (show 6 < 2 ^ 31 by decide), nI_clamp (show l < 2 ^ 31 by omega), hli]
    · by_cases c1 : w = 1
      · obtain ⟨gv', a1, a2, a3, a4, a5⟩ := main true c1
        refine ⟨if tL (zT S) l = true then 1 else 0, (xL1 (zT S) l true, S.2), re, upd li l w, ⟨gv', ow, ?_, a2, a3⟩, ?_, ⟨hX.1, a5, hX.2.2⟩, ⟨hT.1.xL1, hT.2⟩⟩
        · rw [if_neg c0, if_pos c1, hlp.f2]
          simp only [obs]
          rw [yes]
          simp only [obs]
          rw [gzb_if, a1]
          simp only [obs]
        · rw [a4]
          simp only [obs, n1, if_false, if_true, gix_ok h6 (show 6 < 2 ^ 31 by decide), nI_clamp (show l < 2 ^ 31 by omega), hli]
      · refine ⟨-2, sNo S 2, upd re 2 (re 2 + 1), li, ?_, ?_, hX.no 2, hT.no 2⟩
        · rw [if_neg c0, if_neg c1]
          exact h.no hT (by decide) (by decide) lm2
        · have hin : f_X12_isIn w 0 1 = some 0 := by
            unfold f_X12_isIn
            rcases i_cas w with g | ⟨y, hy, ey⟩
            · simp only [g, if_true, gzb_0]
            · have h3 : 2 ≤ y := by
                rcases Nat.lt_or_ge y 2 with g | g
                · have hy3 : y = 0 ∨ y = 1 := by omega
                  rcases hy3 with rfl | rfl
                  · exact absurd ey c0
                  · exact absurd ey c1
                · exact g
              have k1 : ¬ w < 0 := by rw [ey]; exact nI_pos hy
              have k2 : 1 < w := by rw [ey]; exact nI_lt (a := 1) (by omega) hy
              simp only [k1, k2, if_true, if_false, gzb_0]
          rw [hin]
          simp only [obs, if_true, z2, if_false]
          rw [lm2, xno_ok (by decide)]
          rfl
/-! a letter more, a number more of the row -/
def sL (S : SS) (j : Nat) : SS := (zT S, zI S, zU S, zF S, (fun k => if k = zl S then j else zL S k), zl S + 1, zR S, zr S)
def sR (S : SS) (j : Nat) : SS := (zT S, zI S, zU S, zF S, zL S, zl S, (fun k => if k = zr S then j else zR S k), zr S + 1)
theorem upd_more {f : Nat → Int32} {g : Nat → Nat} {n j : Nat} (hf : ∀ k, k < n → f k = nI (g k)) : ∀ k, k < n + 1 → upd f n (nI j) k = nI (if k = n then j else g k) := by
  intro k hk
  by_cases e : k = n
  · rw [e, upd_s, if_pos rfl]
  · rw [upd_n e, if_neg e, hf k (by omega)]
theorem CX.addL (h : CX gv M hx ow S) (hT : SOK S) {j : Nat} (hz : zl S < 96) : ∃ lt gv', gfR gv hx [9] 0 = some (some lt) ∧ (∃ o, gfO gv lt [5] = some o) ∧ f_X6_isFull gv lt = some 0 ∧ f_X6_add gv lt (nI j) = some (nI (zl S + 1), gv') ∧ CX gv' M hx ow (sL S j) ∧ Keep gv gv' ow ow := by
  obtain ⟨lt, tx, ro, rf, tk, he, sp, th, ts, tf, rof, rff, ⟨c1, c2, c3, c4, c5, ⟨o1, o2, o3, o4, o5⟩, c6, c7, c8⟩, hW, hM⟩ := h
  have nlt : lt ≠ tx := fun e => by rw [e] at o2; omega
  have f1 : gfI gv lt [5] 1 = some (nI (zl S)) := gfI_of c2 (by decide) rfl
  have f0 : gfR gv lt [5] 0 = some (some tx) := gfR_of c2 (by decide) rfl
  obtain ⟨ga, hga⟩ : ∃ ga, ga = va_up gv tx (.inr (.inl (96, upd tf (zl S) (nI j)))) := ⟨_, rfl⟩
  have hs : gas gv tx (nI (zl S)) (nI j) = some ga := by
    rw [hga]
    exact gas_of c3 hz (by decide)
  have d2 : ga lt = .inl (5, [.ref tx, .int (nI (zl S))]) := by
    rw [hga, va_ne nlt]
    exact c2
  have k1 : gfI ga lt [5] 1 = some (nI (zl S)) := gfI_of d2 (by decide) rfl
  obtain ⟨gb, hgb⟩ : ∃ gb, gb = va_up ga lt (.inl (5, [.ref tx, .int (nI (zl S + 1))])) := ⟨_, rfl⟩
  have hp : gpu ga lt [5] 1 (.int (nI (zl S + 1))) = some gb := by
    rw [hgb]
    exact gpu_of d2 (by decide) (by show 1 < 2; decide)
  have d3 : gb lt = .inl (5, [.ref tx, .int (nI (zl S + 1))]) := by rw [hgb, va_up_self]
  have k2 : gfI gb lt [5] 1 = some (nI (zl S + 1)) := gfI_of d3 (by decide) rfl
  have hneg : ¬ nI (zl S) < 0 := nI_pos (by omega)
  have h96 : ¬ nI 96 ≤ nI (zl S) := by rw [nI_leI (by decide) (by omega)]; omega
  have fr : ∀ q, q ≠ lt → q ≠ tx → gb q = gv q := fun q q1 q2 => by rw [hgb, va_ne q1, hga, va_ne q2]
  refine ⟨lt, gb, gfR_of c1 (by decide) rfl, ⟨_, gfO_of c2 (by decide)⟩, ?_, ?_, ⟨lt, tx, ro, rf, tk, he, sp, th, ts, upd tf (zl S) (nI j), rof, rff, ⟨?_, d3, ?_, ?_, ?_, ⟨o1, o2, o3, o4, o5⟩, upd_more c6, c7, c8⟩, hW.frame hT rfl rfl rfl (fun q q1 q2 => ⟨fr q (fun e => by rw [e] at q2; omega) (fun e => by rw [e] at q2; omega), rfl⟩), hM⟩, fun q hq => ⟨fr q (fun e => by rw [e] at hq; omega) (fun e => by rw [e] at hq; omega), rfl⟩⟩
  · unfold f_X6_isFull
    simp only [f1, f0, gal_of c3, obs]
    rw [gzb_fi, if_pos (nI_lt hz (by decide))]
  · unfold f_X6_add
    simp only [f1, hneg, f0, gal_of c3, h96, hs, k1, nI_1, hp, k2, if_false, obs]
  · rw [fr hx (fun e => by rw [e] at o1; omega) (fun e => by rw [e] at o1; omega)]
    exact c1
  · rw [hgb, va_ne (Ne.symm nlt), hga, va_up_self]
  · rw [fr ro (fun e => by rw [e] at o4; omega) (fun e => by rw [e] at o4; omega)]
    exact c4
  · rw [fr rf (fun e => by rw [e] at o5; omega) (fun e => by rw [e] at o5; omega)]
    exact c5
theorem CX.full (h : CX gv M hx ow S) (hz : zl S = 96) : ∃ lt, gfR gv hx [9] 0 = some (some lt) ∧ (∃ o, gfO gv lt [5] = some o) ∧ f_X6_isFull gv lt = some 1 := by
  obtain ⟨lt, tx, ro, rf, tk, he, sp, th, ts, tf, rof, rff, ⟨c1, c2, c3, c4, c5, ⟨o1, o2, o3, o4, o5⟩, c6, c7, c8⟩, hW, hM⟩ := h
  have f1 : gfI gv lt [5] 1 = some (nI (zl S)) := gfI_of c2 (by decide) rfl
  have f0 : gfR gv lt [5] 0 = some (some tx) := gfR_of c2 (by decide) rfl
  refine ⟨lt, gfR_of c1 (by decide) rfl, ⟨_, gfO_of c2 (by decide)⟩, ?_⟩
  unfold f_X6_isFull
  simp only [f1, f0, gal_of c3, obs]
  rw [gzb_fi, if_neg (by rw [hz]; decide)]
theorem q_letter (hT : SOK S) (h : CX gv M hx ow S) (hX : XR S re wa ka la ra li sa wh ce mi st ta ke ro (nI (tn (zT S))) (nI (tp (zT S))) (nI (tM (zT S))) (nI (zl S)) hi (nI (zr S))) (v : Int32) : ∃ r S' re' ta' tt', CA gv M hx ow (f_X11_letter gv hx v) r S' ∧ f_X12_letter re ta (nI (zl S)) v = some (r, re', ta', tt') ∧ XR S' re' wa ka la ra li sa wh ce mi st ta' ke ro (nI (tn (zT S))) (nI (tp (zT S))) (nI (tM (zT S))) tt' hi (nI (zr S)) ∧ SOK S' := by
  obtain ⟨he, th, la1, pa, fl, pf, LA, SA, sf, e4, ⟨fs, hO⟩, hC, -⟩ := id h.here
  have n1 : ¬ (1 : Int32) = 0 := by decide
  have hn : tn (zT S) ≤ 6 := hT.1.2.2.1
  have hp : tp (zT S) ≤ 4 := hT.1.2.2.2.1
  unfold f_X11_letter f_X12_letter
  have hz := hT.2.2.1
  rcases rng v (m := 255) (by decide) with hw | ⟨hw, hw2⟩ | ⟨j, hj, e⟩
  · refine ⟨-4, sNo S 4, upd re 4 (re 4 + 1), ta, _, ?_, ?_, hX.no 4, hT.no 4⟩
    · rw [if_neg hw]
      exact h.no hT (by decide) (by decide) lm4
    · rw [xb_lo hw]
      simp only [obs, z4, if_false]
      rw [lm4, xno_ok (by decide)]
      rfl
  · refine ⟨-6, sNo S 6, upd re 6 (re 6 + 1), ta, _, ?_, ?_, hX.no 6, hT.no 6⟩
    · rw [if_pos hw, if_pos (show (255 : Int32) < v from Int32.not_le.mp hw2)]
      exact h.no hT (by decide) (by decide) lm6
    · rw [xb_hi (M := 255) hw hw2]
      simp only [obs, z6, if_false]
      rw [lm6, xno_ok (by decide)]
      rfl
  · subst e
    have k1 : (0 : Int32) ≤ nI j := nI_pos' (by omega)
    have k2 : ¬ (255 : Int32) < nI j := nI_nlt (a := 255) hj (by decide)
    rw [if_pos k1, if_neg k2, xb_ok (M := 255) (m := 255) rfl hj (by decide)]
    simp only [obs, if_true]
    by_cases c : zl S = 96
    · obtain ⟨lt, a1, ⟨o, a2⟩, a3⟩ := h.full c
      refine ⟨-6, sNo S 6, upd re 6 (re 6 + 1), ta, _, ?_, ?_, hX.no 6, hT.no 6⟩
      · rw [a1]
        simp only [obs]
        rw [a2]
        simp only [obs]
        rw [a3]
        simp only [obs, n1, if_false]
        exact h.no hT (by decide) (by decide) lm6
      · rw [if_pos (show nI (zl S) = 96 by rw [c]; rfl)]
        simp only [obs, z6, if_false]
        rw [lm6, xno_ok (by decide)]
        rfl
    · have hz2 : zl S < 96 := by omega
      obtain ⟨lt, gv', a1, ⟨o, a2⟩, a3, a4, a5, a6⟩ := h.addL hT (j := j) hz2
      refine ⟨nI (zl S + 1), sL S j, re, upd ta (zl S) (nI j), nI (zl S + 1), ⟨gv', ow, ?_, a5, a6⟩, ?_, ⟨hX.1, hX.2.1, hX.2.2.1, ⟨rfl, upd_more hX.2.2.2.1.2⟩, hX.2.2.2.2⟩, ⟨hT.1, hT.2.1, hz2, fun k hk => ?_, hT.2.2.2.2⟩⟩
      · rw [a1]
        simp only [obs]
        rw [a2]
        simp only [obs]
        rw [a3]
        simp only [obs, if_true]
        rw [a4]
        simp only [obs]
      · rw [if_neg (show ¬ nI (zl S) = 96 by rw [show (96 : Int32) = nI 96 from rfl, nI_eq (by omega) (by decide)]; exact c)]
        simp only [obs, if_true]
        rw [gix_ok hz2 (by decide), nI_clamp (show zl S < 2 ^ 31 by omega), nI_1]
      · show (if k = zl S then j else zL S k) < 256
        by_cases e : k = zl S
        · rw [if_pos e]; omega
        · rw [if_neg e]
          exact hT.2.2.2.1 k (by have : k < zl S + 1 := hk; omega)
theorem CX.addR (h : CX gv M hx ow S) (hT : SOK S) {j : Nat} (hz : zr S < 12) : ∃ ro ga gv', gfR gv hx [9] 1 = some (some ro) ∧ gal gv ro = some (nI 12) ∧ gas gv ro (nI (zr S)) (nI j) = some ga ∧ gfI ga hx [9] 6 = some (nI (zr S)) ∧ gpu ga hx [9] 6 (.int (nI (zr S + 1))) = some gv' ∧ gfI gv' hx [9] 6 = some (nI (zr S + 1)) ∧ CX gv' M hx ow (sR S j) ∧ Keep gv gv' ow ow := by
  obtain ⟨lt, tx, ro, rf, tk, he, sp, th, ts, tf, rof, rff, ⟨c1, c2, c3, c4, c5, ⟨o1, o2, o3, o4, o5⟩, c6, c7, c8⟩, hW, hM⟩ := h
  have nlt : hx ≠ ro := fun e => by rw [e] at o1; omega
  obtain ⟨ga, hga⟩ : ∃ ga, ga = va_up gv ro (.inr (.inl (12, upd rof (zr S) (nI j)))) := ⟨_, rfl⟩
  have hs : gas gv ro (nI (zr S)) (nI j) = some ga := by
    rw [hga]
    exact gas_of c4 hz (by decide)
  have d2 : ga hx = .inl (9, [.ref lt, .ref ro, .ref rf, .ref tk, .ref he, .ref sp, .int (nI (zr S)), .int (if zI S = true then 1 else 0)]) := by
    rw [hga, va_ne nlt]
    exact c1
  obtain ⟨gb, hgb⟩ : ∃ gb, gb = va_up ga hx (.inl (9, [.ref lt, .ref ro, .ref rf, .ref tk, .ref he, .ref sp, .int (nI (zr S + 1)), .int (if zI S = true then 1 else 0)])) := ⟨_, rfl⟩
  have hp : gpu ga hx [9] 6 (.int (nI (zr S + 1))) = some gb := by
    rw [hgb]
    exact gpu_of d2 (by decide) (by show 6 < 8; decide)
  have d3 : gb hx = .inl (9, [.ref lt, .ref ro, .ref rf, .ref tk, .ref he, .ref sp, .int (nI (zr S + 1)), .int (if zI S = true then 1 else 0)]) := by rw [hgb, va_up_self]
  have fr : ∀ q, q ≠ hx → q ≠ ro → gb q = gv q := fun q q1 q2 => by rw [hgb, va_ne q1, hga, va_ne q2]
  refine ⟨ro, ga, gb, gfR_of c1 (by decide) rfl, gal_of c4, hs, gfI_of d2 (by decide) rfl, hp, gfI_of d3 (by decide) rfl, ⟨lt, tx, ro, rf, tk, he, sp, th, ts, tf, upd rof (zr S) (nI j), rff, ⟨d3, ?_, ?_, ?_, ?_, ⟨o1, o2, o3, o4, o5⟩, c6, upd_more c7, c8⟩, hW.frame hT rfl rfl rfl (fun q q1 q2 => ⟨fr q (fun e => by rw [e] at q2; omega) (fun e => by rw [e] at q2; omega), rfl⟩), hM⟩, fun q hq => ⟨fr q (fun e => by rw [e] at hq; omega) (fun e => by rw [e] at hq; omega), rfl⟩⟩
  · rw [fr lt (fun e => by rw [e] at o2; omega) (fun e => by rw [e] at o2; omega)]
    exact c2
  · rw [fr tx (fun e => by rw [e] at o3; omega) (fun e => by rw [e] at o3; omega)]
    exact c3
  · rw [hgb, va_ne (Ne.symm nlt), hga, va_up_self]
  · rw [fr rf (fun e => by rw [e] at o5; omega) (fun e => by rw [e] at o5; omega)]
    exact c5
theorem CX.rowL (h : CX gv M hx ow S) : ∃ ro, gfR gv hx [9] 1 = some (some ro) ∧ gal gv ro = some (nI 12) := by
  obtain ⟨lt, tx, ro, rf, tk, he, sp, th, ts, tf, rof, rff, ⟨c1, c2, c3, c4, -⟩, -⟩ := h
  exact ⟨ro, gfR_of c1 (by decide) rfl, gal_of c4⟩
theorem q_row (hT : SOK S) (h : CX gv M hx ow S) (hX : XR S re wa ka la ra li sa wh ce mi st ta ke ro (nI (tn (zT S))) (nI (tp (zT S))) (nI (tM (zT S))) (nI (zl S)) hi (nI (zr S))) (v : Int32) : ∃ r S' re' ro' rn', CA gv M hx ow (f_X11_row gv hx v) r S' ∧ f_X12_row re ro (nI (zr S)) v = some (r, re', ro', rn') ∧ XR S' re' wa ka la ra li sa wh ce mi st ta ke ro' (nI (tn (zT S))) (nI (tp (zT S))) (nI (tM (zT S))) (nI (zl S)) hi rn' ∧ SOK S' := by
  obtain ⟨he, th, la1, pa, fl, pf, LA, SA, sf, e4, ⟨fs, hO⟩, hC, -⟩ := id h.here
  have n1 : ¬ (1 : Int32) = 0 := by decide
  have hn : tn (zT S) ≤ 6 := hT.1.2.2.1
  have hp : tp (zT S) ≤ 4 := hT.1.2.2.2.1
  unfold f_X11_row f_X12_row
  have hz := hT.2.2.2.2.1
  have hneg : ¬ nI (zr S) < 0 := nI_pos (by omega)
  rcases rng v (m := 99) (by decide) with hw | ⟨hw, hw2⟩ | ⟨j, hj, e⟩
  · refine ⟨-4, sNo S 4, upd re 4 (re 4 + 1), ro, _, ?_, ?_, hX.no 4, hT.no 4⟩
    · rw [if_neg hw]
      exact h.no hT (by decide) (by decide) lm4
    · rw [xb_lo hw]
      simp only [obs, z4, if_false]
      rw [lm4, xno_ok (by decide)]
      rfl
  · refine ⟨-6, sNo S 6, upd re 6 (re 6 + 1), ro, _, ?_, ?_, hX.no 6, hT.no 6⟩
    · rw [if_pos hw, if_pos (show (99 : Int32) < v from Int32.not_le.mp hw2)]
      exact h.no hT (by decide) (by decide) lm6
    · rw [xb_hi (M := 99) hw hw2]
      simp only [obs, z6, if_false]
      rw [lm6, xno_ok (by decide)]
      rfl
  · subst e
    have k1 : (0 : Int32) ≤ nI j := nI_pos' (by omega)
    have k2 : ¬ (99 : Int32) < nI j := nI_nlt (a := 99) hj (by decide)
    rw [if_pos k1, if_neg k2, xb_ok (M := 99) (m := 99) rfl hj (by decide), h.inRow]
    simp only [obs, if_true, hneg, if_false]
    by_cases c : zr S = 12
    · obtain ⟨ro1, a1, a2⟩ := h.rowL
      refine ⟨-6, sNo S 6, upd re 6 (re 6 + 1), ro, _, ?_, ?_, hX.no 6, hT.no 6⟩
      · rw [a1]
        simp only [obs]
        rw [a2]
        simp only [obs]
        rw [if_neg (by rw [c]; decide)]
        exact h.no hT (by decide) (by decide) lm6
      · rw [if_pos (show nI (zr S) = 12 by rw [c]; rfl)]
        simp only [obs, z6, if_false]
        rw [lm6, xno_ok (by decide)]
        rfl
    · have hz2 : zr S < 12 := by omega
      obtain ⟨ro1, ga, gv', a1, a2, a3, a4, a5, a6, a7, a8⟩ := h.addR hT (j := j) hz2
      refine ⟨nI (zr S + 1), sR S j, re, upd ro (zr S) (nI j), nI (zr S + 1), ⟨gv', ow, ?_, a7, a8⟩, ?_, ⟨hX.1, hX.2.1, hX.2.2.1, hX.2.2.2.1, hX.2.2.2.2.1, ⟨rfl, upd_more hX.2.2.2.2.2.2⟩⟩, ⟨hT.1, hT.2.1, hT.2.2.1, hT.2.2.2.1, hz2, fun k hk => ?_⟩⟩
      · rw [a1]
        simp only [obs]
        rw [a2]
        simp only [obs]
        rw [if_pos (nI_lt hz2 (by decide)), a3]
        simp only [obs, a4, nI_1, a5, a6]
      · rw [if_neg (show ¬ nI (zr S) = 12 by rw [show (12 : Int32) = nI 12 from rfl, nI_eq (by omega) (by decide)]; exact c)]
        simp only [obs, if_true]
        rw [gix_ok hz2 (by decide), nI_clamp (show zr S < 2 ^ 31 by omega), nI_1]
      · show (if k = zr S then j else zR S k) < 100
        by_cases e : k = zr S
        · rw [if_pos e]; omega
        · rw [if_neg e]
          exact hT.2.2.2.2.2 k (by have : k < zr S + 1 := hk; omega)
end
