/-! THE CALLS, ONE BY ONE: both sides answer alike, and go on alike -/
def CA (gv : Nat → GV) (M hx : Nat) (ow : Nat → Nat) (f : Option (Int32 × (Nat → GV))) (r : Int32) (S' : SS) : Prop := ∃ gv' ow', f = some (r, gv') ∧ CX gv' M hx ow' S' ∧ Keep gv gv' ow ow'
theorem idx (x : Int32) {n : Nat} (hn : n < 2 ^ 31) : (x < 0 ∨ nI n ≤ x) ∨ ∃ j, j < n ∧ x = nI j := by
  rcases pk_ix x hn with h | h | h
  · exact Or.inl (Or.inl h)
  · exact Or.inl (Or.inr h)
  · exact Or.inr h
theorem rng (x : Int32) {m : Nat} (hm : m < 2 ^ 31) : (¬ (0 : Int32) ≤ x) ∨ ((0 : Int32) ≤ x ∧ ¬ x ≤ nI m) ∨ ∃ t, t ≤ m ∧ x = nI t := by
  rcases i_cas x with h | ⟨j, hj, e⟩
  · exact Or.inl (Int32.not_le.mpr h)
  · rcases Nat.lt_or_ge m j with g | g
    · exact Or.inr (Or.inl ⟨by rw [e]; exact nI_pos' hj, by rw [e, nI_leI hj hm]; omega⟩)
    · exact Or.inr (Or.inr ⟨j, g, e⟩)
theorem xil_no {n v : Int32} (h : v < 0 ∨ n ≤ v) : f_X12_isLamp n v = some 0 := by
  unfold f_X12_isLamp
  by_cases h0 : v < 0
  · simp only [h0, if_true, gzb_0]
  · simp only [h0, h.resolve_left h0, if_true, if_false, gzb_0]
theorem xil_ok {n l : Nat} (h : l < n) (hn : n < 2 ^ 31) : f_X12_isLamp (nI n) (nI l) = some 1 := by
  unfold f_X12_isLamp
  have h1 : ¬ nI l < 0 := nI_pos (by omega)
  have h2 : ¬ nI n ≤ nI l := by rw [nI_leI hn (by omega)]; omega
  simp only [h1, h2, if_false, gzb_1]
theorem xip_no {n v : Int32} (h : v < 0 ∨ n ≤ v) : f_X12_isPerson n v = some 0 := xil_no h
theorem xip_ok {n l : Nat} (h : l < n) (hn : n < 2 ^ 31) : f_X12_isPerson (nI n) (nI l) = some 1 := xil_ok h hn
theorem xic_no {v : Int32} (h : v < 0 ∨ nI 36 ≤ v) : f_X12_isCell v = some 0 := xil_no (n := nI 36) h
theorem xic_ok {c : Nat} (h : c < 36) : f_X12_isCell (nI c) = some 1 := xil_ok (n := 36) h (by decide)
theorem cic_no {v : Int32} (h : v < 0 ∨ nI 36 ≤ v) : f_X2_isOne v = some 0 := xil_no (n := nI 36) h
theorem cic_ok {c : Nat} (h : c < 36) : f_X2_isOne (nI c) = some 1 := xil_ok (n := 36) h (by decide)
section
variable {gv : Nat → GV} {M hx : Nat} {ow : Nat → Nat} {S : SS} {re wa ka la ra li sa wh ce mi st ta ke ro : Nat → Int32} {hi : Int32} {fa sh qu lb may : Nat → Int32} {q : Int32}
theorem CX.same (h : CX gv M hx ow S) {f : Option (Int32 × (Nat → GV))} {r : Int32} (e : f = some (r, gv)) : CA gv M hx ow f r S := ⟨gv, ow, e, h, Keep.rf⟩
theorem CX.no (h : CX gv M hx ow S) (hT : SOK S) {v : Int32} {k : Nat} (hk : 0 < k) (hk7 : k < 7) (e : v = -nI k) : CA gv M hx ow (((gfO gv hx [9]).bind fun _ => f_X11_refuse gv hx v).bind fun o => some (o.1, o.2)) v (sNo S k) := by
  obtain ⟨gv', e1, e2, e3⟩ := h.refuse hT hk hk7
  obtain ⟨he, th, la, pa, fl, pf, LA, SA, sf, -, ⟨fs, hf⟩, -⟩ := h.here
  refine ⟨gv', ow, ?_, e2, e3⟩
  rw [hf, e]
  simp only [Option.bind_some]
  rw [e1]
  rfl
theorem lm1 : (-1 : Int32) = -nI 1 := by decide
theorem lm2 : (-2 : Int32) = -nI 2 := by decide
theorem lm3 : (-3 : Int32) = -nI 3 := by decide
theorem lm4 : (-4 : Int32) = -nI 4 := by decide
theorem lm6 : (-6 : Int32) = -nI 6 := by decide
/-- where -/
theorem q_where (hT : SOK S) (h : CX gv M hx ow S) (hX : XR S re wa ka la ra li sa wh ce mi st ta ke ro (nI (tn (zT S))) (nI (tp (zT S))) (nI (tM (zT S))) (nI (zl S)) hi (nI (zr S))) (v : Int32) : ∃ r S' re', CA gv M hx ow (f_X11_where gv hx v) r S' ∧ f_X12_where re st (nI (tp (zT S))) v = some (r, re') ∧ XR S' re' wa ka la ra li sa wh ce mi st ta ke ro (nI (tn (zT S))) (nI (tp (zT S))) (nI (tM (zT S))) (nI (zl S)) hi (nI (zr S)) ∧ SOK S' := by
  obtain ⟨he, th, la, pa, fl, pf, LA, SA, sf, e4, ⟨fs, hO⟩, hC, -⟩ := id h.here
  have hp : tp (zT S) ≤ 4 := hT.1.2.2.2.1
  unfold f_X11_where f_X12_where
  rcases idx v (n := tp (zT S)) (by omega) with hv | ⟨p, hv, e⟩
  · refine ⟨-1, sNo S 1, upd re 1 (re 1 + 1), ?_, ?_, hX.no 1, hT.no 1⟩
    · obtain ⟨gv', ow', a1, a2, a3⟩ := h.no hT (k := 1) (by decide) (by decide) lm1
      refine ⟨gv', ow', ?_, a2, a3⟩
      have hz : (if v < 0 then 0 else if nI (tp (zT S)) ≤ v then 0 else 1 : Int32) = 0 := by
        by_cases h0 : v < 0
        · rw [if_pos h0]
        · rw [if_neg h0, if_pos (hv.resolve_left h0)]
      simp only [e4, hC.o, Option.bind_some, hC.isPerson hT.1, hz, if_true, a1]
    · rw [xip_no hv]
      simp only [Option.bind_some, if_true]
      rw [lm1, xno_ok (by decide)]
      rfl
  · subst e
    have hz : (if nI p < 0 then 0 else if nI (tp (zT S)) ≤ nI p then 0 else 1 : Int32) = 1 := by
      rw [if_neg (nI_pos (by omega)), if_neg (by rw [nI_leI (by omega) (by omega)]; omega)]
    have n1 : ¬ (1 : Int32) = 0 := by decide
    refine ⟨nI (tP (zT S) p), S, re, h.same ?_, ?_, hX, hT⟩
    · simp only [e4, hC.o, Option.bind_some, hC.isPerson hT.1, hz, n1, if_false, hC.cellOf hT.1 hv]
    · rw [xip_ok hv (by omega)]
      simp only [Option.bind_some, n1, if_false]
      rw [gix_ok (show p < 4 by omega) (by decide), nI_clamp (show p < 2 ^ 31 by omega), hX.2.1.2.1 p hv]
      rfl
/-- steps -/
theorem q_steps (hT : SOK S) (h : CX gv M hx ow S) (hX : XR S re wa ka la ra li sa wh ce mi st ta ke ro (nI (tn (zT S))) (nI (tp (zT S))) (nI (tM (zT S))) (nI (zl S)) hi (nI (zr S))) (v w : Int32) : ∃ r S' re' fa' sh' qu' q', CA gv M hx ow (f_X11_steps gv hx v w) r S' ∧ f_X12_steps re wa fa sh qu q v w = some (r, re', fa', sh', qu', q') ∧ XR S' re' wa ka la ra li sa wh ce mi st ta ke ro (nI (tn (zT S))) (nI (tp (zT S))) (nI (tM (zT S))) (nI (zl S)) hi (nI (zr S)) ∧ SOK S' := by
  obtain ⟨he, th, la, pa, fl, pf, LA, SA, sf, e4, ⟨fs, hO⟩, hC, -⟩ := id h.here
  have n1 : ¬ (1 : Int32) = 0 := by decide
  unfold f_X11_steps f_X12_steps
  rcases idx v (n := 36) (by decide) with hv | ⟨a, ha, e⟩
  · refine ⟨-1, sNo S 1, upd re 1 (re 1 + 1), fa, sh, qu, q, ?_, ?_, hX.no 1, hT.no 1⟩
    · rw [cic_no hv]
      exact h.no hT (by decide) (by decide) lm1
    · rw [xic_no hv]
      simp only [Option.bind_some, if_true]
      rw [lm1, xno_ok (by decide)]
      rfl
  · subst e
    rcases idx w (n := 36) (by decide) with hv | ⟨t, ht, e⟩
    · refine ⟨-1, sNo S 1, upd re 1 (re 1 + 1), fa, sh, qu, q, ?_, ?_, hX.no 1, hT.no 1⟩
      · rw [cic_ok ha, cic_no hv]
        simp only [Option.bind_some, n1, if_false]
        exact h.no hT (by decide) (by decide) lm1
      · rw [xic_ok ha, xic_no hv]
        simp only [Option.bind_some, n1, if_true, if_false]
        rw [lm1, xno_ok (by decide)]
        rfl
    · subst e
      obtain ⟨fa', sh', qu', q', e1, h1⟩ := xsteps_ok hX.2.1 (fa := fa) (sh := sh) (qu := qu) (q := q) ha ht
      refine ⟨fa' t, S, re, fa', sh', qu', q', h.same ?_, ?_, hX, hT⟩
      · rw [cic_ok ha, cic_ok ht]
        simp only [e4, hC.o, hC.free, Option.bind_some, n1, if_false]
        rw [fewest_b fr36 ha ht h1]
        rfl
      · rw [xic_ok ha, xic_ok ht, e1]
        simp only [Option.bind_some, n1, if_false]
/-- lamp -/
theorem q_lamp (hT : SOK S) (h : CX gv M hx ow S) (hX : XR S re wa ka la ra li sa wh ce mi st ta ke ro (nI (tn (zT S))) (nI (tp (zT S))) (nI (tM (zT S))) (nI (zl S)) hi (nI (zr S))) (v w : Int32) : ∃ r S' re' fa' sh' qu' q' lb', CA gv M hx ow (f_X11_lamp gv hx v w) r S' ∧ f_X12_lamp re wa ka la ra li sa st (nI (tn (zT S))) (nI (tp (zT S))) fa sh qu q lb v w = some (r, re', fa', sh', qu', q', lb') ∧ XR S' re' wa ka la ra li sa wh ce mi st ta ke ro (nI (tn (zT S))) (nI (tp (zT S))) (nI (tM (zT S))) (nI (zl S)) hi (nI (zr S)) ∧ SOK S' := by
  obtain ⟨he, th, la1, pa, fl, pf, LA, SA, sf, e4, ⟨fs, hO⟩, hC, -⟩ := id h.here
  have n1 : ¬ (1 : Int32) = 0 := by decide
  have hn : tn (zT S) ≤ 6 := hT.1.2.2.1
  unfold f_X11_lamp f_X12_lamp
  simp only [e4, hC.o, Option.bind_some]
  rcases idx v (n := tn (zT S)) (by omega) with hv | ⟨l, hl, e⟩
  · refine ⟨-1, sNo S 1, upd re 1 (re 1 + 1), fa, sh, qu, q, lb, ?_, ?_, hX.no 1, hT.no 1⟩
    · rw [hC.lampNo hv]
      exact h.no hT (by decide) (by decide) lm1
    · rw [xil_no hv]
      simp only [Option.bind_some, if_true]
      rw [lm1, xno_ok (by decide)]
      rfl
  · subst e
    obtain ⟨r1, r2, r3, r4, r5, -⟩ := hX.2.1.2.2 l hl
    have hlp := hC.lp hl
    have h6 : l < 6 := by omega
    have hk7 := (hT.1.2.2.2.2.2.2 l hl).1
    rw [hC.lampAt hT.1 hl, xil_ok hl (by omega)]
    simp only [Option.bind_some, n1, if_false, gix_ok h6 (show 6 < 2 ^ 31 by decide), nI_clamp (show l < 2 ^ 31 by omega), r1, r3, r4, r5]
    by_cases c0 : w = 0
    · refine ⟨nI (tK (zT S) l), S, re, fa, sh, qu, q, lb, h.same ?_, ?_, hX, hT⟩
      · rw [if_pos c0, hlp.kind hk7]
        rfl
      · rw [if_pos c0]
    · rw [if_neg c0, if_neg c0]
      by_cases c1 : w = 1
      · refine ⟨nI (tN (zT S) l), S, re, fa, sh, qu, q, lb, h.same ?_, ?_, hX, hT⟩
        · rw [if_pos c1, hC.cellNow hT.1 hl]
          rfl
        · rw [if_pos c1, xcellOf_ok hT.1 hX.2.1 hl]
          rfl
      · rw [if_neg c1, if_neg c1]
        by_cases c2 : w = 2
        · refine ⟨nI (tR (zT S) l), S, re, fa, sh, qu, q, lb, h.same ?_, ?_, hX, hT⟩
          · rw [if_pos c2, hlp.f1]
            rfl
          · rw [if_pos c2]
        · rw [if_neg c2, if_neg c2]
          by_cases c3 : w = 3
          · refine ⟨if tL (zT S) l = true then 1 else 0, S, re, fa, sh, qu, q, lb, h.same ?_, ?_, hX, hT⟩
            · rw [if_pos c3, hlp.f2]
              simp only [Option.bind_some]
              unfold f_X11_yes
              cases tL (zT S) l <;> rfl
            · rw [if_pos c3]
          · rw [if_neg c3, if_neg c3]
            by_cases c4 : w = 4
            · refine ⟨nI (tS (zT S) l), S, re, fa, sh, qu, q, lb, h.same ?_, ?_, hX, hT⟩
              · rw [if_pos c4, hlp.f3]
                rfl
              · rw [if_pos c4]
            · rw [if_neg c4, if_neg c4]
              by_cases c5 : w = 5
              · obtain ⟨fa', sh', qu', q', lb', x1, -⟩ := xcells_ok hT.1 hX.2.1 (fa := fa) (sh := sh) (qu := qu) (q := q) (lb := lb) (2 ^ l)
                refine ⟨nI (cnt (tG (zT S) l) 36), S, re, fa', sh', qu', q', lb', h.same ?_, ?_, hX, hT⟩
                · rw [if_pos c5, hC.glow hT.1 hl]
                  simp only [Option.bind_some]
                  rw [howMany_b]
                  rfl
                · rw [if_pos c5, sh1 (by omega), x1]
                  simp only [Option.bind_some]
                  have hc : cnt (gS (zT S) (2 ^ l)) 36 = cnt (tG (zT S) l) 36 := cnt_cong (fun c _ => by
                    unfold gS
                    cases hg : tG (zT S) l c with
                    | true => exact anyB_iff.mpr ⟨l, hl, by rw [one_tb]; simp [hg]⟩
                    | false =>
                      cases hq : anyB (fun k => (2 ^ l).testBit k && tG (zT S) k c) (tn (zT S)) with
                      | false => rfl
                      | true =>
                        obtain ⟨k, k1, k2⟩ := anyB_iff.mp hq
                        rw [one_tb] at k2
                        simp only [Bool.and_eq_true, decide_eq_true_eq] at k2
                        rw [k2.1] at k2
                        rw [hg] at k2
                        cases k2.2)
                  rw [hc]
              · refine ⟨-2, sNo S 2, upd re 2 (re 2 + 1), fa, sh, qu, q, lb, ?_, ?_, hX.no 2, hT.no 2⟩
                · rw [if_neg c5]
                  exact h.no hT (by decide) (by decide) lm2
                · rw [if_neg c5, lm2, xno_ok (by decide)]
                  rfl
/-- lights -/
theorem q_lights (hT : SOK S) (h : CX gv M hx ow S) (hX : XR S re wa ka la ra li sa wh ce mi st ta ke ro (nI (tn (zT S))) (nI (tp (zT S))) (nI (tM (zT S))) (nI (zl S)) hi (nI (zr S))) (v w : Int32) : ∃ r S' re' fa' sh' qu' q' lb', CA gv M hx ow (f_X11_lights gv hx v w) r S' ∧ f_X12_lights re wa ka la ra st (nI (tn (zT S))) (nI (tp (zT S))) fa sh qu q lb v w = some (r, re', fa', sh', qu', q', lb') ∧ XR S' re' wa ka la ra li sa wh ce mi st ta ke ro (nI (tn (zT S))) (nI (tp (zT S))) (nI (tM (zT S))) (nI (zl S)) hi (nI (zr S)) ∧ SOK S' := by
  obtain ⟨he, th, la1, pa, fl, pf, LA, SA, sf, e4, ⟨fs, hO⟩, hC, -⟩ := id h.here
  have n1 : ¬ (1 : Int32) = 0 := by decide
  have hn : tn (zT S) ≤ 6 := hT.1.2.2.1
  unfold f_X11_lights f_X12_lights
  simp only [e4, hC.o, Option.bind_some]
  rcases idx v (n := tn (zT S)) (by omega) with hv | ⟨l, hl, e⟩
  · refine ⟨-1, sNo S 1, upd re 1 (re 1 + 1), fa, sh, qu, q, lb, ?_, ?_, hX.no 1, hT.no 1⟩
    · rw [hC.lampNo hv]
      exact h.no hT (by decide) (by decide) lm1
    · rw [xil_no hv]
      simp only [Option.bind_some, if_true]
      rw [lm1, xno_ok (by decide)]
      rfl
  · subst e
    rw [hC.lampAt hT.1 hl, xil_ok hl (by omega)]
    simp only [Option.bind_some, n1, if_false]
    rcases idx w (n := 36) (by decide) with hv | ⟨c, hc, e⟩
    · refine ⟨-1, sNo S 1, upd re 1 (re 1 + 1), fa, sh, qu, q, lb, ?_, ?_, hX.no 1, hT.no 1⟩
      · rw [cic_no hv]
        exact h.no hT (by decide) (by decide) lm1
      · rw [xic_no hv]
        simp only [Option.bind_some, if_true]
        rw [lm1, xno_ok (by decide)]
        rfl
    · subst e
      obtain ⟨fa', sh', qu', q', lb', x1, x2⟩ := xfindLit_ok hT.1 hX.2.1 (fa := fa) (sh := sh) (qu := qu) (q := q) (lb := lb)
      refine ⟨if tG (zT S) l c = true then 1 else 0, S, re, fa', sh', qu', q', lb', h.same ?_, ?_, hX, hT⟩
      · rw [cic_ok hc, hC.glow hT.1 hl]
        simp only [Option.bind_some, n1, if_false]
        rw [has_b hc]
        simp only [Option.bind_some]
        unfold f_X11_yes
        cases tG (zT S) l c <;> rfl
      · rw [xic_ok hc, x1]
        simp only [Option.bind_some, n1, if_false]
        rw [gix_ok hc (by decide), nI_clamp (show c < 2 ^ 31 by omega), x2 c hc, ib_bit (bm_i (by omega)) (by omega), bm_tb]
        simp only [hl, decide_true, Bool.true_and]
        cases tG (zT S) l c <;> rfl
end
