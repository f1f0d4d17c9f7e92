theorem xb_lo {v M : Int32} (h : ¬ (0 : Int32) ≤ v) : f_X12_bound v 0 M = some (-4) := by
  unfold f_X12_bound
  rw [if_neg h]
theorem xb_hi {v M : Int32} (h : (0 : Int32) ≤ v) (h2 : ¬ v ≤ M) : f_X12_bound v 0 M = some (-6) := by
  unfold f_X12_bound
  rw [if_pos h, if_neg h2]
theorem xb_ok {t m : Nat} {M : Int32} (hM : M = nI m) (ht : t ≤ m) (hm : m < 2 ^ 31) : f_X12_bound (nI t) 0 M = some 0 := by
  unfold f_X12_bound
  rw [hM, if_pos (nI_pos' (by omega)), if_pos (nI_le ht hm)]
theorem co_lo {v M : Int32} (h : ¬ (0 : Int32) ≤ v) : f_X11_outside v 0 M = some (-4) := by
  unfold f_X11_outside
  rw [if_neg h]
theorem co_hi {v M : Int32} (h : (0 : Int32) ≤ v) (h2 : ¬ v ≤ M) : f_X11_outside v 0 M = some (-6) := by
  unfold f_X11_outside
  rw [if_pos h, if_neg h2]
theorem co_ok {t m : Nat} {M : Int32} (hM : M = nI m) (ht : t ≤ m) (hm : m < 2 ^ 31) : f_X11_outside (nI t) 0 M = some 0 := by
  unfold f_X11_outside
  rw [hM, if_pos (nI_pos' (by omega)), if_pos (nI_le ht hm)]
theorem z1 : ¬ (-1 : Int32) = 0 := by decide
theorem z2 : ¬ (-2 : Int32) = 0 := by decide
theorem z3 : ¬ (-3 : Int32) = 0 := by decide
theorem z4 : ¬ (-4 : Int32) = 0 := by decide
theorem z6 : ¬ (-6 : Int32) = 0 := by decide
theorem g1 : ¬ (0 : Int32) ≤ -1 := by decide
theorem g4 : ¬ (0 : Int32) ≤ -4 := by decide
theorem g6 : ¬ (0 : Int32) ≤ -6 := by decide
theorem g0 : (0 : Int32) ≤ 0 := by decide
section
variable {gv : Nat → GV} {M hx : Nat} {ow : Nat → Nat} {S : SS} {re wa ka la ra li sa wh ce mi st ta ke ro : Nat → Int32} {hi : Int32} {fa sh qu lb may : Nat → Int32} {q : Int32}
theorem CT.isP_no {a la pa : Nat} {T : TS} {fl : Nat → Option Nat} {pf : Nat → Int32} {LA SA : Nat → Nat} {sf : Nat → Nat → Int32} (h : CT gv a T la pa fl pf LA SA sf) (hT : TOK T) {v : Int32} (hv : v < 0 ∨ nI (tp T) ≤ v) : f_X10_isPerson gv a v = some 0 := by
  rw [h.isPerson hT]
  by_cases h0 : v < 0
  · rw [if_pos h0]
  · rw [if_neg h0, if_pos (hv.resolve_left h0)]
theorem CT.isP_ok {a la pa : Nat} {T : TS} {fl : Nat → Option Nat} {pf : Nat → Int32} {LA SA : Nat → Nat} {sf : Nat → Nat → Int32} (h : CT gv a T la pa fl pf LA SA sf) (hT : TOK T) {p : Nat} (hp : p < tp T) : f_X10_isPerson gv a (nI p) = some 1 := by
  have := hT.2.2.2.1
  rw [h.isPerson hT, if_neg (nI_pos (by omega)), if_neg (by rw [nI_leI (by omega) (by omega)]; omega)]
/-- shown -/
theorem q_shown (hT : SOK S) (h : CX gv M hx ow S) (hX : XR S re wa ka la ra li sa wh ce mi st ta ke ro (nI (tn (zT S))) (nI (tp (zT S))) (nI (tM (zT S))) (nI (zl S)) hi (nI (zr S))) (v w z : Int32) : ∃ r S' re', CA gv M hx ow (f_X11_shown gv hx v w z) r S' ∧ f_X12_shown re ka sa wh ce mi (nI (tn (zT S))) v w z = some (r, re') ∧ XR S' re' wa ka la ra li sa wh ce mi st ta ke ro (nI (tn (zT S))) (nI (tp (zT S))) (nI (tM (zT S))) (nI (zl S)) hi (nI (zr S)) ∧ SOK S' := by
  obtain ⟨he, th, la1, pa, fl, pf, LA, SA, sf, e4, ⟨fs, hO⟩, hC, -⟩ := id h.here
  have n1 : ¬ (1 : Int32) = 0 := by decide
  have hn : tn (zT S) ≤ 6 := hT.1.2.2.1
  have hp : tp (zT S) ≤ 4 := hT.1.2.2.2.1
  unfold f_X11_shown f_X12_shown
  simp only [e4, hC.o, Option.bind_some]
  rcases idx v (n := tn (zT S)) (by omega) with hv | ⟨l, hl, e⟩
  · refine ⟨-1, sNo S 1, upd re 1 (re 1 + 1), ?_, ?_, hX.no 1, hT.no 1⟩
    · rw [hC.lampNo hv]
      exact h.no hT (by decide) (by decide) lm1
    · rw [xil_no hv]
      simp only [Option.bind_some, if_true, z1, if_false]
      rw [lm1, xno_ok (by decide)]
      rfl
  · subst e
    obtain ⟨r1, r2, r3, r4, r5, -⟩ := hX.2.1.2.2 l hl
    have hlp := hC.lp hl
    have h6 : l < 6 := by omega
    have h9 := hT.1.s9 hl
    have hk7 := (hT.1.2.2.2.2.2.2 l hl).1
    rw [hC.lampAt hT.1 hl, xil_ok hl (by omega)]
    simp only [Option.bind_some, n1, if_false, gix_ok h6 (show 6 < 2 ^ 31 by decide), nI_clamp (show l < 2 ^ 31 by omega), r1, r5, hlp.f3]
    rcases idx w (n := tS (zT S) l) (by omega) with hv | ⟨i, hi2, e⟩
    · refine ⟨-1, sNo S 1, upd re 1 (re 1 + 1), ?_, ?_, hX.no 1, hT.no 1⟩
      · by_cases h0 : w < 0
        · rw [if_pos h0]
          exact h.no hT (by decide) (by decide) lm1
        · rw [if_neg h0, if_neg (fun g => absurd (hv.resolve_left h0) (Int32.not_le.mpr g))]
          exact h.no hT (by decide) (by decide) lm1
      · by_cases h0 : w < 0
        · simp only [h0, if_true, Option.bind_some, z1, if_false]
          rw [lm1, xno_ok (by decide)]
          rfl
        · have h1 : ¬ w < nI (tS (zT S) l) := fun g => absurd (hv.resolve_left h0) (Int32.not_le.mpr g)
          simp only [h0, h1, Option.bind_some, z1, if_false]
          rw [lm1, xno_ok (by decide)]
          rfl
    · subst e
      have h0 : ¬ nI i < 0 := nI_pos (by omega)
      have h1 : nI i < nI (tS (zT S) l) := nI_lt hi2 (by omega)
      have hI : ∃ j, j < tS (zT S) l ∧ j = (if tK (zT S) l = 6 then i else tS (zT S) l - 1 - i) := ⟨_, by split <;> omega, rfl⟩
      obtain ⟨j, hj, ej⟩ := hI
      obtain ⟨d1, d2, d3, d4⟩ := (hC.sc hT.1 hl).2 j hj
      obtain ⟨s1, s2, s3⟩ := hX.2.1.sc hl hj
      have hsh : fv_X5_sceneShown gv (LA l) (nI i) = some (nI (tm (zT S) l j * 1000 + tx (zT S) l j * 10 + tw (zT S) l j)) := by
        rw [hlp.sceneShown h9 hk7 hi2, ← ej, d1]
      have hjj : (if nI (tK (zT S) l) = 6 then some (nI i) else some ((nI (tS (zT S) l) - 1) - nI i) : Option Int32) = some (nI j) := by
        by_cases e6 : tK (zT S) l = 6
        · rw [if_pos (show nI (tK (zT S) l) = 6 by rw [e6]; rfl), ej, if_pos e6]
        · rw [if_neg (show ¬ nI (tK (zT S) l) = 6 by rw [show (6 : Int32) = nI 6 from rfl, nI_eq (by omega) (by decide)]; exact e6), ej, if_neg e6, nI_s1 (by omega), pk_sub (by omega)]
      have h54 : 9 * l + j < 54 := by omega
      rw [hsh]
      simp only [h0, h1, if_true, if_false, Option.bind_some]
      by_cases c0 : z = 0
      · subst c0
        refine ⟨nI (tw (zT S) l j), S, re, h.same ?_, ?_, hX, hT⟩
        · rw [if_pos rfl, scn_who d2 d4 (by omega)]
          rfl
        · rw [show f_X12_isIn 0 0 2 = some 1 from by decide]
          simp only [Option.bind_some, n1, if_false, if_true]
          rw [hjj]
          simp only [Option.bind_some, i9, nI_add]
          rw [gix_ok h54 (by decide), nI_clamp (show 9 * l + j < 2 ^ 31 by omega), s1]
          rfl
      · by_cases c1 : z = 1
        · subst c1
          refine ⟨nI (tx (zT S) l j), S, re, h.same ?_, ?_, hX, hT⟩
          · rw [if_neg (by decide), if_pos rfl, scn_cell d2 d4 (by omega)]
            rfl
          · rw [show f_X12_isIn 1 0 2 = some 1 from by decide]
            simp only [Option.bind_some, n1, if_false, if_true]
            rw [hjj]
            simp only [Option.bind_some, i9, nI_add]
            rw [gix_ok h54 (by decide), nI_clamp (show 9 * l + j < 2 ^ 31 by omega), s2]
            rfl
        · by_cases c2 : z = 2
          · subst c2
            refine ⟨nI (tm (zT S) l j), S, re, h.same ?_, ?_, hX, hT⟩
            · rw [if_neg (by decide), if_neg (by decide), if_pos rfl, scn_min d2 d4 (by omega)]
              rfl
            · rw [show f_X12_isIn 2 0 2 = some 1 from by decide]
              simp only [Option.bind_some, n1, if_false, if_true]
              rw [hjj]
              simp only [Option.bind_some, i9, nI_add, c0, c1, if_false]
              rw [gix_ok h54 (by decide), nI_clamp (show 9 * l + j < 2 ^ 31 by omega), s3]
              rfl
          · refine ⟨-2, sNo S 2, upd re 2 (re 2 + 1), ?_, ?_, hX.no 2, hT.no 2⟩
            · rw [if_neg c0, if_neg c1, if_neg c2]
              exact h.no hT (by decide) (by decide) lm2
            · have hin : f_X12_isIn z 0 2 = some 0 := by
                unfold f_X12_isIn
                rcases i_cas z with g | ⟨y, hy, ey⟩
                · simp only [g, if_true, gzb_0]
                · have h3 : 3 ≤ y := by
                    rcases Nat.lt_or_ge y 3 with g | g
                    · have hy3 : y = 0 ∨ y = 1 ∨ y = 2 := by omega
                      rcases hy3 with rfl | rfl | rfl
                      · exact absurd ey c0
                      · exact absurd ey c1
                      · exact absurd ey c2
                    · exact g
                  have g1 : ¬ z < 0 := by rw [ey]; exact nI_pos hy
                  have g2 : 2 < z := by rw [ey]; exact nI_lt (a := 2) (by omega) hy
                  simp only [g1, g2, if_true, if_false, gzb_0]
              rw [hin]
              simp only [Option.bind_some, if_true, z2, if_false]
              rw [lm2, xno_ok (by decide)]
              rfl
/-- seen -/
theorem q_seen (hT : SOK S) (h : CX gv M hx ow S) (hX : XR S re wa ka la ra li sa wh ce mi st ta ke ro (nI (tn (zT S))) (nI (tp (zT S))) (nI (tM (zT S))) (nI (zl S)) hi (nI (zr S))) (v : Int32) : ∃ r S' re', CA gv M hx ow (f_X11_seen gv hx v) r S' ∧ f_X12_seen re sa wh (nI (tn (zT S))) v = some (r, re') ∧ XR S' re' wa ka la ra li sa wh ce mi st ta ke ro (nI (tn (zT S))) (nI (tp (zT S))) (nI (tM (zT S))) (nI (zl S)) hi (nI (zr S)) ∧ SOK S' := by
  obtain ⟨he, th, la1, pa, fl, pf, LA, SA, sf, e4, ⟨fs, hO⟩, hC, -⟩ := id h.here
  have n1 : ¬ (1 : Int32) = 0 := by decide
  have hn : tn (zT S) ≤ 6 := hT.1.2.2.1
  have hp : tp (zT S) ≤ 4 := hT.1.2.2.2.1
  unfold f_X11_seen f_X12_seen
  simp only [e4, hC.o, Option.bind_some]
  rcases idx v (n := tn (zT S)) (by omega) with hv | ⟨l, hl, e⟩
  · refine ⟨-1, sNo S 1, upd re 1 (re 1 + 1), ?_, ?_, hX.no 1, hT.no 1⟩
    · rw [hC.lampNo hv]
      obtain ⟨gv', ow', a1, a2, a3⟩ := h.no hT (k := 1) (by decide) (by decide) lm1
      refine ⟨gv', ow', ?_, a2, a3⟩
      simp only [Option.bind_some]
      rw [a1]
      rfl
    · rw [xil_no hv]
      simp only [Option.bind_some, if_true]
      rw [lm1, xno_ok (by decide)]
      rfl
  · subst e
    obtain ⟨r1, r2, r3, r4, r5, -⟩ := hX.2.1.2.2 l hl
    have hlp := hC.lp hl
    have h6 : l < 6 := by omega
    have h9 := hT.1.s9 hl
    refine ⟨nI (seenN (tS (zT S) l) (tw (zT S) l)), S, re, h.same ?_, ?_, hX, hT⟩
    · rw [hC.lampAt hT.1 hl]
      simp only [Option.bind_some]
      rw [hlp.everSeen (hC.sc hT.1 hl)]
      rfl
    · rw [xil_ok hl (by omega)]
      simp only [Option.bind_some, n1, if_false]
      rw [i9]
      refine gfold (σ := Int32) (ρ := Option (Int32 × (Nat → Int32))) (fun n k x => L_X12_seen_21 (fun x21_68 => some (x21_68, re)) sa wh (nI l) n x (nI (9 * l + k))) (fun x => some (x, re)) (tS (zT S) l) (fun k => nI (seenN k (tw (zT S) l))) ?_ ?_ gF 0 (by unfold gF; omega) (Nat.zero_le _)
      · intro n
        show L_X12_seen_21 _ sa wh (nI l) (n + 1) _ (nI (9 * l + tS (zT S) l)) = _
        rw [L_X12_seen_21.eq_2, gix_ok h6 (by decide), nI_clamp (show l < 2 ^ 31 by omega), r5, i9, nI_add, if_pos (nI_le (Nat.le_refl _) (by omega))]
      · intro n k hk
        have hw := (hT.1.sc hl hk).1
        show L_X12_seen_21 _ sa wh (nI l) (n + 1) (nI (seenN k (tw (zT S) l))) (nI (9 * l + k)) = L_X12_seen_21 _ sa wh (nI l) n (nI (seenN (k + 1) (tw (zT S) l))) (nI (9 * l + (k + 1)))
        rw [L_X12_seen_21.eq_2, gix_ok h6 (by decide), nI_clamp (show l < 2 ^ 31 by omega), r5, i9, nI_add, if_neg (by rw [nI_leI (by omega) (by omega)]; omega)]
        simp only [gix_ok (show 9 * l + k < 54 by omega) (show 54 < 2 ^ 31 by decide), nI_clamp (show 9 * l + k < 2 ^ 31 by omega), (hX.2.1.sc hl hk).1]
        have hse : seenN (k + 1) (tw (zT S) l) = seenN k (tw (zT S) l) ||| (if tw (zT S) l k = 9 then 0 else 2 ^ tw (zT S) l k) := rfl
        rw [hse, ← i_or, nI_1]
        by_cases e : tw (zT S) l k = 9
        · rw [if_pos (show nI (tw (zT S) l k) = 9 by rw [e]; rfl), if_pos e]
          simp only [Option.bind_some]
          rfl
        · rw [if_neg (show ¬ nI (tw (zT S) l k) = 9 by rw [show (9 : Int32) = nI 9 from rfl, nI_eq (by omega) (by decide)]; exact e), if_neg e, sh1 (by omega)]
          simp only [Option.bind_some]
          rfl
/-- forget -/
theorem q_forget (hT : SOK S) (h : CX gv M hx ow S) (hX : XR S re wa ka la ra li sa wh ce mi st ta ke ro (nI (tn (zT S))) (nI (tp (zT S))) (nI (tM (zT S))) (nI (zl S)) hi (nI (zr S))) (v w : Int32) : ∃ r S' re', CA gv M hx ow (f_X11_forget gv hx v w) r S' ∧ f_X12_forget re ka sa mi (nI (tn (zT S))) v w = some (r, re') ∧ XR S' re' wa ka la ra li sa wh ce mi st ta ke ro (nI (tn (zT S))) (nI (tp (zT S))) (nI (tM (zT S))) (nI (zl S)) hi (nI (zr S)) ∧ SOK S' := by
  obtain ⟨he, th, la1, pa, fl, pf, LA, SA, sf, e4, ⟨fs, hO⟩, hC, -⟩ := id h.here
  have n1 : ¬ (1 : Int32) = 0 := by decide
  have hn : tn (zT S) ≤ 6 := hT.1.2.2.1
  have hp : tp (zT S) ≤ 4 := hT.1.2.2.2.1
  unfold f_X11_forget f_X12_forget
  simp only [e4, hC.o, Option.bind_some]
  rcases idx v (n := tn (zT S)) (by omega) with hv | ⟨l, hl, e⟩
  · refine ⟨-1, sNo S 1, upd re 1 (re 1 + 1), ?_, ?_, hX.no 1, hT.no 1⟩
    · rw [hC.lampNo hv]
      exact h.no hT (by decide) (by decide) lm1
    · rw [xil_no hv]
      simp only [Option.bind_some, if_true, z1, if_false]
      rw [lm1, xno_ok (by decide)]
      rfl
  · subst e
    obtain ⟨r1, r2, r3, r4, r5, -⟩ := hX.2.1.2.2 l hl
    have hlp := hC.lp hl
    have h6 : l < 6 := by omega
    have h9 := hT.1.s9 hl
    have hk := hT.1.2.2.2.2.2.2 l hl
    rw [hC.lampAt hT.1 hl, xil_ok hl (by omega)]
    simp only [Option.bind_some, n1, if_false]
    rcases rng w (m := 9999) (by decide) with hw | ⟨hw, hw2⟩ | ⟨t, ht, e⟩
    · refine ⟨-4, sNo S 4, upd re 4 (re 4 + 1), ?_, ?_, hX.no 4, hT.no 4⟩
      · rw [co_lo hw]
        simp only [Option.bind_some, g4, if_false]
        exact h.no hT (by decide) (by decide) lm4
      · rw [xb_lo hw]
        simp only [Option.bind_some, z4, if_false]
        rw [lm4, xno_ok (by decide)]
        rfl
    · refine ⟨-6, sNo S 6, upd re 6 (re 6 + 1), ?_, ?_, hX.no 6, hT.no 6⟩
      · rw [co_hi (M := 9999) hw hw2]
        simp only [Option.bind_some, g6, if_false]
        exact h.no hT (by decide) (by decide) lm6
      · rw [xb_hi (M := 9999) hw hw2]
        simp only [Option.bind_some, z6, if_false]
        rw [lm6, xno_ok (by decide)]
        rfl
    · subst e
      rw [co_ok (M := 9999) (m := 9999) rfl ht (by decide), xb_ok (M := 9999) (m := 9999) rfl ht (by decide)]
      simp only [Option.bind_some, g0, if_true]
      rw [hlp.place (hC.sc hT.1 hl) (show t < 2 ^ 31 by omega), xsceneAt_ok hT.1 hX.2.1 hl (show t < 2 ^ 31 by omega)]
      simp only [Option.bind_some]
      rcases fI_cas (fun i => decide (tm (zT S) l i = t)) (tS (zT S) l) with ⟨i, e1, e2, e3, e5⟩ | ⟨e3, e5⟩
      · rw [e5]
        have hle := hk.2.2.2.1
        refine ⟨nI (keepN (tK (zT S) l) - tS (zT S) l + i + 1), S, re, h.same ?_, ?_, hX, hT⟩
        · rw [if_pos (nI_pos' (by omega)), hlp.room hk.1, hlp.f3]
          simp only [Option.bind_some]
          rw [pk_sub hle, nI_add, nI_1]
        · have hko : f_X12_keepsOf (nI (tK (zT S) l)) = some (nI (keepN (tK (zT S) l))) := by
            rcases k7 hk.1 with g | g | g | g | g | g | g <;> rw [g] <;> decide
          rw [if_pos (nI_pos' (by omega))]
          simp only [gix_ok h6 (show 6 < 2 ^ 31 by decide), nI_clamp (show l < 2 ^ 31 by omega), r1, r5, hko, Option.bind_some]
          rw [pk_sub hle, nI_add, nI_1]
      · rw [e5]
        refine ⟨-9, S, re, h.same ?_, ?_, hX, hT⟩
        · rw [if_neg (by decide)]
          rfl
        · rw [if_neg (by decide)]
          rfl
end
