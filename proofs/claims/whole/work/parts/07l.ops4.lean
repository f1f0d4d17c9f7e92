section
variable {gv : Nat → GV} {M hx : Nat} {ow : Nat → Nat} {S : SS} {re wa ka la ra li sa wh ce mi st ta ke ro : Nat → Int32} {hi : Int32} {fa sh qu lb may : Nat → Int32} {q : Int32} {tl1 le1 lt1 : Nat → Int32} {at1 ss1 ik1 cu1 : Int32}
theorem CX.inRow (h : CX gv M hx ow S) : gfI gv hx [9] 6 = some (nI (zr S)) := by
  obtain ⟨lt, tx, ro, rf, tk, he, sp, th, ts, tf, rof, rff, ⟨c1, -⟩, -⟩ := h
  exact gfI_of c1 (by decide) rfl
theorem CX.lett (h : CX gv M hx ow S) : ∃ lt tx tf, gfR gv hx [9] 0 = some (some lt) ∧ gv lt = .inl (5, [.ref tx, .int (nI (zl S))]) ∧ gv tx = .inr (.inl (96, tf)) ∧ ∀ k, k < zl S → tf k = nI (zL S k) := by
  obtain ⟨lt, tx, ro, rf, tk, he, sp, th, ts, tf, rof, rff, ⟨c1, c2, c3, c4, c5, -, c6, -⟩, -⟩ := h
  exact ⟨lt, tx, tf, gfR_of c1 (by decide) rfl, c2, c3, c6⟩
theorem CX.refs (h : CX gv M hx ow S) : ∃ rf rff, gfR gv hx [9] 2 = some (some rf) ∧ gv rf = .inr (.inl (7, rff)) ∧ ∀ k, k < 7 → rff k = zF S k := by
  obtain ⟨lt, tx, ro, rf, tk, he, sp, th, ts, tf, rof, rff, ⟨c1, c2, c3, c4, c5, -, c6, c7, c8⟩, -⟩ := h
  exact ⟨rf, rff, gfR_of c1 (by decide) rfl, c5, c8⟩
theorem CX.rowAt (h : CX gv M hx ow S) (hT : SOK S) {k : Nat} (hk : k < zr S) : f_X11_inRowAt gv hx (nI k) = some (nI (zR S k)) := by
  obtain ⟨lt, tx, ro, rf, tk, he, sp, th, ts, tf, rof, rff, ⟨c1, c2, c3, c4, c5, -, c6, c7, c8⟩, -⟩ := h
  have h12 : zr S ≤ 12 := hT.2.2.2.2.1
  have e1 : gfR gv hx [9] 1 = some (some ro) := gfR_of c1 (by decide) rfl
  have n1 : ¬ nI k < 0 := nI_pos (by omega)
  have n2 : ¬ nI 12 ≤ nI k := by rw [nI_leI (by omega) (by omega)]; omega
  unfold f_X11_inRowAt
  simp only [n1, n2, e1, gal_of c4, gai_of c4 (show k < 12 by omega) (by decide), c7 k hk, if_false, obs]
/-- two -/
def twoB (T : TS) (l m i : Nat) : Bool := anyB (fun j => decide (tx T m j = tx T l i) && decide (tm T m j = tm T l i)) (tS T m)
theorem xhs_ok (hR : RT (zT S) wa ka la ra li sa wh ce mi st) (hT : TOK (zT S)) {l m i : Nat} (hl : l < tn (zT S)) (hm : m < tn (zT S)) (hi2 : i < tS (zT S) l) : f_X12_hasScene sa ce mi (nI m) (nI (tx (zT S) l i)) (nI (tm (zT S) l i)) = some (if twoB (zT S) l m i = true then 1 else 0) := by
  have hn : tn (zT S) ≤ 6 := hT.2.2.1
  have h9 := hT.s9 hm
  have hsa := (hR.2.2 m hm).2.2.2.2.1
  obtain ⟨v1, v2, v3⟩ := hT.sc hl hi2
  unfold f_X12_hasScene twoB
  rw [i9]
  refine (gfirst (fun n k => L_X12_hasScene_6 (fun x6_44 => some 1) (fun x6_52 => some 0) sa ce mi (nI m) (nI (tx (zT S) l i)) (nI (tm (zT S) l i)) n (nI (9 * m + k))) (fun _ => some (1 : Int32)) (some 0) (tS (zT S) m) (fun j => decide (tx (zT S) m j = tx (zT S) l i) && decide (tm (zT S) m j = tm (zT S) l i)) ?_ ?_ gF 0 (by unfold gF; omega) (Nat.zero_le _) (fun j hj => by omega)).trans (fst1_any _ _)
  · intro n
    show L_X12_hasScene_6 _ _ sa ce mi (nI m) _ _ (n + 1) (nI (9 * m + tS (zT S) m)) = _
    rw [L_X12_hasScene_6.eq_2, gix_ok (show m < 6 by omega) (by decide), nI_clamp (show m < 2 ^ 31 by omega), hsa, i9, nI_add, if_pos (nI_le (Nat.le_refl _) (by omega))]
  · intro n k hk
    obtain ⟨w1, w2, w3⟩ := hT.sc hm hk
    obtain ⟨s1, s2, s3⟩ := hR.sc hm hk
    show L_X12_hasScene_6 _ _ sa ce mi (nI m) _ _ (n + 1) (nI (9 * m + k)) = _
    rw [L_X12_hasScene_6.eq_2, gix_ok (show m < 6 by omega) (by decide), nI_clamp (show m < 2 ^ 31 by omega), hsa, i9, nI_add, if_neg (by rw [nI_leI (by omega) (by omega)]; omega)]
    simp only [gix_ok (show 9 * m + k < 54 by omega) (show 54 < 2 ^ 31 by decide), nI_clamp (show 9 * m + k < 2 ^ 31 by omega), s2, s3]
    rw [nI_1]
    by_cases c1 : tx (zT S) m k = tx (zT S) l i
    · rw [if_pos (by rw [c1])]
      by_cases c2 : tm (zT S) m k = tm (zT S) l i
      · rw [if_pos (by rw [c2])]
        simp [c1, c2]
      · rw [if_neg (by rw [nI_eq (by omega) (by omega)]; exact c2)]
        simp [c2]
        rfl
    · rw [if_neg (by rw [nI_eq (by omega) (by omega)]; exact c1)]
      simp [c1]
      rfl
theorem twoB_eq {T : TS} (hT : TOK T) {l m i : Nat} (hm : m < tn T) : twoB T l m i = match fst1 (fun j => decide (tm T m j = tm T l i)) (tS T m) with
    | some j => decide (tx T m j = tx T l i)
    | none => false := by
  have to : ∀ b c : Bool, (b = true ↔ c = true) → b = c := by
    intro b c h
    cases b <;> cases c <;> simp at h ⊢
  unfold twoB
  refine to _ _ ?_
  rw [anyB_iff]
  rcases fI_cas (fun j => decide (tm T m j = tm T l i)) (tS T m) with ⟨j, e1, e2, e3, -⟩ | ⟨e3, -⟩
  · have ej : tm T m j = tm T l i := by simpa using e2
    rw [e3]
    constructor
    · rintro ⟨k, k1, k2⟩
      simp only [Bool.and_eq_true, decide_eq_true_eq] at k2
      have := hT.mono hm k1 e1 (k2.2.trans ej.symm)
      subst this
      simp [k2.1]
    · intro g
      have g2 : tx T m j = tx T l i := by simpa using g
      exact ⟨j, e1, by simp [g2, ej]⟩
  · rw [e3]
    constructor
    · rintro ⟨k, k1, k2⟩
      simp only [Bool.and_eq_true, decide_eq_true_eq] at k2
      exact absurd e3 (fst1_ne k1 (by simp [k2.2]))
    · intro g; cases g
theorem q_two (hT : SOK S) (h : CX gv M hx ow S) (hX : XR S re wa ka la ra li sa wh ce mi st ta ke ro (nI (tn (zT S))) (nI (tp (zT S))) (nI (tM (zT S))) (nI (zl S)) hi (nI (zr S))) (v w : Int32) : ∃ r S' re', CA gv M hx ow (f_X11_two gv hx v w) r S' ∧ f_X12_two re sa ce mi (nI (tn (zT S))) v w = some (r, re') ∧ XR S' re' wa ka la ra li sa wh ce mi st ta ke ro (nI (tn (zT S))) (nI (tp (zT S))) (nI (tM (zT S))) (nI (zl S)) hi (nI (zr S)) ∧ SOK S' := by
  obtain ⟨he, th, la1, pa, fl, pf, LA, SA, sf, e4, ⟨fs, hO⟩, hC, -⟩ := id h.here
  have n1 : ¬ (1 : Int32) = 0 := by decide
  have hn : tn (zT S) ≤ 6 := hT.1.2.2.1
  have hp : tp (zT S) ≤ 4 := hT.1.2.2.2.1
  unfold f_X11_two f_X12_two
  simp only [e4, hC.o, obs]
  rcases idx v (n := tn (zT S)) (by omega) with hv | ⟨l, hl, e⟩
  · have hw : ∃ o, f_X10_lampAt gv he w = some o := by
      rcases idx w (n := tn (zT S)) (by omega) with hw | ⟨m, hm, e⟩
      · exact ⟨_, hC.lampNo hw⟩
      · exact ⟨_, by rw [e]; exact hC.lampAt hT.1 hm⟩
    obtain ⟨o, ho⟩ := hw
    refine ⟨-1, sNo S 1, upd re 1 (re 1 + 1), ?_, ?_, hX.no 1, hT.no 1⟩
    · rw [hC.lampNo hv, ho]
      exact h.no hT (by decide) (by decide) lm1
    · rw [xil_no hv]
      simp only [obs, if_true]
      rw [lm1, xno_ok (by decide)]
      rfl
  · subst e
    rw [hC.lampAt hT.1 hl, xil_ok hl (by omega)]
    simp only [obs, n1, if_false]
    rcases idx w (n := tn (zT S)) (by omega) with hv | ⟨m, hm, e⟩
    · refine ⟨-1, sNo S 1, upd re 1 (re 1 + 1), ?_, ?_, hX.no 1, hT.no 1⟩
      · rw [hC.lampNo hv]
        exact h.no hT (by decide) (by decide) lm1
      · rw [xil_no hv]
        simp only [obs, if_true]
        rw [lm1, xno_ok (by decide)]
        rfl
    · subst e
      have hlp := hC.lp hl
      have hlm := hC.lp hm
      have h9 := hT.1.s9 hl
      have hsa := (hX.2.1.2.2 l hl).2.2.2.2.1
      rw [hC.lampAt hT.1 hm, xil_ok hm (by omega)]
      simp only [obs, n1, if_false]
      refine ⟨nI (cnt (twoB (zT S) l m) (tS (zT S) l)), S, re, h.same ?_, ?_, hX, hT⟩
      · refine gfold (σ := Int32) (ρ := Option (Int32 × (Nat → GV))) (fun n k x => L_X11_two_40 (fun x40_101 => some (x40_101, gv)) gv (LA l) (LA m) n x (nI k)) (fun x => some (x, gv)) (tS (zT S) l) (fun k => nI (cnt (twoB (zT S) l m) k)) ?_ ?_ gF 0 (by unfold gF; omega) (Nat.zero_le _)
        · intro n
          show L_X11_two_40 _ gv _ _ (n + 1) _ (nI (tS (zT S) l)) = _
          rw [L_X11_two_40.eq_2, hlp.f3]
          simp only [obs]
          rw [if_pos (nI_le (Nat.le_refl _) (by omega))]
        · intro n k hk
          obtain ⟨d1, d2, d3, d4⟩ := (hC.sc hT.1 hl).2 k hk
          show L_X11_two_40 _ gv _ _ (n + 1) (nI (cnt (twoB (zT S) l m) k)) (nI k) = L_X11_two_40 _ gv _ _ n (nI (cnt (twoB (zT S) l m) (k + 1))) (nI (k + 1))
          rw [L_X11_two_40.eq_2, hlp.f3]
          simp only [obs]
          rw [if_neg (by rw [nI_leI (by omega) (by omega)]; omega), hlp.sceneAt h9 hk, d1]
          simp only [obs]
          rw [scn_min d2 d4 (by omega)]
          simp only [obs]
          rw [hlm.place (hC.sc hT.1 hm) (show tm (zT S) l k < 2 ^ 31 by omega), scn_cell d2 d4 (by omega)]
          simp only [obs]
          have hsu : cnt (twoB (zT S) l m) (k + 1) = cnt (twoB (zT S) l m) k + (if twoB (zT S) l m k = true then 1 else 0) := rfl
          rw [hsu, twoB_eq hT.1 hm, nI_1]
          rcases fI_cas (fun j => decide (tm (zT S) m j = tm (zT S) l k)) (tS (zT S) m) with ⟨j, e1, e2, e3, e5⟩ | ⟨e3, e5⟩
          · obtain ⟨b1, b2, b3, b4⟩ := (hC.sc hT.1 hm).2 j e1
            rw [e3, e5, if_neg (nI_pos (by have := hT.1.s9 hm; omega)), hlm.sceneAt (hT.1.s9 hm) e1, b1]
            simp only [obs]
            rw [scn_cell b2 b4 (by omega)]
            simp only [obs]
            by_cases c1 : tx (zT S) m j = tx (zT S) l k
            · rw [if_pos (by rw [c1])]
              simp only [obs, c1, decide_true, if_true]
              rw [nI_1]
            · rw [if_neg (by rw [nI_eq (by omega) (by omega)]; exact c1)]
              simp only [obs, c1, decide_false, Bool.false_eq_true, if_false, Nat.add_zero]
              rw [nI_1]
          · rw [e3, e5, if_pos (by decide)]
            simp only [obs, Bool.false_eq_true, if_false, Nat.add_zero]
            rw [nI_1]
      · rw [i9]
        refine gfold (σ := Int32) (ρ := Option (Int32 × (Nat → Int32))) (fun n k x => L_X12_two_30 (fun x30_82 => some (x30_82, re)) sa ce mi (nI l) (nI m) n x (nI (9 * l + k))) (fun x => some (x, re)) (tS (zT S) l) (fun k => nI (cnt (twoB (zT S) l m) k)) ?_ ?_ gF 0 (by unfold gF; omega) (Nat.zero_le _)
        · intro n
          show L_X12_two_30 _ sa ce mi (nI l) _ (n + 1) _ (nI (9 * l + tS (zT S) l)) = _
          rw [L_X12_two_30.eq_2, gix_ok (show l < 6 by omega) (by decide), nI_clamp (show l < 2 ^ 31 by omega), hsa, i9, nI_add, if_pos (nI_le (Nat.le_refl _) (by omega))]
        · intro n k hk
          obtain ⟨s1, s2, s3⟩ := hX.2.1.sc hl hk
          show L_X12_two_30 _ sa ce mi (nI l) _ (n + 1) (nI (cnt (twoB (zT S) l m) k)) (nI (9 * l + k)) = L_X12_two_30 _ sa ce mi (nI l) _ n (nI (cnt (twoB (zT S) l m) (k + 1))) (nI (9 * l + (k + 1)))
          rw [L_X12_two_30.eq_2, gix_ok (show l < 6 by omega) (by decide), nI_clamp (show l < 2 ^ 31 by omega), hsa, i9, nI_add, if_neg (by rw [nI_leI (by omega) (by omega)]; omega)]
          simp only [gix_ok (show 9 * l + k < 54 by omega) (show 54 < 2 ^ 31 by decide), nI_clamp (show 9 * l + k < 2 ^ 31 by omega), s2, s3]
          rw [xhs_ok hX.2.1 hT.1 hl hm hk]
          simp only [obs]
          have hsu : cnt (twoB (zT S) l m) (k + 1) = cnt (twoB (zT S) l m) k + (if twoB (zT S) l m k = true then 1 else 0) := rfl
          rw [hsu, nI_1, ← nI_add (cnt _ k)]
          cases twoB (zT S) l m k <;> rfl
/-- count -/
theorem q_count (hT : SOK S) (h : CX gv M hx ow S) (hX : XR S re wa ka la ra li sa wh ce mi st ta ke ro (nI (tn (zT S))) (nI (tp (zT S))) (nI (tM (zT S))) (nI (zl S)) hi (nI (zr S))) (v : Int32) : ∃ r S' fa' sh' qu' q' lb', f_X11_count gv hx v = some r ∧ CX gv M hx ow S' ∧ f_X12_count re wa ka la ra li sa st (nI (tn (zT S))) (nI (tp (zT S))) (nI (tM (zT S))) (nI (zl S)) fa sh qu q lb (nI (zr S)) v = some (r, fa', sh', qu', q', lb') ∧ XR S' re wa ka la ra li sa wh ce mi st ta ke ro (nI (tn (zT S))) (nI (tp (zT S))) (nI (tM (zT S))) (nI (zl S)) hi (nI (zr S)) ∧ SOK S' := by
  obtain ⟨he, th, la1, pa, fl, pf, LA, SA, sf, e4, ⟨fs, hO⟩, hC, -⟩ := id h.here
  have n1 : ¬ (1 : Int32) = 0 := by decide
  have hn : tn (zT S) ≤ 6 := hT.1.2.2.1
  have hp : tp (zT S) ≤ 4 := hT.1.2.2.2.1
  unfold f_X11_count f_X12_count
  have key : (∃ j, 11 ≤ j ∧ j ≤ 16 ∧ v = nI j) ∨ (f_X12_isIn v 11 16 = some 0 ∧ (v < 11 ∨ ¬ v ≤ 16)) := by
    rcases i_cas v with g | ⟨j, hj, e⟩
    · have g11 : v < 11 := Int32.lt_trans g (by decide)
      refine Or.inr ⟨?_, Or.inl g11⟩
      unfold f_X12_isIn
      simp only [g11, if_true, gzb_0]
    · rcases Nat.lt_or_ge j 11 with g | g
      · have g11 : v < 11 := by rw [e]; exact nI_lt (b := 11) g (by decide)
        refine Or.inr ⟨?_, Or.inl g11⟩
        unfold f_X12_isIn
        simp only [g11, if_true, gzb_0]
      · rcases Nat.lt_or_ge 16 j with g2 | g2
        · have ga : ¬ v < 11 := by rw [e]; exact nI_nlt (b := 11) g hj
          have gb : 16 < v := by rw [e]; exact nI_lt (a := 16) g2 hj
          refine Or.inr ⟨?_, Or.inr (Int32.not_le.mpr gb)⟩
          unfold f_X12_isIn
          simp only [ga, gb, if_true, if_false, gzb_0]
        · exact Or.inl ⟨j, g, g2, e⟩
  rcases key with ⟨j, j1, j2, e⟩ | ⟨k1, k2⟩
  · subst e
    obtain ⟨rf, rff, f1, f2, f3⟩ := h.refs
    have ne : ∀ m, m < 11 → ¬ nI j = nI m := fun m hm => by rw [nI_eq (by omega) (by omega)]; omega
    have m0 : ¬ nI j = 0 := ne 0 (by decide)
    have m1 : ¬ nI j = 1 := ne 1 (by decide)
    have m2 : ¬ nI j = 2 := ne 2 (by decide)
    have m3 : ¬ nI j = 3 := ne 3 (by decide)
    have m4 : ¬ nI j = 4 := ne 4 (by decide)
    have m5 : ¬ nI j = 5 := ne 5 (by decide)
    have m6 : ¬ nI j = 6 := ne 6 (by decide)
    have m7 : ¬ nI j = 7 := ne 7 (by decide)
    have m8 : ¬ nI j = 8 := ne 8 (by decide)
    have ga : ¬ nI j < 11 := nI_nlt (b := 11) j1 (by omega)
    have gb : nI j ≤ 16 := nI_le (b := 16) j2 (by decide)
    have gc : ¬ 16 < nI j := nI_nlt (a := 16) (b := j) j2 (by decide)
    have gs : nI j - 10 = nI (j - 10) := pk_sub (a := j) (b := 10) (by omega)
    have hin : f_X12_isIn (nI j) 11 16 = some 1 := by
      unfold f_X12_isIn
      simp only [ga, gc, if_false, gzb_1]
    refine ⟨zF S (j - 10), S, fa, sh, qu, q, lb, ?_, h, ?_, hX, hT⟩
    · simp only [m0, m1, m2, m3, m4, m5, m6, m7, m8, ga, gb, gs, f1, if_true, if_false, obs]
      rw [gai_of f2 (show j - 10 < 7 by omega) (by decide)]
      simp only [obs]
      rw [f3 _ (by omega)]
    · rw [hin]
      simp only [obs, n1, if_false, gs]
      rw [gix_ok (show j - 10 < 7 by omega) (by decide), nI_clamp (show j - 10 < 2 ^ 31 by omega), hX.1 _ (by omega)]
  · rw [k1]
    simp only [obs, if_true, e4]
    by_cases c0 : v = 0
    · exact ⟨nI (tn (zT S)), S, fa, sh, qu, q, lb, by rw [if_pos c0, hC.f3]; rfl, h, by rw [if_pos c0], hX, hT⟩
    · rw [if_neg c0, if_neg c0]
      by_cases c1 : v = 1
      · exact ⟨nI (tp (zT S)), S, fa, sh, qu, q, lb, by rw [if_pos c1, hC.f4]; rfl, h, by rw [if_pos c1], hX, hT⟩
      · rw [if_neg c1, if_neg c1]
        by_cases c2 : v = 2
        · refine ⟨nI (cnt (tW (zT S)) 36), S, fa, sh, qu, q, lb, ?_, h, ?_, hX, hT⟩
          · rw [if_pos c2, hC.f2]
            simp only [obs]
            rw [howMany_b]
            rfl
          · rw [if_pos c2]
            have hwm : f_X12_wallMany wa = some (nI (cnt (tW (zT S)) 36)) := by
              unfold f_X12_wallMany
              refine gfold (σ := Int32) (ρ := Option Int32) (fun n k x => L_X12_wallMany_4 (fun x4_25 => some x4_25) wa n x (nI k)) some 36 (fun k => nI (cnt (tW (zT S)) k)) ?_ ?_ gF 0 (by decide) (by decide)
              · intro n
                show L_X12_wallMany_4 _ wa (n + 1) _ (nI 36) = _
                rw [L_X12_wallMany_4.eq_2, if_pos (by decide)]
              · intro n k hk
                show L_X12_wallMany_4 _ wa (n + 1) (nI (cnt (tW (zT S)) k)) (nI k) = L_X12_wallMany_4 _ wa n (nI (cnt (tW (zT S)) (k + 1))) (nI (k + 1))
                rw [L_X12_wallMany_4.eq_2, if_neg (by rw [show (36 : Int32) = nI 36 from rfl, nI_leI (by decide) (by omega)]; omega), gix_ok hk (by decide), nI_clamp (show k < 2 ^ 31 by omega), hX.2.1.1 k hk, nI_1]
                have hsu : cnt (tW (zT S)) (k + 1) = cnt (tW (zT S)) k + (if tW (zT S) k = true then 1 else 0) := rfl
                rw [hsu, ← nI_add (cnt _ k)]
                cases tW (zT S) k <;> rfl
            rw [hwm]
            rfl
        · rw [if_neg c2, if_neg c2]
          by_cases c3 : v = 3
          · exact ⟨nI (tM (zT S)), S, fa, sh, qu, q, lb, by rw [if_pos c3, hC.f5]; rfl, h, by rw [if_pos c3], hX, hT⟩
          · rw [if_neg c3, if_neg c3]
            by_cases c4 : v = 4
            · refine ⟨nI (sumN (tS (zT S)) (tn (zT S))), S, fa, sh, qu, q, lb, ?_, h, ?_, hX, hT⟩
              · rw [if_pos c4, hC.o]
                simp only [obs]
                rw [hC.allScenes hT.1]
                rfl
              · rw [if_pos c4]
                refine gfold (σ := Int32) (ρ := Option (Int32 × (Nat → Int32) × (Nat → Int32) × (Nat → Int32) × Int32 × (Nat → Int32))) (fun n k x => L_X12_count_98 (fun x98_121 => some (x98_121, fa, sh, qu, q, lb)) sa (nI (tn (zT S))) n x (nI k)) (fun x => some (x, fa, sh, qu, q, lb)) (tn (zT S)) (fun k => nI (sumN (tS (zT S)) k)) ?_ ?_ gF 0 (by unfold gF; omega) (Nat.zero_le _)
                · intro n
                  show L_X12_count_98 _ sa _ (n + 1) _ (nI (tn (zT S))) = _
                  rw [L_X12_count_98.eq_2, if_pos (nI_le (Nat.le_refl _) (by omega))]
                · intro n k hk
                  show L_X12_count_98 _ sa _ (n + 1) (nI (sumN (tS (zT S)) k)) (nI k) = L_X12_count_98 _ sa _ n (nI (sumN (tS (zT S)) (k + 1))) (nI (k + 1))
                  rw [L_X12_count_98.eq_2, if_neg (by rw [nI_leI (by omega) (by omega)]; omega), gix_ok (show k < 6 by omega) (by decide), nI_clamp (show k < 2 ^ 31 by omega), (hX.2.1.2.2 k hk).2.2.2.2.1, nI_add, nI_1]
                  rfl
            · rw [if_neg c4, if_neg c4]
              by_cases c5 : v = 5
              · obtain ⟨fa', sh', qu', q', lb', x1, -⟩ := xcells_ok hT.1 hX.2.1 (fa := fa) (sh := sh) (qu := qu) (q := q) (lb := lb) (bm (tL (zT S)) (tn (zT S)))
                refine ⟨nI (cnt (gS (zT S) (bm (tL (zT S)) (tn (zT S)))) 36), S, fa', sh', qu', q', lb', ?_, h, ?_, hX, hT⟩
                · rw [if_pos c5, hC.o]
                  simp only [obs]
                  rw [hC.lit0 hT.1]
                  simp only [obs]
                  rw [howMany_b]
                  rfl
                · rw [if_pos c5, xlitBits_ok hT.1 hX.2.1]
                  simp only [obs]
                  rw [x1]
                  rfl
              · rw [if_neg c5, if_neg c5]
                by_cases c6 : v = 6
                · refine ⟨nI (bm (tL (zT S)) (tn (zT S))), S, fa, sh, qu, q, lb, ?_, h, ?_, hX, hT⟩
                  · rw [if_pos c6, hC.o]
                    simp only [obs]
                    rw [hC.litLamps hT.1]
                    rfl
                  · rw [if_pos c6, xlitBits_ok hT.1 hX.2.1]
                    rfl
                · rw [if_neg c6, if_neg c6]
                  by_cases c7 : v = 7
                  · exact ⟨nI (zr S), S, fa, sh, qu, q, lb, by rw [if_pos c7, h.inRow]; rfl, h, by rw [if_pos c7], hX, hT⟩
                  · rw [if_neg c7, if_neg c7]
                    by_cases c8 : v = 8
                    · obtain ⟨lt, tx, tf, l1, l2, -⟩ := h.lett
                      have l3 : gfI gv lt [5] 1 = some (nI (zl S)) := gfI_of l2 (by decide) rfl
                      exact ⟨nI (zl S), S, fa, sh, qu, q, lb, by rw [if_pos c8, l1]; simp only [obs, l3], h, by rw [if_pos c8], hX, hT⟩
                    · rw [if_neg c8, if_neg c8]
                      refine ⟨-9, S, fa, sh, qu, q, lb, ?_, h, rfl, hX, hT⟩
                      by_cases g : v < 11
                      · simp only [g, if_true, obs]
                      · simp only [g, k2.resolve_left g, if_false, obs]
end
