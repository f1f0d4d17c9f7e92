section
variable {gv : Nat → GV} {M hx : Nat} {ow : Nat → Nat} {S : SS} {re wa ka la ra li sa wh ce mi st ta ke ro : Nat → Int32} {hi : Int32} {fa sh qu lb may : Nat → Int32} {q : Int32} {tl1 le1 lt1 : Nat → Int32} {at1 ss1 ik1 cu1 : Int32}
theorem CX.npa_no (h : CX gv M hx ow S) (hT : SOK S) {v w : Int32} (hv : v < 0 ∨ nI (tp (zT S)) ≤ v) : f_X11_noPersonAt gv hx v w = some (-1) := by
  obtain ⟨he, th, la1, pa, fl, pf, LA, SA, sf, e4, -, hC, -⟩ := h.here
  unfold f_X11_noPersonAt
  simp only [e4, hC.o, hC.isP_no hT.1 hv, Option.bind_some, if_true]
theorem CX.npa_ok (h : CX gv M hx ow S) (hT : SOK S) {p : Nat} {w x : Int32} (hp : p < tp (zT S)) (hx2 : f_X11_outside w 0 9999 = some x) : f_X11_noPersonAt gv hx (nI p) w = some x := by
  obtain ⟨he, th, la1, pa, fl, pf, LA, SA, sf, e4, -, hC, -⟩ := h.here
  unfold f_X11_noPersonAt
  have n1 : ¬ (1 : Int32) = 0 := by decide
  simp only [e4, hC.o, hC.isP_ok hT.1 hp, Option.bind_some, n1, if_false, hx2]
/-- by -/
theorem q_by (hT : SOK S) (h : CX gv M hx ow S) (hX : XR S re wa ka la ra li sa wh ce mi st ta ke ro (nI (tn (zT S))) (nI (tp (zT S))) (nI (tM (zT S))) (nI (zl S)) hi (nI (zr S))) (v w : Int32) : ∃ r S' re', CA gv M hx ow (f_X11_by gv hx v w) r S' ∧ f_X12_by re sa wh mi (nI (tn (zT S))) (nI (tp (zT S))) v w = some (r, re') ∧ XR S' re' wa ka la ra li sa wh ce mi st ta ke ro (nI (tn (zT S))) (nI (tp (zT S))) (nI (tM (zT S))) (nI (zl S)) hi (nI (zr S)) ∧ SOK S' := by
  obtain ⟨he, th, la1, pa, fl, pf, LA, SA, sf, e4, ⟨fs, hO⟩, hC, -⟩ := id h.here
  have n1 : ¬ (1 : Int32) = 0 := by decide
  have hn : tn (zT S) ≤ 6 := hT.1.2.2.1
  have hp : tp (zT S) ≤ 4 := hT.1.2.2.2.1
  unfold f_X11_by f_X12_by
  have np : ∀ {v w x : Int32}, f_X11_noPersonAt gv hx v w = some x → ((gfO gv hx [9]).bind fun _ => f_X11_noPersonAt gv hx v w) = some x := fun e => by rw [hO]; exact e
  rcases idx v (n := tp (zT S)) (by omega) with hv | ⟨p, hpp, e⟩
  · refine ⟨-1, sNo S 1, upd re 1 (re 1 + 1), ?_, ?_, hX.no 1, hT.no 1⟩
    · rw [np (h.npa_no hT hv)]
      simp only [Option.bind_some, g1, if_false]
      exact h.no hT (by decide) (by decide) lm1
    · rw [xip_no hv]
      simp only [Option.bind_some, if_true, z1, if_false]
      rw [lm1, xno_ok (by decide)]
      rfl
  · subst e
    rw [xip_ok hpp (by omega)]
    simp only [Option.bind_some, n1, if_false]
    rcases rng w (m := 9999) (by decide) with hw | ⟨hw, hw2⟩ | ⟨t, ht, e⟩
    · refine ⟨-4, sNo S 4, upd re 4 (re 4 + 1), ?_, ?_, hX.no 4, hT.no 4⟩
      · rw [np (h.npa_ok hT hpp (co_lo hw))]
        simp only [Option.bind_some, g4, if_false]
        exact h.no hT (by decide) (by decide) lm4
      · rw [xb_lo hw]
        simp only [Option.bind_some, z4, if_false]
        rw [lm4, xno_ok (by decide)]
        rfl
    · refine ⟨-6, sNo S 6, upd re 6 (re 6 + 1), ?_, ?_, hX.no 6, hT.no 6⟩
      · rw [np (h.npa_ok hT hpp (co_hi (M := 9999) hw hw2))]
        simp only [Option.bind_some, g6, if_false]
        exact h.no hT (by decide) (by decide) lm6
      · rw [xb_hi (M := 9999) hw hw2]
        simp only [Option.bind_some, z6, if_false]
        rw [lm6, xno_ok (by decide)]
        rfl
    · subst e
      refine ⟨nI (bm (fun l => sawB (tS (zT S) l) (tw (zT S) l) (tm (zT S) l) t p) (tn (zT S))), S, re, h.same ?_, ?_, hX, hT⟩
      · rw [np (h.npa_ok hT hpp (co_ok (M := 9999) (m := 9999) rfl ht (by decide)))]
        simp only [Option.bind_some, g0, if_true]
        refine gfold (σ := Int32) (ρ := Option (Int32 × (Nat → GV))) (fun n k x => L_X11_by_23 (fun x23_76 => some (x23_76, gv)) gv hx (nI p) (nI t) n x (nI k)) (fun x => some (x, gv)) (tn (zT S)) (fun k => nI (bm (fun l => sawB (tS (zT S) l) (tw (zT S) l) (tm (zT S) l) t p) k)) ?_ ?_ gF 0 (by unfold gF; omega) (Nat.zero_le _)
        · intro n
          show L_X11_by_23 _ gv hx _ _ (n + 1) _ (nI (tn (zT S))) = _
          rw [L_X11_by_23.eq_2, e4]
          simp only [Option.bind_some, hC.f3]
          rw [if_pos (nI_le (Nat.le_refl _) (by omega))]
        · intro n k hk
          show L_X11_by_23 _ gv hx _ _ (n + 1) (nI (bm (fun l => sawB (tS (zT S) l) (tw (zT S) l) (tm (zT S) l) t p) k)) (nI k) = L_X11_by_23 _ gv hx _ _ n (nI (bm (fun l => sawB (tS (zT S) l) (tw (zT S) l) (tm (zT S) l) t p) (k + 1))) (nI (k + 1))
          rw [L_X11_by_23.eq_2, e4]
          simp only [Option.bind_some, hC.f3]
          rw [if_neg (by rw [nI_leI (by omega) (by omega)]; omega), hC.o]
          simp only [Option.bind_some]
          rw [hC.lampAt hT.1 hk]
          simp only [Option.bind_some]
          rw [(hC.lp hk).sawAt (hC.sc hT.1 hk) (show t < 2 ^ 31 by omega) (show p < 10 by omega), nI_1, ← ib_or (fun l => sawB (tS (zT S) l) (tw (zT S) l) (tm (zT S) l) t p) (show k < 31 by omega)]
          simp only [Option.bind_some]
          cases sawB (tS (zT S) k) (tw (zT S) k) (tm (zT S) k) t p with
          | true =>
            rw [if_neg (show ¬ (if true = true then (1 : Int32) else 0) = 0 by decide), if_pos rfl]
            rfl
          | false =>
            rw [if_pos (show (if false = true then (1 : Int32) else 0) = 0 by decide), if_neg (by decide), Int32.or_zero]
            rfl
      · rw [xb_ok (M := 9999) (m := 9999) rfl ht (by decide)]
        simp only [Option.bind_some, if_true]
        refine gfold (σ := Int32) (ρ := Option (Int32 × (Nat → Int32))) (fun n k x => L_X12_by_37 (fun x37_97 => some (x37_97, re)) sa wh mi (nI (tn (zT S))) (nI p) (nI t) n x (nI k)) (fun x => some (x, re)) (tn (zT S)) (fun k => nI (bm (fun l => sawB (tS (zT S) l) (tw (zT S) l) (tm (zT S) l) t p) k)) ?_ ?_ gF 0 (by unfold gF; omega) (Nat.zero_le _)
        · intro n
          show L_X12_by_37 _ sa wh mi _ _ _ (n + 1) _ (nI (tn (zT S))) = _
          rw [L_X12_by_37.eq_2, if_pos (nI_le (Nat.le_refl _) (by omega))]
        · intro n k hk
          obtain ⟨o, o1, o2⟩ := xsaw_ok hT.1 hX.2.1 hk (show t < 2 ^ 31 by omega) (show p < 10 by omega)
          show L_X12_by_37 _ sa wh mi _ _ _ (n + 1) (nI (bm (fun l => sawB (tS (zT S) l) (tw (zT S) l) (tm (zT S) l) t p) k)) (nI k) = L_X12_by_37 _ sa wh mi _ _ _ n (nI (bm (fun l => sawB (tS (zT S) l) (tw (zT S) l) (tm (zT S) l) t p) (k + 1))) (nI (k + 1))
          rw [L_X12_by_37.eq_2, if_neg (by rw [nI_leI (by omega) (by omega)]; omega), o1]
          simp only [Option.bind_some]
          rw [o2]
          simp only [Option.bind_some]
          rw [ib_or (fun l => sawB (tS (zT S) l) (tw (zT S) l) (tm (zT S) l) t p) (show k < 31 by omega), nI_1]
/-- known -/
theorem q_known (hT : SOK S) (h : CX gv M hx ow S) (hX : XR S re wa ka la ra li sa wh ce mi st ta ke ro (nI (tn (zT S))) (nI (tp (zT S))) (nI (tM (zT S))) (nI (zl S)) hi (nI (zr S))) (v : Int32) : ∃ r S' re' fa' sh' qu' q' lb', CA gv M hx ow (f_X11_known gv hx v) r S' ∧ f_X12_known re wa ka la ra sa wh ce mi st (nI (tn (zT S))) (nI (tp (zT S))) fa sh qu q lb v = some (r, re', fa', sh', qu', q', lb') ∧ XR S' re' wa ka la ra li sa wh ce mi st ta ke ro (nI (tn (zT S))) (nI (tp (zT S))) (nI (tM (zT S))) (nI (zl S)) hi (nI (zr S)) ∧ SOK S' := by
  obtain ⟨he, th, la1, pa, fl, pf, LA, SA, sf, e4, ⟨fs, hO⟩, hC, -⟩ := id h.here
  have n1 : ¬ (1 : Int32) = 0 := by decide
  have hn : tn (zT S) ≤ 6 := hT.1.2.2.1
  have hp : tp (zT S) ≤ 4 := hT.1.2.2.2.1
  unfold f_X11_known f_X12_known
  simp only [e4, hC.o, Option.bind_some]
  rcases idx v (n := tp (zT S)) (by omega) with hv | ⟨p, hpp, e⟩
  · refine ⟨-1, sNo S 1, upd re 1 (re 1 + 1), fa, sh, qu, q, lb, ?_, ?_, hX.no 1, hT.no 1⟩
    · rw [hC.isP_no hT.1 hv]
      simp only [Option.bind_some, if_true]
      exact h.no hT (by decide) (by decide) lm1
    · rw [xip_no hv]
      simp only [Option.bind_some, if_true]
      rw [lm1, xno_ok (by decide)]
      rfl
  · subst e
    have hP := (hT.1.2.2.2.2.2.1 p hpp).1
    obtain ⟨fa', sh', qu', q', lb', x1, x2⟩ := xfindLit_ok hT.1 hX.2.1 (fa := fa) (sh := sh) (qu := qu) (q := q) (lb := lb)
    refine ⟨nI (unK (zT S) (fun l => tG (zT S) l (tP (zT S) p)) (tn (zT S))), S, re, fa', sh', qu', q', lb', h.same ?_, ?_, hX, hT⟩
    · rw [hC.isP_ok hT.1 hpp]
      simp only [Option.bind_some, n1, if_false]
      rw [hC.cellOf hT.1 hpp]
      simp only [Option.bind_some]
      rw [only_b hP]
      simp only [Option.bind_some]
      rw [hC.unlike hT.1]
      have e : (fun l => anyB (fun c => tG (zT S) l c && decide (c = tP (zT S) p)) 36) = fun l => tG (zT S) l (tP (zT S) p) := by
        funext l
        cases hg : tG (zT S) l (tP (zT S) p) with
        | true => exact anyB_iff.mpr ⟨_, hP, by simp [hg]⟩
        | false =>
          cases hq : anyB (fun c => tG (zT S) l c && decide (c = tP (zT S) p)) 36 with
          | false => rfl
          | true =>
            obtain ⟨c, c1, c2⟩ := anyB_iff.mp hq
            simp only [Bool.and_eq_true, decide_eq_true_eq] at c2
            rw [c2.2, hg] at c2
            cases c2.1
      rw [e]
      rfl
    · rw [xip_ok hpp (by omega), x1]
      simp only [Option.bind_some, n1, if_false]
      unfold f_X12_shownTo
      rw [gix_ok (show p < 4 by omega) (by decide), nI_clamp (show p < 2 ^ 31 by omega), hX.2.1.2.1 p hpp, gix_ok hP (by decide), nI_clamp (show tP (zT S) p < 2 ^ 31 by omega), x2 _ hP]
      simp only [Option.bind_some]
      rw [xunlike_ok hT.1 hX.2.1]
      rfl
/-- allKnow -/
theorem q_allKnow (hT : SOK S) (h : CX gv M hx ow S) (hX : XR S re wa ka la ra li sa wh ce mi st ta ke ro (nI (tn (zT S))) (nI (tp (zT S))) (nI (tM (zT S))) (nI (zl S)) hi (nI (zr S))) : ∃ r S' fa' sh' qu' q' lb', f_X11_allKnow gv hx = some r ∧ CX gv M hx ow S' ∧ f_X12_allKnow wa ka la ra sa wh ce mi st (nI (tn (zT S))) (nI (tp (zT S))) fa sh qu q lb = some (r, fa', sh', qu', q', lb') ∧ XR S' re wa ka la ra li sa wh ce mi st ta ke ro (nI (tn (zT S))) (nI (tp (zT S))) (nI (tM (zT S))) (nI (zl S)) hi (nI (zr S)) ∧ SOK S' := by
  obtain ⟨he, th, la1, pa, fl, pf, LA, SA, sf, e4, ⟨fs, hO⟩, hC, -⟩ := id h.here
  have n1 : ¬ (1 : Int32) = 0 := by decide
  have hn : tn (zT S) ≤ 6 := hT.1.2.2.1
  have hp : tp (zT S) ≤ 4 := hT.1.2.2.2.1
  unfold f_X11_allKnow f_X12_allKnow
  obtain ⟨fa', sh', qu', q', lb', x1, x2⟩ := xfindLit_ok hT.1 hX.2.1 (fa := fa) (sh := sh) (qu := qu) (q := q) (lb := lb)
  refine ⟨nI (unK (zT S) (fun l => anyB (fun p => tG (zT S) l (tP (zT S) p)) (tp (zT S))) (tn (zT S))), S, fa', sh', qu', q', lb', ?_, h, ?_, hX, hT⟩
  · simp only [e4, hC.o, Option.bind_some]
    rw [hC.peopled hT.1]
    simp only [Option.bind_some]
    rw [hC.unlike hT.1]
    have e : (fun l => anyB (fun c => tG (zT S) l c && anyB (fun p => decide (c = tP (zT S) p)) (tp (zT S))) 36) = fun l => anyB (fun p => tG (zT S) l (tP (zT S) p)) (tp (zT S)) := by
      funext l
      cases hg : anyB (fun p => tG (zT S) l (tP (zT S) p)) (tp (zT S)) with
      | true =>
        obtain ⟨p, p1, p2⟩ := anyB_iff.mp hg
        exact anyB_iff.mpr ⟨_, (hT.1.2.2.2.2.2.1 p p1).1, by rw [p2, anyB_iff.mpr ⟨p, p1, by simp⟩]; rfl⟩
      | false =>
        cases hq : anyB (fun c => tG (zT S) l c && anyB (fun p => decide (c = tP (zT S) p)) (tp (zT S))) 36 with
        | false => rfl
        | true =>
          obtain ⟨c, c1, c2⟩ := anyB_iff.mp hq
          simp only [Bool.and_eq_true] at c2
          obtain ⟨p, p1, p2⟩ := anyB_iff.mp c2.2
          have ec : c = tP (zT S) p := by simpa using p2
          have := (anyB_iff (q := fun p => tG (zT S) l (tP (zT S) p)) (n := tp (zT S))).mpr ⟨p, p1, by rw [← ec]; exact c2.1⟩
          rw [hg] at this
          cases this
    rw [e]
    rfl
  · rw [x1]
    simp only [Option.bind_some]
    have main := gfold (σ := Int32) (ρ := Option (Int32 × (Nat → Int32) × (Nat → Int32) × (Nat → Int32) × Int32 × (Nat → Int32))) (fun n k x => L_X12_allKnow_8 (fun x8_30 => (f_X12_unlikeOf sa wh ce mi (nI (tn (zT S))) x8_30).bind fun o32 => some (o32, fa', sh', qu', q', lb')) st (nI (tp (zT S))) lb' n x (nI k)) (fun x => (f_X12_unlikeOf sa wh ce mi (nI (tn (zT S))) x).bind fun o32 => some (o32, fa', sh', qu', q', lb')) (tp (zT S)) (fun k => nI (bm (fun l => anyB (fun p => tG (zT S) l (tP (zT S) p)) k) (tn (zT S)))) ?_ ?_ gF 0 (by unfold gF; omega) (Nat.zero_le _)
    · rw [show bm (fun l => anyB (fun p => tG (zT S) l (tP (zT S) p)) 0) (tn (zT S)) = 0 from bm_zero.mpr (fun k _ => rfl)] at main
      refine Eq.trans main ?_
      rw [xunlike_ok hT.1 hX.2.1]
      rfl
    · intro n
      show L_X12_allKnow_8 _ st _ lb' (n + 1) _ (nI (tp (zT S))) = _
      rw [L_X12_allKnow_8.eq_2, if_pos (nI_le (Nat.le_refl _) (by omega))]
    · intro n k hk
      have hP := (hT.1.2.2.2.2.2.1 k hk).1
      show L_X12_allKnow_8 _ st _ lb' (n + 1) (nI (bm (fun l => anyB (fun p => tG (zT S) l (tP (zT S) p)) k) (tn (zT S)))) (nI k) = L_X12_allKnow_8 _ st _ lb' n (nI (bm (fun l => anyB (fun p => tG (zT S) l (tP (zT S) p)) (k + 1)) (tn (zT S)))) (nI (k + 1))
      rw [L_X12_allKnow_8.eq_2, if_neg (by rw [nI_leI (by omega) (by omega)]; omega)]
      unfold f_X12_shownTo
      rw [gix_ok (show k < 4 by omega) (by decide), nI_clamp (show k < 2 ^ 31 by omega), hX.2.1.2.1 k hk, gix_ok hP (by decide), nI_clamp (show tP (zT S) k < 2 ^ 31 by omega), x2 _ hP]
      simp only [Option.bind_some]
      rw [i_or, bm_or, nI_1]
      rfl
end
