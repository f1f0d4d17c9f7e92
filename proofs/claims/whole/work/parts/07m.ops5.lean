section
variable {gv : Nat → GV} {M hx : Nat} {ow : Nat → Nat} {S : SS} {re wa ka la ra li sa wh ce mi st ta ke ro : Nat → Int32} {hi : Int32} {fa sh qu lb may : Nat → Int32} {q : Int32} {tl1 le1 lt1 : Nat → Int32} {at1 ss1 ik1 cu1 : Int32}
/-- whereAt -/
theorem xwa_n {g : Nat → Bool} (hg : MayOK g may) {i : Nat} (hi2 : i < 2 ^ 31) {α : Type} {K1 K2 : Int32 → Option α} {R : α} (h1 : ∀ k, fst1 (nth g i) 36 = some k → K1 (nI k) = some R) (h2 : fst1 (nth g i) 36 = none → ∀ c, K2 c = some R) : ∀ n k, 36 - k < n → k ≤ 36 → (∀ y, y < k → nth g i y = false) → L_X12_whereAt_33 K1 K2 may (nI i) n (nI (cnt g k)) (nI k) = some R := by
  intro n
  induction n with
  | zero => intro k h; omega
  | succ n ih =>
    intro k h hk hno
    rw [L_X12_whereAt_33.eq_2]
    by_cases h36 : k = 36
    · subst h36
      rw [if_pos (by decide)]
      exact h2 (fst1_no hno) _
    · have hk2 : k < 36 := by omega
      have hcl := cnt_le g k
      have hsu : cnt g (k + 1) = cnt g k + (if g k = true then 1 else 0) := rfl
      rw [if_neg (by rw [show (36 : Int32) = nI 36 from rfl, nI_leI (by decide) (by omega)]; omega), gix_ok hk2 (by decide), nI_clamp (show k < 2 ^ 31 by omega), hg k hk2]
      cases hgk : g k with
      | false =>
        rw [if_pos (show (if false = true then (1 : Int32) else 0) = 0 by decide), nI_1]
        have e : cnt g (k + 1) = cnt g k := by rw [hsu, hgk]; rfl
        rw [← e]
        exact ih (k + 1) (by omega) hk2 (fun y hy => by
          rcases Nat.lt_or_ge y k with g2 | g2
          · exact hno y g2
          · have ey : y = k := by omega
            rw [ey]
            unfold nth
            rw [hgk]
            rfl)
      | true =>
        rw [if_neg (show ¬ (if true = true then (1 : Int32) else 0) = 0 by decide)]
        by_cases hc : cnt g k = i
        · rw [if_pos (by rw [hc])]
          exact h1 k (fst1_is hk2 (by unfold nth; rw [hgk]; simp [hc]) hno)
        · rw [if_neg (by rw [nI_eq (by omega) hi2]; exact hc), nI_1, nI_1]
          have e : cnt g (k + 1) = cnt g k + 1 := by rw [hsu, hgk]; rfl
          rw [← e]
          exact ih (k + 1) (by omega) hk2 (fun y hy => by
            rcases Nat.lt_or_ge y k with g2 | g2
            · exact hno y g2
            · have ey : y = k := by omega
              rw [ey]
              unfold nth
              simp [hc])
theorem xwa_c {g : Nat → Bool} (hg : MayOK g may) {z : Int32} (hz : z < 0) {α : Type} {K1 K2 : Int32 → Option α} : L_X12_whereAt_33 K1 K2 may z gF 0 0 = K2 (nI (cnt g 36)) := by
  refine gfold (σ := Int32) (ρ := Option α) (fun n k x => L_X12_whereAt_33 K1 K2 may z n x (nI k)) K2 36 (fun k => nI (cnt g k)) ?_ ?_ gF 0 (by decide) (by decide)
  · intro n
    show L_X12_whereAt_33 K1 K2 may z (n + 1) _ (nI 36) = _
    rw [L_X12_whereAt_33.eq_2, if_pos (by decide)]
  · intro n k hk
    have hcl := cnt_le g k
    have hsu : cnt g (k + 1) = cnt g k + (if g k = true then 1 else 0) := rfl
    show L_X12_whereAt_33 K1 K2 may z (n + 1) (nI (cnt g k)) (nI k) = L_X12_whereAt_33 K1 K2 may z n (nI (cnt g (k + 1))) (nI (k + 1))
    rw [L_X12_whereAt_33.eq_2, if_neg (by rw [show (36 : Int32) = nI 36 from rfl, nI_leI (by decide) (by omega)]; omega), gix_ok hk (by decide), nI_clamp (show k < 2 ^ 31 by omega), hg k hk]
    cases hgk : g k with
    | false =>
      rw [if_pos (show (if false = true then (1 : Int32) else 0) = 0 by decide), nI_1, hsu, hgk]
      rfl
    | true =>
      rw [if_neg (show ¬ (if true = true then (1 : Int32) else 0) = 0 by decide), if_neg (fun e => by
        rw [← e] at hz
        exact nI_pos (show cnt g k < 2 ^ 31 by omega) hz), nI_1, nI_1, hsu, hgk]
      rfl
theorem q_whereAt (hT : SOK S) (h : CX gv M hx ow S) (hX : XR S re wa ka la ra li sa wh ce mi st ta ke ro (nI (tn (zT S))) (nI (tp (zT S))) (nI (tM (zT S))) (nI (zl S)) hi (nI (zr S))) (v w z : Int32) : ∃ r S' re' fa' sh' qu' q' lb' may', CA gv M hx ow (f_X11_whereAt gv hx v w z) r S' ∧ f_X12_whereAt re wa ka la ra li sa wh ce mi st (nI (tn (zT S))) (nI (tp (zT S))) fa sh qu q lb may v w z = some (r, re', fa', sh', qu', q', lb', may') ∧ XR S' re' wa ka la ra li sa wh ce mi st ta ke ro (nI (tn (zT S))) (nI (tp (zT S))) (nI (tM (zT S))) (nI (zl S)) hi (nI (zr S)) ∧ SOK S' := by
  obtain ⟨he, th, la1, pa, fl, pf, LA, SA, sf, e4, ⟨fs, hO⟩, hC, -⟩ := id h.here
  have n1 : ¬ (1 : Int32) = 0 := by decide
  have hn : tn (zT S) ≤ 6 := hT.1.2.2.1
  have hp : tp (zT S) ≤ 4 := hT.1.2.2.2.1
  unfold f_X11_whereAt f_X12_whereAt f_X12_notWhere
  simp only [e4, hC.o, obs]
  rcases idx v (n := tp (zT S)) (by omega) with hv | ⟨p, hpp, e⟩
  · refine ⟨-1, sNo S 1, upd re 1 (re 1 + 1), fa, sh, qu, q, lb, may, ?_, ?_, hX.no 1, hT.no 1⟩
    · rw [hC.isP_no hT.1 hv]
      simp only [obs, if_true]
      exact h.no hT (by decide) (by decide) lm1
    · rw [xip_no hv]
      simp only [obs, if_true, z1, if_false]
      rw [lm1, xno_ok (by decide)]
      rfl
  · subst e
    rw [xip_ok hpp (by omega), hC.isP_ok hT.1 hpp]
    simp only [obs, n1, if_false]
    by_cases w0 : w < 0
    · refine ⟨-4, sNo S 4, upd re 4 (re 4 + 1), fa, sh, qu, q, lb, may, ?_, ?_, hX.no 4, hT.no 4⟩
      · rw [if_pos w0]
        exact h.no hT (by decide) (by decide) lm4
      · simp only [w0, if_true, obs, z4, if_false]
        rw [lm4, xno_ok (by decide)]
        rfl
    · rw [if_neg w0, if_neg w0]
      by_cases y0 : (-1 : Int32) ≤ z
      · rw [if_pos y0, if_pos y0]
        rcases rng w (m := 9999) (by decide) with hw | ⟨hw, hw2⟩ | ⟨t, ht, e⟩
        · exact absurd (Int32.not_le.mp hw) w0
        · refine ⟨-6, sNo S 6, upd re 6 (re 6 + 1), fa, sh, qu, q, lb, may, ?_, ?_, hX.no 6, hT.no 6⟩
          · rw [if_neg (show ¬ w ≤ 9999 from hw2)]
            exact h.no hT (by decide) (by decide) lm6
          · rw [if_neg (show ¬ w ≤ 9999 from hw2)]
            simp only [obs, z6, if_false]
            rw [lm6, xno_ok (by decide)]
            rfl
        · subst e
          have ht9 : nI t ≤ 9999 := nI_le (b := 9999) ht (by decide)
          obtain ⟨fa', sh', qu', q', lb', may', x1, x2, x3⟩ := xfindWhere_ok hT.1 hX.2.1 (fa := fa) (sh := sh) (qu := qu) (q := q) (lb := lb) (may := may) ht (show p < 10 by omega)
          rw [if_pos ht9, if_pos ht9, hC.whereabouts hT.1 (show p < 10 by omega) ht]
          simp only [obs, if_true]
          rw [x1]
          simp only [obs]
          by_cases u0 : (0 : Int32) ≤ z
          · obtain ⟨i, hi2, e⟩ := nI_of (x := z) (fun g => absurd u0 (Int32.not_le.mpr g))
            subst e
            refine ⟨fI (nth (fun c => whB (zT S) p t c (tn (zT S))) i) 36, S, re, fa', sh', qu', q', lb', may', h.same ?_, ?_, hX, hT⟩
            · rw [if_pos u0, byNum_b hi2]
              rfl
            · refine xwa_n x3 hi2 (fun k hk => ?_) (fun hk c => ?_) gF 0 (by decide) (by decide) (fun y hy => by omega)
              · unfold fI
                rw [hk]
              · unfold fI
                rw [hk, if_pos u0]
          · refine ⟨nI (cnt (fun c => whB (zT S) p t c (tn (zT S))) 36), S, re, fa', sh', qu', q', lb', may', h.same ?_, ?_, hX, hT⟩
            · rw [if_neg u0, howMany_b]
              rfl
            · rw [xwa_c x3 (Int32.not_le.mp u0), if_neg u0]
      · rw [if_neg y0, if_neg y0]
        refine ⟨-4, sNo S 4, upd re 4 (re 4 + 1), fa, sh, qu, q, lb, may, ?_, ?_, hX.no 4, hT.no 4⟩
        · exact h.no hT (by decide) (by decide) lm4
        · simp only [obs, z4, if_false]
          rw [lm4, xno_ok (by decide)]
          rfl
end
