section
variable {gv : Nat → GV} {M hx : Nat} {ow : Nat → Nat} {S : SS} {re wa ka la ra li sa wh ce mi st ta ke ro : Nat → Int32} {hi : Int32} {fa sh qu lb may : Nat → Int32} {q : Int32} {tl1 le1 lt1 : Nat → Int32} {at1 ss1 ik1 cu1 : Int32}
/-! knows -/
def knB (T : TS) (t p c k x : Nat) : Bool := anyB (fun l => hasT T l t p c && tG T l (tP T x)) k
theorem xkn112_ok (hT : TOK (zT S)) (hR : RT (zT S) wa ka la ra li sa wh ce mi st) (hlb : LitRow (zT S) lb) {α : Type} {K : Int32 → Option α} {v1 v2 v3 : Int32} {l a : Nat} (hl : l < tn (zT S)) : L_X12_knows_112 K st (nI (tp (zT S))) lb v1 v2 v3 (nI l) gF (nI a) 0 = K (nI (a ||| bm (fun x => tG (zT S) l (tP (zT S) x)) (tp (zT S)))) := by
  have hp : tp (zT S) ≤ 4 := hT.2.2.2.1
  have hn : tn (zT S) ≤ 6 := hT.2.2.1
  have e0 : nI a = nI (a ||| bm (fun x => tG (zT S) l (tP (zT S) x)) 0) := by
    show nI a = nI (a ||| 0)
    rw [Nat.or_zero]
  rw [e0]
  refine gfold (σ := Int32) (ρ := Option α) (fun n k x => L_X12_knows_112 K st (nI (tp (zT S))) lb v1 v2 v3 (nI l) n x (nI k)) K (tp (zT S)) (fun k => nI (a ||| bm (fun x => tG (zT S) l (tP (zT S) x)) k)) ?_ ?_ gF 0 (by unfold gF; omega) (Nat.zero_le _)
  · intro n
    show L_X12_knows_112 K st _ lb v1 v2 v3 (nI l) (n + 1) _ (nI (tp (zT S))) = _
    rw [L_X12_knows_112.eq_2, if_pos (nI_le (Nat.le_refl _) (by omega))]
  · intro n k hk
    have hP := (hT.2.2.2.2.2.1 k hk).1
    show L_X12_knows_112 K st _ lb v1 v2 v3 (nI l) (n + 1) (nI (a ||| bm (fun x => tG (zT S) l (tP (zT S) x)) k)) (nI k) = L_X12_knows_112 K st _ lb v1 v2 v3 (nI l) n (nI (a ||| bm (fun x => tG (zT S) l (tP (zT S) x)) (k + 1))) (nI (k + 1))
    rw [L_X12_knows_112.eq_2, if_neg (by rw [nI_leI (by omega) (by omega)]; omega)]
    unfold f_X12_shownTo
    rw [gix_ok (show k < 4 by omega) (by decide), nI_clamp (show k < 2 ^ 31 by omega), hR.2.1 k hk, gix_ok hP (by decide), nI_clamp (show tP (zT S) k < 2 ^ 31 by omega), hlb _ hP]
    simp only [obs]
    rw [xhas_ok (bm_i (by omega)) (by omega), bm_tb]
    simp only [obs, hl, decide_true, Bool.true_and]
    rw [bm_succ, ← Nat.or_assoc, ← i_or (a ||| bm _ k), nI_1]
    cases tG (zT S) l (tP (zT S) k) with
    | true =>
      rw [if_neg (show ¬ (if true = true then (1 : Int32) else 0) = 0 by decide), if_pos rfl, sh1 (by omega)]
    | false =>
      rw [if_pos (show (if false = true then (1 : Int32) else 0) = 0 by decide), if_neg (by decide)]
      rfl
theorem q_knows (hT : SOK S) (h : CX gv M hx ow S) (hX : XR S re wa ka la ra li sa wh ce mi st ta ke ro (nI (tn (zT S))) (nI (tp (zT S))) (nI (tM (zT S))) (nI (zl S)) hi (nI (zr S))) (v w z : Int32) : ∃ r S' re' fa' sh' qu' q' lb', CA gv M hx ow (f_X11_knows gv hx v w z) r S' ∧ f_X12_knows re wa ka la ra sa wh ce mi st (nI (tn (zT S))) (nI (tp (zT S))) fa sh qu q lb v w z = some (r, re', fa', sh', qu', q', lb') ∧ XR S' re' wa ka la ra li sa wh ce mi st ta ke ro (nI (tn (zT S))) (nI (tp (zT S))) (nI (tM (zT S))) (nI (zl S)) hi (nI (zr S)) ∧ SOK S' := by
  obtain ⟨he, th, la1, pa, fl, pf, LA, SA, sf, e4, ⟨fs, hO⟩, hC, -⟩ := id h.here
  have n1 : ¬ (1 : Int32) = 0 := by decide
  have hn : tn (zT S) ≤ 6 := hT.1.2.2.1
  have hp : tp (zT S) ≤ 4 := hT.1.2.2.2.1
  unfold f_X11_knows f_X12_knows
  simp only [e4, hC.o, obs]
  rcases idx v (n := tp (zT S)) (by omega) with hv | ⟨p, hpp, e⟩
  · refine ⟨-1, sNo S 1, upd re 1 (re 1 + 1), fa, sh, qu, q, lb, ?_, ?_, hX.no 1, hT.no 1⟩
    · rw [hC.isP_no hT.1 hv]
      simp only [obs, if_true]
      exact h.no hT (by decide) (by decide) lm1
    · rw [xip_no hv]
      simp only [obs, if_true, z1, if_false]
      rw [lm1, xno_ok (by decide)]
      rfl
  · subst e
    rw [hC.isP_ok hT.1 hpp, xip_ok hpp (by omega)]
    simp only [obs, n1, if_false]
    rcases idx w (n := 36) (by decide) with hv | ⟨c, hc, e⟩
    · refine ⟨-1, sNo S 1, upd re 1 (re 1 + 1), fa, sh, qu, q, lb, ?_, ?_, hX.no 1, hT.no 1⟩
      · rw [cic_no hv]
        simp only [obs, if_true]
        exact h.no hT (by decide) (by decide) lm1
      · rw [xic_no hv]
        simp only [obs, if_true, z1, if_false]
        rw [lm1, xno_ok (by decide)]
        rfl
    · subst e
      rw [cic_ok hc, xic_ok hc]
      simp only [obs, n1, if_false]
      rcases rng z (m := 9999) (by decide) with hw | ⟨hw, hw2⟩ | ⟨t, ht, e⟩
      · refine ⟨-4, sNo S 4, upd re 4 (re 4 + 1), fa, sh, qu, q, lb, ?_, ?_, hX.no 4, hT.no 4⟩
        · rw [co_lo hw]
          simp only [obs, g4, if_false]
          exact h.no hT (by decide) (by decide) lm4
        · rw [xb_lo hw]
          simp only [obs, z4, if_false]
          rw [lm4, xno_ok (by decide)]
          rfl
      · refine ⟨-6, sNo S 6, upd re 6 (re 6 + 1), fa, sh, qu, q, lb, ?_, ?_, hX.no 6, hT.no 6⟩
        · rw [co_hi (M := 9999) hw hw2]
          simp only [obs, g6, if_false]
          exact h.no hT (by decide) (by decide) lm6
        · rw [xb_hi (M := 9999) hw hw2]
          simp only [obs, z6, if_false]
          rw [lm6, xno_ok (by decide)]
          rfl
      · subst e
        rw [co_ok (M := 9999) (m := 9999) rfl ht (by decide), xb_ok (M := 9999) (m := 9999) rfl ht (by decide)]
        simp only [obs, g0, if_true]
        obtain ⟨fa1, sh1, qu1, q1, lb1, x1, x2⟩ := xfindLit_ok hT.1 hX.2.1 (fa := fa) (sh := sh) (qu := qu) (q := q) (lb := lb)
        rw [x1]
        simp only [obs]
        have hz0 : bm (knB (zT S) t p c 0) (tp (zT S)) = 0 := bm_zero.mpr (fun k _ => rfl)
        refine ⟨nI (bm (knB (zT S) t p c (tn (zT S))) (tp (zT S))), S, re, fa1, sh1, qu1, q1, lb1, h.same ?_, ?_, hX, hT⟩
        · unfold f_X9_of
          simp only [obs]
          rw [scn_ok]
          have main := gfold (σ := Int32) (ρ := Option (Int32 × (Nat → GV))) (fun n k x => L_X11_knows_60 (fun x60_125 => some (x60_125, gv)) gv hx (nI (t * 1000 + c * 10 + p)) n x (nI k)) (fun x => some (x, gv)) (tn (zT S)) (fun k => nI (bm (knB (zT S) t p c k) (tp (zT S)))) ?_ ?_ gF 0 (by unfold gF; omega) (Nat.zero_le _)
          · rw [hz0] at main
            exact main
          · intro n
            show L_X11_knows_60 _ gv hx _ (n + 1) _ (nI (tn (zT S))) = _
            rw [L_X11_knows_60.eq_2, e4]
            simp only [obs, hC.f3]
            rw [if_pos (nI_le (Nat.le_refl _) (by omega))]
          · intro n k hk
            show L_X11_knows_60 _ gv hx _ (n + 1) (nI (bm (knB (zT S) t p c k) (tp (zT S)))) (nI k) = L_X11_knows_60 _ gv hx _ n (nI (bm (knB (zT S) t p c (k + 1)) (tp (zT S)))) (nI (k + 1))
            rw [L_X11_knows_60.eq_2, e4]
            simp only [obs, hC.f3]
            rw [if_neg (by rw [nI_leI (by omega) (by omega)]; omega), hC.o]
            simp only [obs]
            rw [hC.lampAt hT.1 hk]
            simp only [obs]
            rw [(hC.lp hk).hasScene (hC.sc hT.1 hk) ht (show p < 10 by omega) hc, nI_1]
            simp only [obs]
            have hsu : ∀ x, knB (zT S) t p c (k + 1) x = (knB (zT S) t p c k x || (hasT (zT S) k t p c && tG (zT S) k (tP (zT S) x))) := fun x => rfl
            cases hh : hasB (tS (zT S) k) (tw (zT S) k) (tx (zT S) k) (tm (zT S) k) t p c with
            | true =>
              rw [if_neg (show ¬ (if true = true then (1 : Int32) else 0) = 0 by decide), hC.glow hT.1 hk]
              simp only [obs]
              rw [hC.peopleOn hT.1]
              simp only [obs]
              rw [i_or, bm_or]
              congr 2
              refine bm_cong (fun x _ => ?_)
              rw [hsu x]
              unfold hasT
              rw [hh]
              rfl
            | false =>
              rw [if_pos (show (if false = true then (1 : Int32) else 0) = 0 by decide)]
              simp only [obs]
              congr 2
              refine bm_cong (fun x _ => ?_)
              rw [hsu x]
              unfold hasT
              rw [hh]
              simp
        · have main := gfold (σ := Int32) (ρ := Option (Int32 × (Nat → Int32) × (Nat → Int32) × (Nat → Int32) × (Nat → Int32) × Int32 × (Nat → Int32))) (fun n k x => L_X12_knows_51 (fun x51_160 => some (x51_160, re, fa1, sh1, qu1, q1, lb1)) sa wh ce mi st (nI (tn (zT S))) (nI (tp (zT S))) lb1 (nI p) (nI c) (nI t) n x (nI k)) (fun x => some (x, re, fa1, sh1, qu1, q1, lb1)) (tn (zT S)) (fun k => nI (bm (knB (zT S) t p c k) (tp (zT S)))) ?_ ?_ gF 0 (by unfold gF; omega) (Nat.zero_le _)
          · rw [hz0] at main
            exact main
          · intro n
            show L_X12_knows_51 _ sa wh ce mi st _ _ lb1 _ _ _ (n + 1) _ (nI (tn (zT S))) = _
            rw [L_X12_knows_51.eq_2, if_pos (nI_le (Nat.le_refl _) (by omega))]
          · intro n k hk
            have h9 := hT.1.s9 hk
            show L_X12_knows_51 _ sa wh ce mi st _ _ lb1 _ _ _ (n + 1) (nI (bm (knB (zT S) t p c k) (tp (zT S)))) (nI k) = L_X12_knows_51 _ sa wh ce mi st _ _ lb1 _ _ _ n (nI (bm (knB (zT S) t p c (k + 1)) (tp (zT S)))) (nI (k + 1))
            rw [L_X12_knows_51.eq_2, if_neg (by rw [nI_leI (by omega) (by omega)]; omega), xsceneAt_ok hT.1 hX.2.1 hk (show t < 2 ^ 31 by omega)]
            simp only [obs]
            have hsu : ∀ x, knB (zT S) t p c (k + 1) x = (knB (zT S) t p c k x || (hasT (zT S) k t p c && tG (zT S) k (tP (zT S) x))) := fun x => rfl
            have same : hasT (zT S) k t p c = false → bm (knB (zT S) t p c (k + 1)) (tp (zT S)) = bm (knB (zT S) t p c k) (tp (zT S)) := fun g => bm_cong (fun x _ => by rw [hsu x, g]; simp)
            rcases fI_cas (fun i => decide (tm (zT S) k i = t)) (tS (zT S) k) with ⟨i, e1, e2, e3, e5⟩ | ⟨e3, e5⟩
            · obtain ⟨s1, s2, s3⟩ := hX.2.1.sc hk e1
              obtain ⟨u1, u2, u3⟩ := hT.1.sc hk e1
              have hh : hasT (zT S) k t p c = decide (tw (zT S) k i = p ∧ tx (zT S) k i = c) := by
                unfold hasT hasB
                rw [e3]
              rw [e5, if_neg (nI_pos (by omega))]
              simp only [i9, nI_add, gix_ok (show 9 * k + i < 54 by omega) (show 54 < 2 ^ 31 by decide), nI_clamp (show 9 * k + i < 2 ^ 31 by omega), s1, s2]
              rw [nI_1]
              by_cases c1 : tw (zT S) k i = p
              · rw [if_pos (by rw [c1])]
                by_cases c2 : tx (zT S) k i = c
                · rw [if_pos (by rw [c2]), xkn112_ok hT.1 hX.2.1 x2 hk]
                  simp only [obs]
                  rw [bm_or]
                  congr 2
                  refine bm_cong (fun x _ => ?_)
                  rw [hsu x, hh]
                  simp [c1, c2]
                · rw [if_neg (by rw [nI_eq (by omega) (by omega)]; exact c2)]
                  simp only [obs]
                  rw [same (by rw [hh]; simp [c2])]
              · rw [if_neg (by rw [nI_eq (by omega) (by omega)]; exact c1)]
                simp only [obs]
                rw [same (by rw [hh]; simp [c1])]
            · rw [e5, if_pos (by decide)]
              simp only [obs]
              rw [nI_1, same (by unfold hasT hasB; rw [e3])]
end
