section
variable {gv : Nat → GV} {M hx : Nat} {ow : Nat → Nat} {S : SS} {re wa ka la ra li sa wh ce mi st ta ke ro : Nat → Int32} {hi : Int32} {fa sh qu lb may : Nat → Int32} {q : Int32} {tl1 le1 lt1 : Nat → Int32} {at1 ss1 ik1 cu1 : Int32}
/-- unlit -/
theorem gS_iff (T : TS) (s c : Nat) : gS T s c = !decide (bm (fun l => tG T l c) (tn T) &&& s = 0) := anyB_and
theorem q_unlit (hT : SOK S) (h : CX gv M hx ow S) (hX : XR S re wa ka la ra li sa wh ce mi st ta ke ro (nI (tn (zT S))) (nI (tp (zT S))) (nI (tM (zT S))) (nI (zl S)) hi (nI (zr S))) (v w z : Int32) : ∃ r S' re' fa' sh' qu' q' lb', CA gv M hx ow (f_X11_unlit gv hx v w z) r S' ∧ f_X12_unlit re wa ka la ra li st (nI (tn (zT S))) (nI (tp (zT S))) fa sh qu q lb v w z = some (r, re', fa', sh', qu', q', lb') ∧ XR S' re' wa ka la ra li sa wh ce mi st ta ke ro (nI (tn (zT S))) (nI (tp (zT S))) (nI (tM (zT S))) (nI (zl S)) hi (nI (zr S)) ∧ SOK S' := by
  obtain ⟨he, th, la1, pa, fl, pf, LA, SA, sf, e4, ⟨fs, hO⟩, hC, -⟩ := id h.here
  have n1 : ¬ (1 : Int32) = 0 := by decide
  have hn : tn (zT S) ≤ 6 := hT.1.2.2.1
  have hp : tp (zT S) ≤ 4 := hT.1.2.2.2.1
  unfold f_X11_unlit f_X12_unlit
  rcases idx v (n := 36) (by decide) with hv | ⟨a, ha, e⟩
  · refine ⟨-1, sNo S 1, upd re 1 (re 1 + 1), fa, sh, qu, q, lb, ?_, ?_, hX.no 1, hT.no 1⟩
    · rw [cic_no hv]
      exact h.no hT (by decide) (by decide) lm1
    · rw [xic_no hv]
      simp only [obs, if_true, z1, if_false]
      rw [lm1, xno_ok (by decide)]
      rfl
  · subst e
    rw [cic_ok ha, xic_ok ha]
    simp only [obs, n1, if_false]
    rcases idx w (n := 36) (by decide) with hv | ⟨t, ht, e⟩
    · refine ⟨-1, sNo S 1, upd re 1 (re 1 + 1), fa, sh, qu, q, lb, ?_, ?_, hX.no 1, hT.no 1⟩
      · rw [cic_no hv]
        exact h.no hT (by decide) (by decide) lm1
      · rw [xic_no hv]
        simp only [obs, if_true, z1, if_false]
        rw [lm1, xno_ok (by decide)]
        rfl
    · subst e
      rw [cic_ok ht, xic_ok ht]
      simp only [obs, n1, if_false]
      rcases rng z (m := 63) (by decide) with hw | ⟨hw, hw2⟩ | ⟨b, hb, e⟩
      · refine ⟨-4, sNo S 4, upd re 4 (re 4 + 1), fa, sh, qu, q, lb, ?_, ?_, hX.no 4, hT.no 4⟩
        · rw [co_lo hw]
          simp only [obs, g4, if_false]
          exact h.no hT (by decide) (by decide) lm4
        · rw [xb_lo hw]
          simp only [obs, z4, if_false]
          rw [lm4, xno_ok (by decide)]
          rfl
      · refine ⟨-6, sNo S 6, upd re 6 (re 6 + 1), fa, sh, qu, q, lb, ?_, ?_, hX.no 6, hT.no 6⟩
        · rw [co_hi (M := 63) hw hw2]
          simp only [obs, g6, if_false]
          exact h.no hT (by decide) (by decide) lm6
        · rw [xb_hi (M := 63) hw hw2]
          simp only [obs, z6, if_false]
          rw [lm6, xno_ok (by decide)]
          rfl
      · subst e
        rw [co_ok (M := 63) (m := 63) rfl hb (by decide), xb_ok (M := 63) (m := 63) rfl hb (by decide)]
        simp only [obs, g0, if_true, e4, hC.o]
        obtain ⟨fa1, sh1, qu1, q1, lb1, x1, x2⟩ := xfindLit_ok hT.1 hX.2.1 (fa := fa) (sh := sh) (qu := qu) (q := q) (lb := lb)
        rw [x1, hC.free, hC.litBut hT.1]
        simp only [obs]
        rw [lb_andN]
        obtain ⟨s, hs⟩ : ∃ s, s = bm (tL (zT S)) (tn (zT S)) &&& (b ^^^ (2 ^ 32 - 1)) := ⟨_, rfl⟩
        rw [← hs]
        have main := gloop (σ := Nat → Int32) (ρ := Option (Int32 × (Nat → Int32) × (Nat → Int32) × (Nat → Int32) × (Nat → Int32) × Int32 × (Nat → Int32))) (fun n k x => L_X12_unlit_46 (fun x46_101 => (f_X12_findFar fa1 x46_101 qu1 q1 (nI a)).bind fun o103 => gix (nI t) 36 (some (o103.1 (nI t).toNatClampNeg, re, o103.1, x46_101, o103.2.1, o103.2.2, lb1))) wa li (nI (tn (zT S))) lb1 (nI a) (nI t) (nI b) n (nI k) x) 36 (fun k x => ∀ c, c < k → x c = if (tF (zT S) c && !gS (zT S) s c) = true then 0 else 1) (fun r => ∃ sh2, r = ((f_X12_findFar fa1 sh2 qu1 q1 (nI a)).bind fun o103 => gix (nI t) 36 (some (o103.1 (nI t).toNatClampNeg, re, o103.1, sh2, o103.2.1, o103.2.2, lb1))) ∧ ∀ c, c < 36 → sh2 c = if (tF (zT S) c && !gS (zT S) s c) = true then 0 else 1) ?_ ?_ gF 0 sh1 (by decide) (by decide) (fun c hc => by omega)
        · obtain ⟨sh2, m1, m2⟩ := main
          obtain ⟨fa', qu', q', f1, f2⟩ := findFar_ok (far := fa1) (sh := sh2) (qu := qu1) (q0 := q1) (f := fun c => tF (zT S) c && !gS (zT S) s c) (fun c hc => by
            rw [m2 c hc]
            cases (tF (zT S) c && !gS (zT S) s c) <;> simp) (fun c hc => by
            simp only [Bool.and_eq_true] at hc
            exact fr36 c hc.1) ha
          refine ⟨fa' t, S, re, fa', sh2, qu', q', lb1, h.same ?_, ?_, hX, hT⟩
          · rw [fewest_b (fun c hc => by
              simp only [Bool.and_eq_true] at hc
              exact fr36 c hc.1) ha ht f2]
            rfl
          · refine Eq.trans m1 ?_
            rw [f1]
            simp only [obs]
            rw [gix_ok ht (by decide), nI_clamp (show t < 2 ^ 31 by omega)]
        · intro n x hI
          refine ⟨x, ?_, hI⟩
          show L_X12_unlit_46 _ wa li _ lb1 _ _ _ (n + 1) (nI 36) x = _
          rw [L_X12_unlit_46.eq_2, if_pos (by decide)]
        · intro n k x hk hI
          right
          have hj : (if wa k = 1 then some 1 else if ((nI (bm (fun l => tG (zT S) l k) (tn (zT S))) &&& nI (bm (tL (zT S)) (tn (zT S)))) &&& (nI b ^^^ (-1 : Int32))) = 0 then some 0 else some 1 : Option Int32) = some (if (tF (zT S) k && !gS (zT S) s k) = true then 0 else 1) := by
            rw [hX.2.1.1 k hk]
            cases hw : tW (zT S) k with
            | true =>
              have hF : tF (zT S) k = false := by unfold tF fr; rw [hw]; simp
              rw [if_pos (show (if true = true then 1 else 0 : Int32) = 1 by decide), hF]
              rfl
            | false =>
              have hF : tF (zT S) k = true := by unfold tF fr; rw [hw]; simp [hk]
              rw [if_neg (show ¬ (if false = true then 1 else 0 : Int32) = 1 by decide), hF, gS_iff, i_m1, fb_xorI, nx_and, nx_and, Nat.and_assoc, ← hs]
              have hlt : bm (fun l => tG (zT S) l k) (tn (zT S)) &&& s < 2 ^ 31 := Nat.lt_of_le_of_lt Nat.and_le_left (bm_i (by omega))
              by_cases e : bm (fun l => tG (zT S) l k) (tn (zT S)) &&& s = 0
              · rw [if_pos (by rw [e]; rfl)]
                simp [e]
              · rw [if_neg (by rw [show (0 : Int32) = nI 0 from rfl, nI_eq hlt (by decide)]; exact e)]
                simp [e]
          refine ⟨upd x k (if (tF (zT S) k && !gS (zT S) s k) = true then 0 else 1), ?_, fun c hc => ?_⟩
          · show L_X12_unlit_46 _ wa li _ lb1 _ _ _ (n + 1) (nI k) x = L_X12_unlit_46 _ wa li _ lb1 _ _ _ n (nI (k + 1)) _
            rw [L_X12_unlit_46.eq_2, if_neg (by rw [show (36 : Int32) = nI 36 from rfl, nI_leI (by decide) (by omega)]; omega)]
            simp only [gix_ok hk (show 36 < 2 ^ 31 by decide), nI_clamp (show k < 2 ^ 31 by omega), x2 k hk, xlitBits_ok hT.1 hX.2.1, obs]
            rw [hj]
            simp only [obs]
            rw [nI_1]
          · by_cases hck : c = k
            · subst hck; rw [upd_s]
            · rw [upd_n hck]; exact hI c (by omega)
end
