section
variable {gv : Nat → GV} {M hx : Nat} {ow : Nat → Nat} {S : SS} {re wa ka la ra li sa wh ce mi st ta ke ro : Nat → Int32} {hi : Int32} {fa sh qu lb may : Nat → Int32} {q : Int32} {tl1 le1 lt1 : Nat → Int32} {at1 ss1 ik1 cu1 : Int32}
/-! one more: the best cell so far, and how many more it lights -/
def omC (T : TS) (s r y c : Nat) : Bool := gl1 (tF T) y r c && !gS T s c
def omS (T : TS) (s r : Nat) : Nat → Int32 × Int32
  | 0 => (0, -1)
  | k + 1 => if nI (cnt (omC T s r k) 36) ≤ (omS T s r k).2 then omS T s r k else (nI k, nI (cnt (omC T s r k) 36))
theorem q_oneMore (hT : SOK S) (h : CX gv M hx ow S) (hX : XR S re wa ka la ra li sa wh ce mi st ta ke ro (nI (tn (zT S))) (nI (tp (zT S))) (nI (tM (zT S))) (nI (zl S)) hi (nI (zr S))) (v w : Int32) : ∃ r S' re' fa' sh' qu' q' lb', CA gv M hx ow (f_X11_oneMore gv hx v w) r S' ∧ f_X12_oneMore re wa ka la ra li st (nI (tn (zT S))) (nI (tp (zT S))) fa sh qu q lb v w = some (r, re', fa', sh', qu', q', lb') ∧ XR S' re' wa ka la ra li sa wh ce mi st ta ke ro (nI (tn (zT S))) (nI (tp (zT S))) (nI (tM (zT S))) (nI (zl S)) hi (nI (zr S)) ∧ SOK S' := by
  obtain ⟨he, th, la1, pa, fl, pf, LA, SA, sf, e4, ⟨fs, hO⟩, hC, -⟩ := id h.here
  have n1 : ¬ (1 : Int32) = 0 := by decide
  have hn : tn (zT S) ≤ 6 := hT.1.2.2.1
  have hp : tp (zT S) ≤ 4 := hT.1.2.2.2.1
  unfold f_X11_oneMore f_X12_oneMore
  rcases rng v (m := 5) (by decide) with hw | ⟨hw, hw2⟩ | ⟨r, hr, e⟩
  · refine ⟨-4, sNo S 4, upd re 4 (re 4 + 1), fa, sh, qu, q, lb, ?_, ?_, hX.no 4, hT.no 4⟩
    · rw [co_lo hw]
      simp only [obs, g4, if_false]
      exact h.no hT (by decide) (by decide) lm4
    · rw [xb_lo hw]
      simp only [obs, z4, if_false]
      rw [lm4, xno_ok (by decide)]
      rfl
  · refine ⟨-6, sNo S 6, upd re 6 (re 6 + 1), fa, sh, qu, q, lb, ?_, ?_, hX.no 6, hT.no 6⟩
    · rw [co_hi (M := 5) hw hw2]
      simp only [obs, g6, if_false]
      exact h.no hT (by decide) (by decide) lm6
    · rw [xb_hi (M := 5) hw hw2]
      simp only [obs, z6, if_false]
      rw [lm6, xno_ok (by decide)]
      rfl
  · subst e
    rw [co_ok (M := 5) (m := 5) rfl hr (by decide), xb_ok (M := 5) (m := 5) rfl hr (by decide)]
    simp only [obs, g0, if_true, e4, hC.o]
    obtain ⟨fa1, sh1, qu1, q1, lb1, x1, x2⟩ := xfindLit_ok hT.1 hX.2.1 (fa := fa) (sh := sh) (qu := qu) (q := q) (lb := lb)
    obtain ⟨s, hs⟩ : ∃ s, s = bm (tL (zT S)) (tn (zT S)) := ⟨_, rfl⟩
    have hl0 := hC.lit0 hT.1
    have hlb := xlitBits_ok hT.1 hX.2.1
    rw [← hs] at hl0 hlb
    have cls : ∀ K : (Int32 × Int32) → Option (Int32 × (Nat → GV)), L_X11_oneMore_56 K gv hx (nI r) w (lN (bm (gS (zT S) s) 36) ^^^ (-1 : Int64)) gF 0 (-1 : Int32) 0 = K (omS (zT S) s r 36) := by
      intro K
      refine gfold (σ := Int32 × Int32) (ρ := Option (Int32 × (Nat → GV))) (fun n k x => L_X11_oneMore_56 K gv hx (nI r) w (lN (bm (gS (zT S) s) 36) ^^^ (-1 : Int64)) n x.1 x.2 (nI k)) K 36 (omS (zT S) s r) ?_ ?_ gF 0 (by decide) (by decide)
      · intro n
        show L_X11_oneMore_56 K gv hx _ w _ (n + 1) _ _ (nI 36) = _
        rw [L_X11_oneMore_56.eq_2, if_pos (by decide)]
      · intro n k hk
        show L_X11_oneMore_56 K gv hx _ w _ (n + 1) (omS (zT S) s r k).1 (omS (zT S) s r k).2 (nI k) = L_X11_oneMore_56 K gv hx _ w _ n (omS (zT S) s r (k + 1)).1 (omS (zT S) s r (k + 1)).2 (nI (k + 1))
        rw [L_X11_oneMore_56.eq_2, if_neg (by rw [show (36 : Int32) = nI 36 from rfl, nI_leI (by decide) (by omega)]; omega), e4]
        simp only [obs, hC.o, hC.free]
        rw [within_b fr36 hk (by omega)]
        simp only [obs]
        rw [lb_andN, howMany_b, nI_1]
        simp only [obs]
        have hsu : omS (zT S) s r (k + 1) = if nI (cnt (omC (zT S) s r k) 36) ≤ (omS (zT S) s r k).2 then omS (zT S) s r k else (nI k, nI (cnt (omC (zT S) s r k) 36)) := rfl
        rw [hsu]
        show ((if nI (cnt (omC (zT S) s r k) 36) ≤ (omS (zT S) s r k).2 then some ((omS (zT S) s r k).1, (omS (zT S) s r k).2) else some (nI k, nI (cnt (omC (zT S) s r k) 36)) : Option (Int32 × Int32)).bind _) = _
        by_cases c1 : nI (cnt (omC (zT S) s r k) 36) ≤ (omS (zT S) s r k).2
        · rw [if_pos c1, if_pos c1]
          rfl
        · rw [if_neg c1, if_neg c1]
          rfl
    have ref : ∀ K : (Int32 × Int32 × (Nat → Int32) × (Nat → Int32) × (Nat → Int32) × Int32) → Option (Int32 × (Nat → Int32) × (Nat → Int32) × (Nat → Int32) × (Nat → Int32) × Int32 × (Nat → Int32)), ∃ fa2 sh2 qu2 q2, L_X12_oneMore_46 K wa li (nI (tn (zT S))) lb1 (nI r) w gF 0 (-1 : Int32) 0 fa1 sh1 qu1 q1 = K ((omS (zT S) s r 36).1, (omS (zT S) s r 36).2, fa2, sh2, qu2, q2) := by
      intro K
      refine gloop (σ := Int32 × Int32 × (Nat → Int32) × (Nat → Int32) × (Nat → Int32) × Int32) (ρ := Option (Int32 × (Nat → Int32) × (Nat → Int32) × (Nat → Int32) × (Nat → Int32) × Int32 × (Nat → Int32))) (fun n k x => L_X12_oneMore_46 K wa li (nI (tn (zT S))) lb1 (nI r) w n x.1 x.2.1 (nI k) x.2.2.1 x.2.2.2.1 x.2.2.2.2.1 x.2.2.2.2.2) 36 (fun k x => x.1 = (omS (zT S) s r k).1 ∧ x.2.1 = (omS (zT S) s r k).2) (fun res => ∃ fa2 sh2 qu2 q2, res = K ((omS (zT S) s r 36).1, (omS (zT S) s r 36).2, fa2, sh2, qu2, q2)) ?_ ?_ gF 0 (0, -1, fa1, sh1, qu1, q1) (by decide) (by decide) ⟨rfl, rfl⟩
      · intro n x hI
        refine ⟨x.2.2.1, x.2.2.2.1, x.2.2.2.2.1, x.2.2.2.2.2, ?_⟩
        show L_X12_oneMore_46 K wa li _ lb1 _ w (n + 1) x.1 x.2.1 (nI 36) _ _ _ _ = _
        rw [L_X12_oneMore_46.eq_2, if_pos (by decide), hI.1, hI.2]
      · intro n k x hk hI
        right
        obtain ⟨fa2, sh2, qu2, q2, y1, y2⟩ := xlight_ok hX.2.1 (fa := x.2.2.1) (sh := x.2.2.2.1) (qu := x.2.2.2.2.1) (q := x.2.2.2.2.2) hk (show r < 2 ^ 31 by omega)
        have cn : ∀ K2 : Int32 → Option (Int32 × (Nat → Int32) × (Nat → Int32) × (Nat → Int32) × (Nat → Int32) × Int32 × (Nat → Int32)), ∀ a1 a2 a3 : Int32, L_X12_oneMore_66 K2 li (nI (tn (zT S))) fa2 lb1 (nI r) w a1 a2 a3 gF 0 0 = K2 (nI (cnt (omC (zT S) s r k) 36)) := by
          intro K2 a1 a2 a3
          refine gfold (σ := Int32) (ρ := Option (Int32 × (Nat → Int32) × (Nat → Int32) × (Nat → Int32) × (Nat → Int32) × Int32 × (Nat → Int32))) (fun n c y => L_X12_oneMore_66 K2 li (nI (tn (zT S))) fa2 lb1 (nI r) w a1 a2 a3 n y (nI c)) K2 36 (fun c => nI (cnt (omC (zT S) s r k) c)) ?_ ?_ gF 0 (by decide) (by decide)
          · intro n
            show L_X12_oneMore_66 K2 li _ fa2 lb1 _ w a1 a2 a3 (n + 1) _ (nI 36) = _
            rw [L_X12_oneMore_66.eq_2, if_pos (by decide)]
          · intro n c hc
            show L_X12_oneMore_66 K2 li _ fa2 lb1 _ w a1 a2 a3 (n + 1) (nI (cnt (omC (zT S) s r k) c)) (nI c) = L_X12_oneMore_66 K2 li _ fa2 lb1 _ w a1 a2 a3 n (nI (cnt (omC (zT S) s r k) (c + 1))) (nI (c + 1))
            rw [L_X12_oneMore_66.eq_2, if_neg (by rw [show (36 : Int32) = nI 36 from rfl, nI_leI (by decide) (by omega)]; omega)]
            simp only [gix_ok hc (show 36 < 2 ^ 31 by decide), nI_clamp (show c < 2 ^ 31 by omega), x2 c hc, hlb, obs]
            have hlt : bm (fun l => tG (zT S) l c) (tn (zT S)) &&& s < 2 ^ 31 := Nat.lt_of_le_of_lt Nat.and_le_left (bm_i (by omega))
            have hg : gS (zT S) s c = !decide (bm (fun l => tG (zT S) l c) (tn (zT S)) &&& s = 0) := anyB_and
            have hj : (if fa2 c < 0 then some 0 else if (nI (bm (fun l => tG (zT S) l c) (tn (zT S))) &&& nI s) = 0 then some 1 else some 0 : Option Int32) = some (if omC (zT S) s r k c = true then 1 else 0) := by
              unfold omC
              cases hgl : gl1 (tF (zT S)) k r c with
              | false =>
                rw [if_pos ((y2 c hc).mpr hgl)]
                rfl
              | true =>
                rw [if_neg (fun g => by rw [(y2 c hc).mp g] at hgl; cases hgl), nx_and, hg]
                by_cases e : bm (fun l => tG (zT S) l c) (tn (zT S)) &&& s = 0
                · rw [if_pos (by rw [e]; rfl)]
                  simp [e]
                · rw [if_neg (by rw [show (0 : Int32) = nI 0 from rfl, nI_eq hlt (by decide)]; exact e)]
                  simp [e]
            rw [hj]
            simp only [obs]
            have hsu : cnt (omC (zT S) s r k) (c + 1) = cnt (omC (zT S) s r k) c + (if omC (zT S) s r k c = true then 1 else 0) := rfl
            rw [hsu, nI_1, ← nI_add (cnt _ c)]
            cases omC (zT S) s r k c <;> rfl
        have hsu : omS (zT S) s r (k + 1) = if nI (cnt (omC (zT S) s r k) 36) ≤ (omS (zT S) s r k).2 then omS (zT S) s r k else (nI k, nI (cnt (omC (zT S) s r k) 36)) := rfl
        have stp : L_X12_oneMore_46 K wa li (nI (tn (zT S))) lb1 (nI r) w (n + 1) x.1 x.2.1 (nI k) x.2.2.1 x.2.2.2.1 x.2.2.2.2.1 x.2.2.2.2.2 = ((if x.2.1 < nI (cnt (omC (zT S) s r k) 36) then some (nI k, nI (cnt (omC (zT S) s r k) 36)) else some (x.1, x.2.1) : Option (Int32 × Int32)).bind fun j118 => L_X12_oneMore_46 K wa li (nI (tn (zT S))) lb1 (nI r) w n j118.1 j118.2 (nI (k + 1)) fa2 sh2 qu2 q2) := by
          rw [L_X12_oneMore_46.eq_2, if_neg (by rw [show (36 : Int32) = nI 36 from rfl, nI_leI (by decide) (by omega)]; omega), y1]
          simp only [obs]
          rw [cn, nI_1]
        by_cases c1 : nI (cnt (omC (zT S) s r k) 36) ≤ (omS (zT S) s r k).2
        · refine ⟨(x.1, x.2.1, fa2, sh2, qu2, q2), ?_, ?_⟩
          · show L_X12_oneMore_46 K wa li (nI (tn (zT S))) lb1 (nI r) w (n + 1) x.1 x.2.1 (nI k) x.2.2.1 x.2.2.2.1 x.2.2.2.2.1 x.2.2.2.2.2 = _
            rw [stp, if_neg (by rw [hI.2]; exact Int32.not_lt.mpr c1)]
            rfl
          · rw [hsu, if_pos c1]
            exact hI
        · refine ⟨(nI k, nI (cnt (omC (zT S) s r k) 36), fa2, sh2, qu2, q2), ?_, ?_⟩
          · show L_X12_oneMore_46 K wa li (nI (tn (zT S))) lb1 (nI r) w (n + 1) x.1 x.2.1 (nI k) x.2.2.1 x.2.2.2.1 x.2.2.2.2.1 x.2.2.2.2.2 = _
            rw [stp, if_pos (by rw [hI.2]; exact Int32.not_le.mp c1)]
            rfl
          · rw [hsu, if_neg c1]
            exact ⟨rfl, rfl⟩
    rw [hl0]
    simp only [obs]
    by_cases c0 : w = 0
    · subst c0
      obtain ⟨fa2, sh2, qu2, q2, r1⟩ := ref (fun x46_138 => some (x46_138.2.1, re, x46_138.2.2.1, x46_138.2.2.2.1, x46_138.2.2.2.2.1, x46_138.2.2.2.2.2, lb1))
      refine ⟨(omS (zT S) s r 36).2, S, re, fa2, sh2, qu2, q2, lb1, h.same ?_, ?_, hX, hT⟩
      · rw [if_pos rfl, cls]
        rfl
      · rw [show f_X12_isIn 0 0 1 = some 1 from by decide]
        simp only [obs, n1, if_false, if_true]
        rw [x1]
        simp only [obs]
        rw [r1]
    · by_cases c1 : w = 1
      · subst c1
        obtain ⟨fa2, sh2, qu2, q2, r1⟩ := ref (fun x46_138 => some (x46_138.1, re, x46_138.2.2.1, x46_138.2.2.2.1, x46_138.2.2.2.2.1, x46_138.2.2.2.2.2, lb1))
        refine ⟨(omS (zT S) s r 36).1, S, re, fa2, sh2, qu2, q2, lb1, h.same ?_, ?_, hX, hT⟩
        · rw [if_neg (by decide), if_pos rfl, cls, if_neg (by decide)]
        · rw [show f_X12_isIn 1 0 1 = some 1 from by decide]
          simp only [obs, n1, if_false, if_true]
          rw [x1]
          simp only [obs]
          rw [r1]
      · refine ⟨-2, sNo S 2, upd re 2 (re 2 + 1), fa, sh, qu, q, lb, ?_, ?_, hX.no 2, hT.no 2⟩
        · rw [if_neg c0, if_neg c1]
          exact h.no hT (by decide) (by decide) lm2
        · have hin : f_X12_isIn w 0 1 = some 0 := by
            unfold f_X12_isIn
            rcases i_cas w with g | ⟨y, hy, ey⟩
            · simp only [g, if_true, gzb_0]
            · have h3 : 2 ≤ y := by
                rcases Nat.lt_or_ge y 2 with g | g
                · have hy3 : y = 0 ∨ y = 1 := by omega
                  rcases hy3 with rfl | rfl
                  · exact absurd ey c0
                  · exact absurd ey c1
                · exact g
              have k1 : ¬ w < 0 := by rw [ey]; exact nI_pos hy
              have k2 : 1 < w := by rw [ey]; exact nI_lt (a := 1) (by omega) hy
              simp only [k1, k2, if_true, if_false, gzb_0]
          rw [hin]
          simp only [obs, if_true, z2, if_false]
          rw [lm2, xno_ok (by decide)]
          rfl
end
