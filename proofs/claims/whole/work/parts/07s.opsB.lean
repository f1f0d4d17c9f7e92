section
variable {gv : Nat → GV} {M hx : Nat} {ow : Nat → Nat} {S : SS} {re wa ka la ra li sa wh ce mi st ta ke ro : Nat → Int32} {hi : Int32} {fa sh qu lb may : Nat → Int32} {q : Int32} {tl1 le1 lt1 : Nat → Int32} {at1 ss1 ik1 cu1 : Int32}
/-! next -/
def lsN (T : TS) (g : Nat → Bool) (l : Nat) : Nat := if cnt (fun c => g c && !tG T l c) 36 < cnt (fun c => g c && tG T l c) 36 then cnt (fun c => g c && !tG T l c) 36 else cnt (fun c => g c && tG T l c) 36
def nxS (T : TS) (g : Nat → Bool) : Nat → Int32 × Int32
  | 0 => (-9, -1)
  | k + 1 => if nI (lsN T g k) ≤ (nxS T g k).2 then nxS T g k else (nI k, nI (lsN T g k))
theorem cnt_two (g h : Nat → Bool) : cnt (fun c => g c && h c) 36 + cnt (fun c => g c && !h c) 36 = cnt g 36 := by
  rw [cnt_ct, cnt_ct, cnt_ct, ← fb_ct_or (fun c _ e => by
    revert e
    cases g c <;> cases h c <;> simp)]
  exact fb_ct_cong (fun c _ => by cases g c <;> cases h c <;> rfl)
theorem CX.even (h : CX gv M hx ow S) (hT : SOK S) (g : Nat → Bool) : f_X11_evenestLamp gv hx (lN (bm g 36)) = some (if cnt g 36 = 0 then -9 else (nxS (zT S) g (tn (zT S))).1) := by
  obtain ⟨he, th, la1, pa, fl, pf, LA, SA, sf, e4, ⟨fs, hO⟩, hC, -⟩ := id h.here
  have hn : tn (zT S) ≤ 6 := hT.1.2.2.1
  unfold f_X11_evenestLamp
  have hz : lg_cmp (lN (bm g 36)) 0 = 0 ↔ cnt g 36 = 0 := by
    rw [lg_cmp_0, lN_0_iff (Nat.lt_trans (bm_lt _ 36) (by decide)), bm_zero, cnt_ct, fb_ct_zero]
  by_cases h0 : cnt g 36 = 0
  · rw [if_pos (hz.mpr h0), if_pos h0]
  · rw [if_neg (fun e => h0 (hz.mp e)), if_neg h0]
    refine gfold (σ := Int32 × Int32) (ρ := Option Int32) (fun n k x => L_X11_evenestLamp_18 (fun x18_100 => some x18_100) gv hx (lN (bm g 36)) n x.1 x.2 (nI k)) (fun x => some x.1) (tn (zT S)) (nxS (zT S) g) ?_ ?_ gF 0 (by unfold gF; omega) (Nat.zero_le _)
    · intro n
      show L_X11_evenestLamp_18 _ gv hx _ (n + 1) _ _ (nI (tn (zT S))) = _
      rw [L_X11_evenestLamp_18.eq_2, e4]
      simp only [obs, hC.f3]
      rw [if_pos (nI_le (Nat.le_refl _) (by omega))]
    · intro n k hk
      show L_X11_evenestLamp_18 _ gv hx _ (n + 1) (nxS (zT S) g k).1 (nxS (zT S) g k).2 (nI k) = L_X11_evenestLamp_18 _ gv hx _ n (nxS (zT S) g (k + 1)).1 (nxS (zT S) g (k + 1)).2 (nI (k + 1))
      rw [L_X11_evenestLamp_18.eq_2, e4]
      simp only [obs, hC.f3]
      rw [if_neg (by rw [nI_leI (by omega) (by omega)]; omega), hC.o]
      simp only [obs]
      rw [hC.lampAt hT.1 hk]
      simp only [obs, hC.glow hT.1 hk]
      rw [lb_and, lb_andN, howMany_b, howMany_b, nI_1]
      simp only [obs]
      have b1 := cnt_le (fun c => g c && tG (zT S) k c) 36
      have b2 := cnt_le (fun c => g c && !tG (zT S) k c) 36
      have hls : (if nI (cnt (fun c => g c && !tG (zT S) k c) 36) < nI (cnt (fun c => g c && tG (zT S) k c) 36) then nI (cnt (fun c => g c && !tG (zT S) k c) 36) else nI (cnt (fun c => g c && tG (zT S) k c) 36)) = nI (lsN (zT S) g k) := by
        unfold lsN
        by_cases c : cnt (fun c => g c && !tG (zT S) k c) 36 < cnt (fun c => g c && tG (zT S) k c) 36
        · rw [if_pos (nI_lt c (by omega)), if_pos c]
        · rw [if_neg (by rw [nI_ltI (by omega) (by omega)]; exact c), if_neg c]
      rw [hls]
      have hsu : nxS (zT S) g (k + 1) = if nI (lsN (zT S) g k) ≤ (nxS (zT S) g k).2 then nxS (zT S) g k else (nI k, nI (lsN (zT S) g k)) := rfl
      rw [hsu]
      by_cases c1 : nI (lsN (zT S) g k) ≤ (nxS (zT S) g k).2
      · rw [if_pos c1, if_pos c1]
        rfl
      · rw [if_neg c1, if_neg c1]
        rfl
theorem xnx34 {g : Nat → Bool} (hg : MayOK g may) {α : Type} {K : Int32 → Option α} : L_X12_next_34 K may gF 0 0 = K (nI (cnt g 36)) := by
  refine gfold (σ := Int32) (ρ := Option α) (fun n k x => L_X12_next_34 K may n x (nI k)) K 36 (fun k => nI (cnt g k)) ?_ ?_ gF 0 (by decide) (by decide)
  · intro n
    show L_X12_next_34 K may (n + 1) _ (nI 36) = _
    rw [L_X12_next_34.eq_2, if_pos (by decide)]
  · intro n k hk
    have hsu : cnt g (k + 1) = cnt g k + (if g k = true then 1 else 0) := rfl
    show L_X12_next_34 K may (n + 1) (nI (cnt g k)) (nI k) = L_X12_next_34 K may n (nI (cnt g (k + 1))) (nI (k + 1))
    rw [L_X12_next_34.eq_2, if_neg (by rw [show (36 : Int32) = nI 36 from rfl, nI_leI (by decide) (by omega)]; omega), gix_ok hk (by decide), nI_clamp (show k < 2 ^ 31 by omega), hg k hk, hsu, nI_1, ← nI_add (cnt g k)]
    cases g k <;> rfl
theorem xnx89 {T : TS} {g : Nat → Bool} (hg : MayOK g may) (hlb : LitRow T lb) (hn : tn T ≤ 6) {l : Nat} (hl : l < tn T) {α : Type} {K : Int32 → Option α} {a1 a2 a3 : Int32} : L_X12_next_89 K lb may a1 a2 a3 (nI l) gF 0 0 = K (nI (cnt (fun c => g c && tG T l c) 36)) := by
  refine gfold (σ := Int32) (ρ := Option α) (fun n k x => L_X12_next_89 K lb may a1 a2 a3 (nI l) n x (nI k)) K 36 (fun k => nI (cnt (fun c => g c && tG T l c) k)) ?_ ?_ gF 0 (by decide) (by decide)
  · intro n
    show L_X12_next_89 K lb may a1 a2 a3 (nI l) (n + 1) _ (nI 36) = _
    rw [L_X12_next_89.eq_2, if_pos (by decide)]
  · intro n k hk
    have hsu : cnt (fun c => g c && tG T l c) (k + 1) = cnt (fun c => g c && tG T l c) k + (if (g k && tG T l k) = true then 1 else 0) := rfl
    show L_X12_next_89 K lb may a1 a2 a3 (nI l) (n + 1) (nI (cnt (fun c => g c && tG T l c) k)) (nI k) = L_X12_next_89 K lb may a1 a2 a3 (nI l) n (nI (cnt (fun c => g c && tG T l c) (k + 1))) (nI (k + 1))
    rw [L_X12_next_89.eq_2, if_neg (by rw [show (36 : Int32) = nI 36 from rfl, nI_leI (by decide) (by omega)]; omega)]
    simp only [gix_ok hk (show 36 < 2 ^ 31 by decide), nI_clamp (show k < 2 ^ 31 by omega), hg k hk, hlb k hk]
    rw [xhas_ok (bm_i (by omega)) (by omega), bm_tb]
    simp only [hl, decide_true, Bool.true_and, obs]
    rw [hsu, nI_1, ← nI_add (cnt _ k)]
    cases g k with
    | false =>
      rw [if_neg (show ¬ (if false = true then (1 : Int32) else 0) = 1 by decide)]
      rfl
    | true =>
      rw [if_pos (show (if true = true then (1 : Int32) else 0) = 1 by decide)]
      cases tG T l k with
      | false =>
        rw [if_pos (show (if false = true then (1 : Int32) else 0) = 0 by decide)]
        rfl
      | true =>
        rw [if_neg (show ¬ (if true = true then (1 : Int32) else 0) = 0 by decide)]
        rfl
theorem xnx69 {T : TS} {g : Nat → Bool} (hg : MayOK g may) (hlb : LitRow T lb) (hn : tn T ≤ 6) (h0 : ¬ cnt g 36 = 0) {α : Type} {K : Int32 → Option α} : L_X12_next_69 K (nI (tn T)) lb may (nI (cnt g 36)) gF (-9) (-1) 0 = K (nxS T g (tn T)).1 := by
  have hc36 : cnt g 36 ≤ 36 := cnt_le g 36
  refine gfold (σ := Int32 × Int32) (ρ := Option α) (fun n k x => L_X12_next_69 K (nI (tn T)) lb may (nI (cnt g 36)) n x.1 x.2 (nI k)) (fun x => K x.1) (tn T) (nxS T g) ?_ ?_ gF 0 (by unfold gF; omega) (Nat.zero_le _)
  · intro n
    show L_X12_next_69 K _ lb may _ (n + 1) _ _ (nI (tn T)) = _
    rw [L_X12_next_69.eq_2, if_pos (nI_le (Nat.le_refl _) (by omega))]
  · intro n k hk
    show L_X12_next_69 K _ lb may _ (n + 1) (nxS T g k).1 (nxS T g k).2 (nI k) = L_X12_next_69 K _ lb may _ n (nxS T g (k + 1)).1 (nxS T g (k + 1)).2 (nI (k + 1))
    have hab := cnt_two g (tG T k)
    rw [L_X12_next_69.eq_2, if_neg (by rw [nI_leI (by omega) (by omega)]; omega), if_neg (show ¬ nI (cnt g 36) ≤ 0 by rw [show (0 : Int32) = nI 0 from rfl, nI_leI (by omega) (by decide)]; omega), xnx89 hg hlb hn hk, pk_sub (by omega), show cnt g 36 - cnt (fun c => g c && tG T k c) 36 = cnt (fun c => g c && !tG T k c) 36 by omega]
    have hls : (if nI (cnt (fun c => g c && !tG T k c) 36) ≤ nI (cnt (fun c => g c && tG T k c) 36) then nI (cnt (fun c => g c && !tG T k c) 36) else nI (cnt (fun c => g c && tG T k c) 36)) = nI (lsN T g k) := by
      unfold lsN
      by_cases c : cnt (fun c => g c && !tG T k c) 36 < cnt (fun c => g c && tG T k c) 36
      · rw [if_pos (nI_le (by omega) (by omega)), if_pos c]
      · rw [if_neg c]
        by_cases c2 : cnt (fun c => g c && !tG T k c) 36 ≤ cnt (fun c => g c && tG T k c) 36
        · rw [if_pos (nI_le c2 (by omega)), show cnt (fun c => g c && !tG T k c) 36 = cnt (fun c => g c && tG T k c) 36 by omega]
        · rw [if_neg (by rw [nI_leI (by omega) (by omega)]; exact c2)]
    rw [hls]
    have hsu : nxS T g (k + 1) = if nI (lsN T g k) ≤ (nxS T g k).2 then nxS T g k else (nI k, nI (lsN T g k)) := rfl
    rw [hsu, nI_1]
    by_cases c1 : nI (lsN T g k) ≤ (nxS T g k).2
    · rw [if_pos c1, if_neg (Int32.not_lt.mpr c1)]
      rfl
    · rw [if_neg c1, if_pos (Int32.not_le.mp c1)]
      rfl
theorem q_next (hT : SOK S) (h : CX gv M hx ow S) (hX : XR S re wa ka la ra li sa wh ce mi st ta ke ro (nI (tn (zT S))) (nI (tp (zT S))) (nI (tM (zT S))) (nI (zl S)) hi (nI (zr S))) (v w : Int32) : ∃ r S' re' fa' sh' qu' q' lb' may', CA gv M hx ow (f_X11_next gv hx v w) r S' ∧ f_X12_next re wa ka la ra li sa wh ce mi st (nI (tn (zT S))) (nI (tp (zT S))) fa sh qu q lb may v w = some (r, re', fa', sh', qu', q', lb', may') ∧ XR S' re' wa ka la ra li sa wh ce mi st ta ke ro (nI (tn (zT S))) (nI (tp (zT S))) (nI (tM (zT S))) (nI (zl S)) hi (nI (zr S)) ∧ SOK S' := by
  obtain ⟨he, th, la1, pa, fl, pf, LA, SA, sf, e4, ⟨fs, hO⟩, hC, -⟩ := id h.here
  have n1 : ¬ (1 : Int32) = 0 := by decide
  have hn : tn (zT S) ≤ 6 := hT.1.2.2.1
  have hp : tp (zT S) ≤ 4 := hT.1.2.2.2.1
  unfold f_X11_next f_X12_next f_X12_notWhere
  have np : ∀ {v w x : Int32}, f_X11_noPersonAt gv hx v w = some x → ((gfO gv hx [9]).bind fun _ => f_X11_noPersonAt gv hx v w) = some x := fun e => by rw [hO]; exact e
  have m10 : (-1 : Int32) ≤ 0 := by decide
  rcases idx v (n := tp (zT S)) (by omega) with hv | ⟨p, hpp, e⟩
  · refine ⟨-1, sNo S 1, upd re 1 (re 1 + 1), fa, sh, qu, q, lb, may, ?_, ?_, hX.no 1, hT.no 1⟩
    · rw [np (h.npa_no hT hv)]
      simp only [obs, g1, if_false]
      exact h.no hT (by decide) (by decide) lm1
    · rw [xip_no hv]
      simp only [obs, if_true, z1, if_false]
      rw [lm1, xno_ok (by decide)]
      rfl
  · subst e
    rw [xip_ok hpp (by omega)]
    simp only [obs, n1, if_false]
    rcases rng w (m := 9999) (by decide) with hw | ⟨hw, hw2⟩ | ⟨t, ht, e⟩
    · have w0 : w < 0 := Int32.not_le.mp hw
      refine ⟨-4, sNo S 4, upd re 4 (re 4 + 1), fa, sh, qu, q, lb, may, ?_, ?_, hX.no 4, hT.no 4⟩
      · rw [np (h.npa_ok hT hpp (co_lo hw))]
        simp only [obs, g4, if_false]
        exact h.no hT (by decide) (by decide) lm4
      · simp only [w0, if_true, obs, z4, if_false]
        rw [lm4, xno_ok (by decide)]
        rfl
    · have w0 : ¬ w < 0 := Int32.not_lt.mpr hw
      have w9 : ¬ w ≤ 9999 := hw2
      refine ⟨-6, sNo S 6, upd re 6 (re 6 + 1), fa, sh, qu, q, lb, may, ?_, ?_, hX.no 6, hT.no 6⟩
      · rw [np (h.npa_ok hT hpp (co_hi (M := 9999) hw hw2))]
        simp only [obs, g6, if_false]
        exact h.no hT (by decide) (by decide) lm6
      · simp only [w0, w9, m10, if_true, obs, z6, if_false]
        rw [lm6, xno_ok (by decide)]
        rfl
    · subst e
      have w0 : ¬ nI t < 0 := nI_pos (by omega)
      have t9 : nI t ≤ 9999 := nI_le (b := 9999) ht (by decide)
      obtain ⟨fa1, sh1, qu1, q1, lb1, may1, x1, x2, x3⟩ := xfindWhere_ok hT.1 hX.2.1 (fa := fa) (sh := sh) (qu := qu) (q := q) (lb := lb) (may := may) ht (show p < 10 by omega)
      obtain ⟨fa2, sh2, qu2, q2, lb2, y1, y2⟩ := xfindLit_ok hT.1 hX.2.1 (fa := fa1) (sh := sh1) (qu := qu1) (q := q1) (lb := lb1)
      have hw := hC.whereabouts hT.1 (show p < 10 by omega) ht
      obtain ⟨g, hg⟩ : ∃ g : Nat → Bool, g = fun c => whB (zT S) p t c (tn (zT S)) := ⟨_, rfl⟩
      rw [← hg] at hw x3
      refine ⟨if cnt g 36 = 0 then -9 else (nxS (zT S) g (tn (zT S))).1, S, re, fa2, sh2, qu2, q2, lb2, may1, h.same ?_, ?_, hX, hT⟩
      · rw [np (h.npa_ok hT hpp (co_ok (M := 9999) (m := 9999) rfl ht (by decide)))]
        simp only [obs, g0, if_true, e4, hC.o]
        rw [hw, hO]
        simp only [obs]
        rw [h.even hT g]
        rfl
      · simp only [w0, t9, m10, if_true, if_false, obs]
        rw [x1]
        simp only [obs]
        rw [y1]
        simp only [obs]
        rw [xnx34 x3]
        by_cases h0 : cnt g 36 = 0
        · rw [if_pos h0, h0, show gF = 999 + 1 from rfl, L_X12_next_69.eq_2]
          by_cases hl0 : nI (tn (zT S)) ≤ 0
          · rw [if_pos hl0]
          · rw [if_neg hl0, if_pos (show nI 0 ≤ 0 by decide)]
        · rw [if_neg h0, xnx69 x3 y2 hn h0]
end
