section
variable {gv : Nat → GV} {M hx : Nat} {ow : Nat → Nat} {S : SS} {re wa ka la ra li sa wh ce mi st ta ke ro : Nat → Int32} {hi : Int32} {fa sh qu lb may : Nat → Int32} {q : Int32} {tl1 le1 lt1 : Nat → Int32} {at1 ss1 ik1 cu1 : Int32}
/-! calls that change the class's own object alone -/
/-- its own cell changes -/
theorem CX.own {gv' : Nat → GV} {S' : SS} (h : CX gv M hx ow S) (hT : SOK S) (e1 : zT S' = zT S) (e2 : zI S' = zI S) (e3 : zU S' = zU S) (e4 : zF S' = zF S) (hN : ∀ lt tx ro rf tk he sp tf rof rff, CO gv ow hx S lt tx ro rf tk he sp tf rof rff → ∃ tf' rof', gv' hx = .inl (9, [.ref lt, .ref ro, .ref rf, .ref tk, .ref he, .ref sp, .int (nI (zr S')), .int (if zI S' = true then 1 else 0)]) ∧ gv' lt = .inl (5, [.ref tx, .int (nI (zl S'))]) ∧ gv' tx = .inr (.inl (96, tf')) ∧ gv' ro = .inr (.inl (12, rof')) ∧ (∀ k, k < zl S' → tf' k = nI (zL S' k)) ∧ (∀ k, k < zr S' → rof' k = nI (zR S' k)) ∧ ∀ q, q ≠ hx → q ≠ lt → q ≠ tx → q ≠ ro → gv' q = gv q) : CX gv' M hx ow S' ∧ Keep gv gv' ow ow := by
  obtain ⟨lt, tx, ro, rf, tk, he, sp, th, ts, tf, rof, rff, hC, hW, hM⟩ := h
  obtain ⟨tf', rof', n1, n2, n3, n4, n5, n6, n7⟩ := hN _ _ _ _ _ _ _ _ _ _ hC
  obtain ⟨c1, c2, c3, c4, c5, ⟨o1, o2, o3, o4, o5⟩, c6, c7, c8⟩ := hC
  have fr : ∀ x, ow x ≠ 101 → ow x ≠ 102 → ow x ≠ 103 → ow x ≠ 104 → gv' x = gv x := fun x a1 a2 a3 a4 => n7 x (fun e => a1 (by rw [e]; exact o1)) (fun e => a2 (by rw [e]; exact o2)) (fun e => a3 (by rw [e]; exact o3)) (fun e => a4 (by rw [e]; exact o4))
  refine ⟨⟨lt, tx, ro, rf, tk, he, sp, th, ts, tf', rof', rff, ⟨n1, n2, n3, n4, ?_, ⟨o1, o2, o3, o4, o5⟩, n5, n6, fun k hk => by rw [c8 k hk, e4]⟩, hW.frame hT e1 e2 e3 (fun x a b => ⟨fr x (by omega) (by omega) (by omega) (by omega), rfl⟩), hM⟩, fun x hx2 => ⟨fr x (by omega) (by omega) (by omega) (by omega), rfl⟩⟩
  rw [fr rf (by omega) (by omega) (by omega) (by omega)]
  exact c5
/-- the row is emptied -/
def sR0 (S : SS) : SS := (zT S, zI S, zU S, zF S, zL S, zl S, zR S, 0)
theorem CX.empty (h : CX gv M hx ow S) (hT : SOK S) : ∃ gv', gpu gv hx [9] 6 (.int 0) = some gv' ∧ CX gv' M hx ow (sR0 S) ∧ Keep gv gv' ow ow := by
  obtain ⟨lt, tx, ro, rf, tk, he, sp, th, ts, tf, rof, rff, hC, hW, hM⟩ := id h
  refine ⟨_, gpu_of hC.1 (by decide) (by show 6 < 8; decide), h.own hT rfl rfl rfl rfl (fun lt2 tx2 ro2 rf2 tk2 he2 sp2 tf2 rof2 rff2 hC2 => ?_)⟩
  have hcell : (Sum.inl (9, [.ref lt, .ref ro, .ref rf, .ref tk, .ref he, .ref sp, .int (nI (zr S)), .int (if zI S = true then 1 else 0)]) : GV) = .inl (9, [.ref lt2, .ref ro2, .ref rf2, .ref tk2, .ref he2, .ref sp2, .int (nI (zr S)), .int (if zI S = true then 1 else 0)]) := hC.1.symm.trans hC2.1
  have hl := List.cons.inj (Prod.mk.inj (Sum.inl.inj hcell)).2
  obtain ⟨c1, c2, c3, c4, c5, ⟨o1, o2, o3, o4, o5⟩, c6, c7, c8⟩ := hC2
  refine ⟨tf2, rof2, ?_, ?_, ?_, ?_, c6, fun k hk => absurd hk (Nat.not_lt_zero k), fun x a1 _ _ _ => va_ne a1⟩
  · rw [va_up_self]
    have e := hcell
    simp only [Sum.inl.injEq, Prod.mk.injEq, List.cons.injEq, Value.ref.injEq, true_and, and_true] at e
    obtain ⟨e1, e2, e3, e4, e5, e6⟩ := e
    subst e1 e2 e3 e4 e5 e6
    rfl
  · rw [va_ne (fun e => by rw [e] at o2; omega)]; exact c2
  · rw [va_ne (fun e => by rw [e] at o3; omega)]; exact c3
  · rw [va_ne (fun e => by rw [e] at o4; omega)]; exact c4
/-- caught -/
theorem q_caught (hT : SOK S) (h : CX gv M hx ow S) (hX : XR S re wa ka la ra li sa wh ce mi st ta ke ro (nI (tn (zT S))) (nI (tp (zT S))) (nI (tM (zT S))) (nI (zl S)) hi (nI (zr S))) (v : Int32) : ∃ r S' re' fa' sh' qu' q' lb' rn', CA gv M hx ow (f_X11_caught gv hx v) r S' ∧ f_X12_caught re wa ka la ra li st (nI (tn (zT S))) (nI (tp (zT S))) fa sh qu q lb ro (nI (zr S)) v = some (r, re', fa', sh', qu', q', lb', rn') ∧ XR S' re' wa ka la ra li sa wh ce mi st ta ke ro (nI (tn (zT S))) (nI (tp (zT S))) (nI (tM (zT S))) (nI (zl S)) hi rn' ∧ SOK S' := by
  obtain ⟨he, th, la1, pa, fl, pf, LA, SA, sf, e4, ⟨fs, hO⟩, hC, -⟩ := id h.here
  have n1 : ¬ (1 : Int32) = 0 := by decide
  have hn : tn (zT S) ≤ 6 := hT.1.2.2.1
  have hp : tp (zT S) ≤ 4 := hT.1.2.2.2.1
  unfold f_X11_caught f_X12_caught
  simp only [e4, hC.o, obs]
  rcases idx v (n := tp (zT S)) (by omega) with hv | ⟨p, hpp, e⟩
  · refine ⟨-1, sNo S 1, upd re 1 (re 1 + 1), fa, sh, qu, q, lb, _, ?_, ?_, hX.no 1, hT.no 1⟩
    · rw [hC.isP_no hT.1 hv]
      simp only [obs, if_true]
      exact h.no hT (by decide) (by decide) lm1
    · rw [xip_no hv]
      simp only [obs, if_true]
      rw [lm1, xno_ok (by decide)]
      rfl
  · subst e
    have hr12 : zr S ≤ 12 := hT.2.2.2.2.1
    obtain ⟨s, hs⟩ : ∃ s, s = bm (tL (zT S)) (tn (zT S)) := ⟨_, rfl⟩
    have hl0 := hC.lit0 hT.1
    have hlb := xlitBits_ok hT.1 hX.2.1
    rw [← hs] at hl0 hlb
    obtain ⟨P, hP⟩ : ∃ P : Nat → Bool, P = fun i => decide (zR S i < 36) && gS (zT S) s (zR S i) := ⟨_, rfl⟩
    obtain ⟨fa1, sh1, qu1, q1, lb1, x1, x2⟩ := xfindLit_ok hT.1 hX.2.1 (fa := fa) (sh := sh) (qu := qu) (q := q) (lb := lb)
    obtain ⟨gv', g1, g2, g3⟩ := h.empty hT
    refine ⟨fI P (zr S), sR0 S, re, fa1, sh1, qu1, q1, lb1, 0, ⟨gv', ow, ?_, g2, g3⟩, ?_, ⟨hX.1, hX.2.1, hX.2.2.1, hX.2.2.2.1, hX.2.2.2.2.1, rfl, fun k hk => absurd hk (Nat.not_lt_zero k)⟩, ⟨hT.1, hT.2.1, hT.2.2.1, hT.2.2.2.1, Nat.zero_le _, fun k hk => absurd hk (Nat.not_lt_zero k)⟩⟩
    · rw [hC.isP_ok hT.1 hpp]
      simp only [obs, n1, if_false]
      rw [hl0]
      simp only [obs]
      have hhas : ∀ k, k < zr S → f_X2_has (lN (bm (gS (zT S) s) 36)) (nI (zR S k)) = some (if P k = true then 1 else 0) := by
        intro k hk
        have h100 := hT.2.2.2.2.2 k hk
        rw [hP]
        rcases Nat.lt_or_ge (zR S k) 36 with g | g
        · rw [has_b g]
          simp [g]
        · rw [has_no (Or.inr (nI_le (a := 36) g (by omega)))]
          simp [Nat.not_lt.mpr g]
      have main : ∀ n k, zr S - k + 1 < n → k ≤ zr S → (∀ j, j < k → P j = false) → ∀ K : Int32 → Option (Int32 × (Nat → GV)), L_X11_caught_33 K gv hx (lN (bm (gS (zT S) s) 36)) n (-9) (nI k) = K (fI P (zr S)) := by
        intro n
        induction n with
        | zero => intro k g; omega
        | succ n ih =>
          intro k g hk hj K
          rw [L_X11_caught_33.eq_2, h.inRow]
          simp only [obs]
          by_cases hkr : k = zr S
          · subst hkr
            rw [if_pos (nI_le (Nat.le_refl _) (by omega))]
            unfold fI
            rw [fst1_no hj]
          · have hk2 : k < zr S := by omega
            rw [if_neg (by rw [nI_leI (by omega) (by omega)]; omega), if_neg (by decide), hO]
            simp only [obs, h.rowAt hT hk2, hhas k hk2]
            rw [nI_1]
            cases hp2 : P k with
            | false =>
              rw [if_pos (show (if false = true then (1 : Int32) else 0) = 0 by decide)]
              simp only [obs]
              exact ih (k + 1) (by omega) hk2 (fun j hj2 => by
                rcases Nat.lt_or_ge j k with g5 | g5
                · exact hj j g5
                · have ej : j = k := by omega
                  rw [ej]; exact hp2) K
            | true =>
              rw [if_neg (show ¬ (if true = true then (1 : Int32) else 0) = 0 by decide)]
              simp only [obs]
              obtain ⟨n', en⟩ : ∃ n', n = n' + 1 := ⟨n - 1, by omega⟩
              rw [en, L_X11_caught_33.eq_2, h.inRow]
              simp only [obs]
              rw [if_pos (nI_pos' (show k < 2 ^ 31 by omega))]
              have hf : fI P (zr S) = nI k := by
                unfold fI
                rw [fst1_is hk2 hp2 hj]
              rw [hf]
              split <;> rfl
      rw [show (0 : Int32) = nI 0 from rfl, main gF 0 (by unfold gF; omega) (Nat.zero_le _) (fun j hj => by omega), show nI 0 = (0 : Int32) from rfl, g1]
      rfl
    · rw [xip_ok hpp (by omega), x1]
      simp only [obs, n1, if_false]
      have hg := gfirst (fun n k => L_X12_caught_30 (fun x30_66 => some (x30_66, re, fa1, sh1, qu1, q1, lb1, (0 : Int32))) (fun x30_74 => some ((-9 : Int32), re, fa1, sh1, qu1, q1, lb1, (0 : Int32))) li (nI (tn (zT S))) lb1 ro (nI (zr S)) n (nI k)) (fun i => some (nI i, re, fa1, sh1, qu1, q1, lb1, (0 : Int32))) (some (-9, re, fa1, sh1, qu1, q1, lb1, (0 : Int32))) (zr S) P (fun n => by
        show L_X12_caught_30 _ _ li _ lb1 ro _ (n + 1) (nI (zr S)) = _
        rw [L_X12_caught_30.eq_2, if_pos (nI_le (Nat.le_refl _) (by omega))]) (fun n k hk => by
        have h100 := hT.2.2.2.2.2 k hk
        show L_X12_caught_30 _ _ li _ lb1 ro _ (n + 1) (nI k) = _
        rw [L_X12_caught_30.eq_2, if_neg (by rw [nI_leI (by omega) (by omega)]; omega)]
        simp only [gix_ok (show k < 12 by omega) (show 12 < 2 ^ 31 by decide), nI_clamp (show k < 2 ^ 31 by omega), hX.2.2.2.2.2.2 k hk]
        rw [hP, nI_1]
        rcases Nat.lt_or_ge (zR S k) 36 with g | g
        · rw [xic_ok g]
          simp only [obs, n1, if_false, gix_ok g (show 36 < 2 ^ 31 by decide), nI_clamp (show zR S k < 2 ^ 31 by omega), x2 _ g, hlb]
          have hlt : bm (fun l => tG (zT S) l (zR S k)) (tn (zT S)) &&& s < 2 ^ 31 := Nat.lt_of_le_of_lt Nat.and_le_left (bm_i (by omega))
          have hgs : gS (zT S) s (zR S k) = !decide (bm (fun l => tG (zT S) l (zR S k)) (tn (zT S)) &&& s = 0) := anyB_and
          rw [nx_and]
          by_cases e : bm (fun l => tG (zT S) l (zR S k)) (tn (zT S)) &&& s = 0
          · rw [if_pos (by rw [e]; rfl)]
            simp [hgs, e]
          · rw [if_neg (by rw [show (0 : Int32) = nI 0 from rfl, nI_eq hlt (by decide)]; exact e)]
            simp [hgs, e, g]
        · rw [xic_no (Or.inr (nI_le (a := 36) g (by omega)))]
          simp [Nat.not_lt.mpr g]) gF 0 (by unfold gF; omega) (Nat.zero_le _) (fun j hj => by omega)
      refine Eq.trans hg ?_
      unfold fI
      cases fst1 P (zr S) <;> rfl
end
