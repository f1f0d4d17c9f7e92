section
variable {gv : Nat → GV} {M hx : Nat} {ow : Nat → Nat} {S : SS} {re wa ka la ra li sa wh ce mi st ta ke ro : Nat → Int32} {hi : Int32} {fa sh qu lb may : Nat → Int32} {q : Int32} {tl1 le1 lt1 : Nat → Int32} {at1 ss1 ik1 cu1 : Int32}
/-! judge -/
theorem bsI_eq {a w y : Nat} (ha : a < 36) (hy : y < 2 ^ 31) : bsI a w = nI y ↔ bsd a w = some y := by
  unfold bsI
  cases hb : bsd a w with
  | none =>
    constructor
    · intro e
      exact absurd e.symm (far_neg hy)
    · intro e; cases e
  | some d =>
    have hd := bsd_lt ha hb
    show nI d = nI y ↔ some d = some y
    rw [nI_eq (by omega) hy]
    constructor
    · intro e; rw [e]
    · intro e; cases e; rfl
def nearB (a y : Nat) : Bool := decide (y = a) || anyB (fun w => decide (bsd a w = some y)) 4
theorem xnear_ok {a y : Nat} (ha : a < 36) (hy : y < 2 ^ 31) : f_X12_areNear (nI a) (nI y) = some (if nearB a y = true then 1 else 0) := by
  unfold f_X12_areNear
  have hg := gfirst (fun n k => L_X12_areNear_2 (fun x2_16 => some 1) (fun x2_24 => gzb (if nI a = nI y then 1 else 0) (some (if nI a = nI y then 1 else 0))) (nI a) (nI y) n (nI k)) (fun _ => some (1 : Int32)) (gzb (if nI a = nI y then 1 else 0) (some (if nI a = nI y then 1 else 0))) 4 (fun w => decide (bsd a w = some y)) (fun n => by
    show L_X12_areNear_2 _ _ (nI a) (nI y) (n + 1) (nI 4) = _
    rw [L_X12_areNear_2.eq_2, if_pos (by decide)]) (fun n k hk => by
    show L_X12_areNear_2 _ _ (nI a) (nI y) (n + 1) (nI k) = _
    rw [L_X12_areNear_2.eq_2, if_neg (by rw [show (4 : Int32) = nI 4 from rfl, nI_leI (by decide) (by omega)]; omega), beside_ok a ha k hk]
    simp only [obs, nI_1]
    by_cases e : bsd a k = some y
    · rw [if_pos ((bsI_eq ha hy).mpr e)]
      simp [e]
    · rw [if_neg (fun g => e ((bsI_eq ha hy).mp g))]
      simp [e]) gF 0 (by decide) (by decide) (fun j hj => by omega)
  refine hg.trans ?_
  unfold nearB
  cases hq : fst1 (fun w => decide (bsd a w = some y)) 4 with
  | some i =>
    have := (anyB_iff (q := fun w => decide (bsd a w = some y)) (n := 4)).mpr ⟨i, (fst1_some hq).1, (fst1_some hq).2.1⟩
    rw [this]
    simp
  | none =>
    have hno : anyB (fun w => decide (bsd a w = some y)) 4 = false := by
      cases hb : anyB (fun w => decide (bsd a w = some y)) 4 with
      | false => rfl
      | true =>
        obtain ⟨k, k1, k2⟩ := anyB_iff.mp hb
        exact absurd hq (fst1_ne k1 k2)
    rw [hno]
    show gzb _ _ = _
    rw [gzb_if]
    by_cases e : y = a
    · rw [if_pos (by rw [e])]
      simp [e]
    · rw [if_neg (by rw [nI_eq (by omega) hy]; exact fun g => e g.symm)]
      simp [e]
theorem gl1_near {f : Nat → Bool} {a y : Nat} (hfa : f a = true) (ha : a < 36) (hy : y < 36) : gl1 f a 1 y = (f y && nearB a y) := by
  have to : ∀ b c : Bool, (b = true ↔ c = true) → b = c := by
    intro b c h
    cases b <;> cases c <;> simp at h ⊢
  refine to _ _ ?_
  unfold gl1
  rw [if_pos hfa]
  have e1 : rch f (src f a) 1 y = (src f a y || (f y && nbs (fun d => src f a d && f d) y)) := rfl
  rw [e1]
  unfold nearB
  simp only [Bool.or_eq_true, Bool.and_eq_true, decide_eq_true_eq]
  constructor
  · rintro (g | ⟨g1, g2⟩)
    · unfold src at g
      simp only [Bool.and_eq_true, decide_eq_true_eq] at g
      exact ⟨g.2, Or.inl g.1⟩
    · refine ⟨g1, Or.inr ?_⟩
      obtain ⟨w, d, w1, w2, w3⟩ := nbs_iff.mp g2
      unfold src at w3
      simp only [Bool.and_eq_true, decide_eq_true_eq] at w3
      obtain ⟨v, v1, v2⟩ := bsd_sym hy w1 w2
      rw [w3.1.1] at v2
      exact anyB_iff.mpr ⟨v, v1, by simp [v2]⟩
  · rintro ⟨g1, g | g⟩
    · left
      unfold src
      simp [g, hfa]
    · right
      refine ⟨g1, ?_⟩
      obtain ⟨v, v1, v2⟩ := anyB_iff.mp g
      have v3 : bsd a v = some y := by simpa using v2
      obtain ⟨w, w1, w2⟩ := bsd_sym ha v1 v3
      refine nbs_iff.mpr ⟨w, a, w1, w2, ?_⟩
      unfold src
      simp [hfa]
theorem q_judge (hT : SOK S) (h : CX gv M hx ow S) (hX : XR S re wa ka la ra li sa wh ce mi st ta ke ro (nI (tn (zT S))) (nI (tp (zT S))) (nI (tM (zT S))) (nI (zl S)) hi (nI (zr S))) (v : Int32) : ∃ r S' re', CA gv M hx ow (f_X11_judge gv hx v) r S' ∧ f_X12_judge re wa st (nI (tp (zT S))) ro (nI (zr S)) v = some (r, re') ∧ XR S' re' wa ka la ra li sa wh ce mi st ta ke ro (nI (tn (zT S))) (nI (tp (zT S))) (nI (tM (zT S))) (nI (zl S)) hi (nI (zr S)) ∧ SOK S' := by
  obtain ⟨he, th, la1, pa, fl, pf, LA, SA, sf, e4, ⟨fs, hO⟩, hC, -⟩ := id h.here
  have n1 : ¬ (1 : Int32) = 0 := by decide
  have hn : tn (zT S) ≤ 6 := hT.1.2.2.1
  have hp : tp (zT S) ≤ 4 := hT.1.2.2.2.1
  unfold f_X11_judge f_X12_judge
  simp only [e4, hC.o, obs]
  rcases idx v (n := tp (zT S)) (by omega) with hv | ⟨p, hpp, e⟩
  · refine ⟨-1, sNo S 1, upd re 1 (re 1 + 1), ?_, ?_, hX.no 1, hT.no 1⟩
    · rw [hC.isP_no hT.1 hv]
      simp only [obs, if_true]
      exact h.no hT (by decide) (by decide) lm1
    · rw [xip_no hv]
      simp only [obs, if_true]
      rw [lm1, xno_ok (by decide)]
      rfl
  · subst e
    have hP := hT.1.2.2.2.2.2.1 p hpp
    have hr12 : zr S ≤ 12 := hT.2.2.2.2.1
    have main : ∀ n k a, zr S - k < n → k ≤ zr S → a < 36 → tF (zT S) a = true → ∃ r, L_X11_judge_28 (fun x28_63 => some (x28_63, gv)) (fun x28_74 => some ((-9 : Int32), gv)) gv hx n (nI a) (nI k) = some (r, gv) ∧ L_X12_judge_23 (fun x23_71 => some (x23_71, re)) (fun x23_86 => some ((-9 : Int32), re)) wa ro (nI (zr S)) n (nI a) (nI k) = some (r, re) := by
      intro n
      induction n with
      | zero => intro k a g; omega
      | succ n ih =>
        intro k a g hk ha hfa
        rw [L_X11_judge_28.eq_2, L_X12_judge_23.eq_2, h.inRow]
        simp only [obs]
        by_cases hkr : k = zr S
        · have hle : nI (zr S) ≤ nI k := nI_le (by omega) (by omega)
          rw [if_pos hle, if_pos hle]
          exact ⟨-9, rfl, rfl⟩
        · have hk2 : k < zr S := by omega
          have hle : ¬ nI (zr S) ≤ nI k := by rw [nI_leI (by omega) (by omega)]; omega
          have hro := hX.2.2.2.2.2.2 k hk2
          have h100 := hT.2.2.2.2.2 k hk2
          rw [if_neg hle, if_neg hle, hO]
          simp only [obs, h.rowAt hT hk2, e4, hC.o, hC.free]
          have hwi : f_X2_within (nI a) 1 (lN (bm (tF (zT S)) 36)) = some (lN (bm (gl1 (tF (zT S)) a 1) 36)) := within_b (r := 1) fr36 ha (by decide)
          rw [hwi]
          simp only [obs, gix_ok (show k < 12 by omega) (show 12 < 2 ^ 31 by decide), nI_clamp (show k < 2 ^ 31 by omega), hro]
          rcases Nat.lt_or_ge (zR S k) 36 with g36 | g36
          · rw [has_b g36, xic_ok g36, gl1_near hfa ha g36]
            simp only [obs, n1, if_false, gix_ok g36 (show 36 < 2 ^ 31 by decide), nI_clamp (show zR S k < 2 ^ 31 by omega)]
            rw [hX.2.1.1 _ g36, xnear_ok ha (show zR S k < 2 ^ 31 by omega)]
            simp only [obs]
            have hF : tF (zT S) (zR S k) = !tW (zT S) (zR S k) := by unfold tF fr; simp [g36]
            rw [hF]
            cases hw : tW (zT S) (zR S k) with
            | true =>
              refine ⟨nI k, ?_, ?_⟩
              · rw [if_pos (show (if (!true && nearB a (zR S k)) = true then (1 : Int32) else 0) = 0 by simp)]
              · rw [if_pos (show (if true = true then (1 : Int32) else 0) = 1 by decide)]
            | false =>
              cases hnr : nearB a (zR S k) with
              | false =>
                refine ⟨nI k, ?_, ?_⟩
                · rw [if_pos (show (if (!false && false) = true then (1 : Int32) else 0) = 0 by simp)]
                · rw [if_neg (show ¬ (if false = true then (1 : Int32) else 0) = 1 by decide), if_pos (show (if false = true then (1 : Int32) else 0) = 0 by decide)]
              | true =>
                rw [if_neg (show ¬ (if (!false && true) = true then (1 : Int32) else 0) = 0 by decide), if_neg (show ¬ (if false = true then (1 : Int32) else 0) = 1 by decide), if_neg (show ¬ (if true = true then (1 : Int32) else 0) = 0 by decide)]
                rw [nI_1]
                exact ih (k + 1) (zR S k) (by omega) hk2 g36 (by rw [hF, hw]; rfl)
          · have hb : nI (zR S k) < 0 ∨ nI 36 ≤ nI (zR S k) := Or.inr (nI_le g36 (by omega))
            rw [has_no (n := bm (gl1 (tF (zT S)) a 1) 36) hb, xic_no hb]
            simp only [obs, if_true]
            exact ⟨nI k, rfl, rfl⟩
    obtain ⟨r, m1, m2⟩ := main gF 0 (tP (zT S) p) (by unfold gF; omega) (Nat.zero_le _) hP.1 (by unfold tF fr; simp [hP.1, hP.2])
    refine ⟨r, S, re, h.same ?_, ?_, hX, hT⟩
    · rw [hC.isP_ok hT.1 hpp]
      simp only [obs, n1, if_false]
      rw [hC.cellOf hT.1 hpp]
      simp only [obs]
      exact m1
    · rw [xip_ok hpp (by omega)]
      simp only [obs, n1, if_false]
      rw [gix_ok (show p < 4 by omega) (by decide), nI_clamp (show p < 2 ^ 31 by omega), hX.2.1.2.1 p hpp]
      exact m2
end
