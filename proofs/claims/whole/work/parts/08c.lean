section
variable {gv : Nat → GV} {M hx : Nat} {ow : Nat → Nat} {S : SS} {re wa ka la ra li sa wh ce mi st ta ke ro : Nat → Int32} {hi : Int32} {fa sh qu lb may : Nat → Int32} {q : Int32} {tl1 le1 lt1 : Nat → Int32} {at1 ss1 ik1 cu1 : Int32}
/-! walls -/
def xW1 (T : TS) (c : Nat) : TS := ((fun k => if k = c then !tW T k else tW T k), T.2)
theorem cnt_flip (p : Nat → Bool) {c n : Nat} (hc : c < n) : cnt (fun k => if k = c then !p k else p k) n + (if p c = true then 1 else 0) = cnt p n + (if (!p c) = true then 1 else 0) := by
  have e : cnt (fun k => if k = c then !p k else p k) n = fb_ct (fun k => if k = c then (!p c) else p k) n := by
    rw [cnt_ct]
    refine fb_ct_cong (fun k _ => ?_)
    by_cases e : k = c
    · rw [if_pos e, if_pos e, e]
    · rw [if_neg e, if_neg e]
  rw [e, cnt_ct]
  exact fb_ct_upd p (!p c) hc
theorem xsome_ok {T : TS} (hT : TOK T) (hR : RT T wa ka la ra li sa wh ce mi st) {c : Nat} (hc : c < 36) : f_X12_isSomebodyAt st (nI (tp T)) (nI c) = some (if anyB (fun p => decide (c = tP T p)) (tp T) = true then 1 else 0) := by
  have hp : tp T ≤ 4 := hT.2.2.2.1
  unfold f_X12_isSomebodyAt
  refine (gfirst (fun n k => L_X12_isSomebodyAt_2 (fun x2_20 => some 1) (fun x2_28 => some 0) st (nI (tp T)) (nI c) n (nI k)) (fun _ => some (1 : Int32)) (some 0) (tp T) (fun p => decide (c = tP T p)) ?_ ?_ gF 0 (by unfold gF; omega) (Nat.zero_le _) (fun j hj => by omega)).trans (fst1_any _ _)
  · intro n
    show L_X12_isSomebodyAt_2 _ _ st _ _ (n + 1) (nI (tp T)) = _
    rw [L_X12_isSomebodyAt_2.eq_2, if_pos (nI_le (Nat.le_refl _) (by omega))]
  · intro n k hk
    have hP := (hT.2.2.2.2.2.1 k hk).1
    show L_X12_isSomebodyAt_2 _ _ st _ _ (n + 1) (nI k) = _
    rw [L_X12_isSomebodyAt_2.eq_2, if_neg (by rw [nI_leI (by omega) (by omega)]; omega), gix_ok (show k < 4 by omega) (by decide), nI_clamp (show k < 2 ^ 31 by omega), hR.2.1 k hk, nI_1]
    by_cases e : c = tP T k
    · rw [if_pos (by rw [e])]
      simp [e]
    · rw [if_neg (by rw [nI_eq (by omega) (by omega)]; exact fun g => e g.symm)]
      simp [e]
theorem xwm_ok {T : TS} (hR : RT T wa ka la ra li sa wh ce mi st) : f_X12_wallMany wa = some (nI (cnt (tW T) 36)) := by
  unfold f_X12_wallMany
  refine gfold (σ := Int32) (ρ := Option Int32) (fun n k x => L_X12_wallMany_4 (fun x4_25 => some x4_25) wa n x (nI k)) some 36 (fun k => nI (cnt (tW T) k)) ?_ ?_ gF 0 (by decide) (by decide)
  · intro n
    show L_X12_wallMany_4 _ wa (n + 1) _ (nI 36) = _
    rw [L_X12_wallMany_4.eq_2, if_pos (by decide)]
  · intro n k hk
    have hsu : cnt (tW T) (k + 1) = cnt (tW T) k + (if tW T k = true then 1 else 0) := rfl
    show L_X12_wallMany_4 _ wa (n + 1) (nI (cnt (tW T) k)) (nI k) = L_X12_wallMany_4 _ wa n (nI (cnt (tW T) (k + 1))) (nI (k + 1))
    rw [L_X12_wallMany_4.eq_2, if_neg (by rw [show (36 : Int32) = nI 36 from rfl, nI_leI (by decide) (by omega)]; omega), gix_ok hk (by decide), nI_clamp (show k < 2 ^ 31 by omega), hR.1 k hk, nI_1, hsu, ← nI_add (cnt _ k)]
    cases tW T k <;> rfl
/-- a wall told: refused alike, or turned alike -/
theorem j_wall {a la1 pa t : Nat} {T : TS} {fl : Nat → Option Nat} {pf : Nat → Int32} {LA SA : Nat → Nat} {sf : Nat → Nat → Int32} (h : CT gv a T la1 pa fl pf LA SA sf) (hO : OWN ow t a la1 pa LA SA (tn T)) (hT : TOK T) (hR : RT T wa ka la ra li sa wh ce mi st) (v : Int32) : (∃ k, 0 < k ∧ k < 7 ∧ f_X10_turnWall gv a v = some (-nI k, gv) ∧ f_X12_notWall wa st (nI (tp T)) v = some (-nI k)) ∨ ∃ c gv', c < 36 ∧ v = nI c ∧ f_X10_turnWall gv a v = some (if tW T c = true then 0 else 1, gv') ∧ f_X12_notWall wa st (nI (tp T)) v = some 0 ∧ TH gv' ow t a (xW1 T c) ∧ Off gv gv' ow t ∧ TOK (xW1 T c) ∧ RT (xW1 T c) (upd wa c (1 - wa c)) ka la ra li sa wh ce mi st := by
  have n1 : ¬ (1 : Int32) = 0 := by decide
  unfold f_X10_turnWall f_X12_notWall
  rcases idx v (n := 36) (by decide) with hv | ⟨c, hc, e⟩
  · refine Or.inl ⟨1, by decide, by decide, ?_, ?_⟩
    · rw [cic_no hv]
      simp only [obs, if_true]
      rfl
    · rw [xic_no hv]
      simp only [obs, if_true]
      rfl
  · subst e
    rw [cic_ok hc, xic_ok hc]
    simp only [obs, n1, if_false, h.o]
    rw [h.peopled hT, xsome_ok hT hR hc]
    simp only [obs]
    rw [has_b hc]
    simp only [obs]
    cases hsb : anyB (fun p => decide (c = tP T p)) (tp T) with
    | true =>
      refine Or.inl ⟨3, by decide, by decide, ?_, ?_⟩
      · rw [if_neg (show ¬ (if true = true then (1 : Int32) else 0) = 0 by decide)]
        rfl
      · rw [if_neg (show ¬ (if true = true then (1 : Int32) else 0) = 0 by decide)]
        simp only [obs]
        rfl
    | false =>
      rw [if_pos (show (if false = true then (1 : Int32) else 0) = 0 by decide), if_pos (show (if false = true then (1 : Int32) else 0) = 0 by decide), h.f2]
      simp only [obs]
      rw [has_b hc, howMany_b, only_ok c hc]
      simp only [obs, gix_ok hc (show 36 < 2 ^ 31 by decide), nI_clamp (show c < 2 ^ 31 by omega)]
      rw [hR.1 c hc, xwm_ok hR, fb_xorL, bm_flip (tW T) hc]
      simp only [obs]
      have h18 := hT.2.1
      have hfl := cnt_flip (tW T) hc
      have nobody : ∀ p, p < tp T → tP T p ≠ c := fun p hp e => by
        have := (anyB_iff (q := fun p => decide (c = tP T p)) (n := tp T)).mpr ⟨p, hp, by simp [e]⟩
        rw [this] at hsb
        cases hsb
      have fin : cnt (fun k => if k = c then !tW T k else tW T k) 36 ≤ 18 → ∃ gv', gpu gv a [8] 2 (.long (lN (bm (fun k => if k = c then !tW T k else tW T k) 36))) = some gv' ∧ TH gv' ow t a (xW1 T c) ∧ Off gv gv' ow t ∧ TOK (xW1 T c) ∧ RT (xW1 T c) (upd wa c (1 - wa c)) ka la ra li sa wh ce mi st := by
        intro hle
        have hp := gpu_of (k := 2) (v := .long (lN (bm (fun k => if k = c then !tW T k else tW T k) 36))) h.1 (cis := [8]) (by decide) (by show 2 < 6; decide)
        obtain ⟨h1, h2, h3, h4, h5⟩ := h
        obtain ⟨o1, o2, o3, o4⟩ := hO
        have fr : ∀ q, ow q ≠ 20 * t + 1 → va_up gv a (.inl (8, [.ref la1, .ref pa, .long (lN (bm (fun k => if k = c then !tW T k else tW T k) 36)), .int (nI (tn T)), .int (nI (tp T)), .int (nI (tM T))])) q = gv q := fun q hq => va_ne (fun e => by rw [e] at hq; exact hq o1)
        refine ⟨_, hp, ⟨la1, pa, fl, pf, LA, SA, sf, ⟨va_up_self _ _ _, (fr la1 (by omega)).trans h2, (fr pa (by omega)).trans h3, h4, fun l hl => ?_⟩, ⟨o1, o2, o3, o4⟩⟩, fun q hq => fr q (by omega), ?_, ?_⟩
        · obtain ⟨k1, k2, k3⟩ := h5 l hl
          obtain ⟨p1, p2⟩ := o4 l hl
          exact ⟨k1, ⟨(fr (LA l) (by omega)).trans k2.1, (fr (SA l) (by omega)).trans k2.2⟩, k3⟩
        · obtain ⟨t1, t2, t3, t4, t5, t6, t7⟩ := hT
          refine ⟨fun k hk => ?_, hle, t3, t4, t5, fun p hp => ⟨(t6 p hp).1, ?_⟩, t7⟩
          · have hk : (if k = c then !tW T k else tW T k) = true := hk
            by_cases e : k = c
            · rw [e]; exact hc
            · rw [if_neg e] at hk; exact t1 k hk
          · show (if tP T p = c then !tW T (tP T p) else tW T (tP T p)) = false
            rw [if_neg (nobody p hp)]
            exact (t6 p hp).2
        · refine ⟨fun k hk => ?_, hR.2⟩
          show upd wa c (1 - wa c) k = if (if k = c then !tW T k else tW T k) = true then 1 else 0
          by_cases e : k = c
          · rw [e, upd_s, if_pos rfl, hR.1 c hc]
            cases tW T c <;> rfl
          · rw [upd_n e, if_neg e]
            exact hR.1 k hk
      cases hw : tW T c with
      | true =>
        have hw1 := hT.1
        rw [hw] at hfl
        obtain ⟨gv', p1, p2, p3, p4, p5⟩ := fin (by
          have e1 : (if (!true) = true then 1 else 0 : Nat) = 0 := rfl
          have e2 : (if true = true then 1 else 0 : Nat) = 1 := rfl
          rw [e1, e2] at hfl
          omega)
        refine Or.inr ⟨c, gv', hc, rfl, ?_, ?_, p2, p3, p4, p5⟩
        · rw [if_neg (show ¬ (if true = true then (1 : Int32) else 0) = 0 by decide), p1]
          simp only [obs]
          rw [hw]
          rfl
        · rw [if_neg (show ¬ (if true = true then (1 : Int32) else 0) = 0 by decide)]
          simp only [obs]
      | false =>
        rw [hw] at hfl
        have hfl : cnt (fun k => if k = c then !tW T k else tW T k) 36 = cnt (tW T) 36 + 1 := hfl
        by_cases c18 : cnt (tW T) 36 = 18
        · refine Or.inl ⟨6, by decide, by decide, ?_, ?_⟩
          · rw [if_pos (show (if false = true then (1 : Int32) else 0) = 0 by decide), if_neg (by rw [c18]; decide)]
            rfl
          · rw [if_pos (show (if false = true then (1 : Int32) else 0) = 0 by decide), if_pos (by rw [c18]; rfl)]
            simp only [obs]
            rfl
        · obtain ⟨gv', p1, p2, p3, p4, p5⟩ := fin (by omega)
          refine Or.inr ⟨c, gv', hc, rfl, ?_, ?_, p2, p3, p4, p5⟩
          · rw [if_pos (show (if false = true then (1 : Int32) else 0) = 0 by decide), if_pos (show nI (cnt (tW T) 36) < 18 from nI_lt (b := 18) (by omega) (by decide)), p1]
            simp only [obs]
            rw [hw]
            rfl
          · rw [if_pos (show (if false = true then (1 : Int32) else 0) = 0 by decide), if_neg (show ¬ nI (cnt (tW T) 36) = 18 by rw [show (18 : Int32) = nI 18 from rfl, nI_eq (by omega) (by decide)]; exact c18)]
            simp only [obs]
/-! people -/
def xP1 (T : TS) (c : Nat) : TS := (T.1, T.2.1, T.2.2.1, T.2.2.2.1, T.2.2.2.2.1, T.2.2.2.2.2.1, T.2.2.2.2.2.2.1, T.2.2.2.2.2.2.2.1, T.2.2.2.2.2.2.2.2.1, (fun k => if k = tp T then c else tP T k), tn T, tp T + 1, tM T)
theorem j_person {a la1 pa t : Nat} {T : TS} {fl : Nat → Option Nat} {pf : Nat → Int32} {LA SA : Nat → Nat} {sf : Nat → Nat → Int32} (h : CT gv a T la1 pa fl pf LA SA sf) (hO : OWN ow t a la1 pa LA SA (tn T)) (hT : TOK T) (hR : RT T wa ka la ra li sa wh ce mi st) (v : Int32) : (∃ k, 0 < k ∧ k < 7 ∧ f_X10_addPerson gv a v = some (-nI k, gv) ∧ f_X12_notPerson wa (nI (tp T)) v = some (-nI k)) ∨ ∃ c gv', c < 36 ∧ v = nI c ∧ tp T < 4 ∧ f_X10_addPerson gv a v = some (nI (tp T), gv') ∧ f_X12_notPerson wa (nI (tp T)) v = some 0 ∧ TH gv' ow t a (xP1 T c) ∧ Off gv gv' ow t ∧ TOK (xP1 T c) ∧ RT (xP1 T c) wa ka la ra li sa wh ce mi (upd st (tp T) (nI c)) := by
  have n1 : ¬ (1 : Int32) = 0 := by decide
  have hp4 : tp T ≤ 4 := hT.2.2.2.1
  unfold f_X10_addPerson f_X12_notPerson
  rcases idx v (n := 36) (by decide) with hv | ⟨c, hc, e⟩
  · refine Or.inl ⟨1, by decide, by decide, ?_, ?_⟩
    · rw [cic_no hv]
      simp only [obs, if_true]
      rfl
    · rw [xic_no hv]
      simp only [obs, if_true]
      rfl
  · subst e
    rw [cic_ok hc, xic_ok hc]
    simp only [obs, n1, if_false, h.f2, gix_ok hc (show 36 < 2 ^ 31 by decide), nI_clamp (show c < 2 ^ 31 by omega)]
    rw [has_b hc, hR.1 c hc]
    simp only [obs]
    cases hw : tW T c with
    | true =>
      refine Or.inl ⟨3, by decide, by decide, ?_, ?_⟩
      · rw [if_neg (show ¬ (if true = true then (1 : Int32) else 0) = 0 by decide)]
        rfl
      · rw [if_pos (show (if true = true then (1 : Int32) else 0) = 1 by decide)]
        simp only [obs]
        rfl
    | false =>
      have hneg : ¬ nI (tp T) < 0 := nI_pos (by omega)
      rw [if_pos (show (if false = true then (1 : Int32) else 0) = 0 by decide), if_neg (show ¬ (if false = true then (1 : Int32) else 0) = 1 by decide), h.f4, h.f1]
      simp only [obs, hneg, if_false, gal_of h.2.2.1]
      by_cases c4 : tp T = 4
      · refine Or.inl ⟨6, by decide, by decide, ?_, ?_⟩
        · rw [if_neg (by rw [c4]; decide)]
          rfl
        · rw [if_pos (show nI (tp T) = 4 by rw [c4]; rfl)]
          simp only [obs]
          rfl
      · have hlt : tp T < 4 := by omega
        have h' := h
        obtain ⟨h1, h2, h3, h4, h5⟩ := h
        obtain ⟨o1, o2, o3, o4⟩ := hO
        have hne : a ≠ pa := fun e => by rw [e] at o1; omega
        obtain ⟨ga, hga⟩ : ∃ ga, ga = va_up gv pa (.inr (.inl (4, upd pf (tp T) (nI c)))) := ⟨_, rfl⟩
        have hs : gas gv pa (nI (tp T)) (nI c) = some ga := by
          rw [hga]
          exact gas_of h3 hlt (by decide)
        have d2 : ga a = .inl (8, [.ref la1, .ref pa, .long (lN (bm (tW T) 36)), .int (nI (tn T)), .int (nI (tp T)), .int (nI (tM T))]) := by
          rw [hga, va_ne hne]
          exact h1
        have k1 : gfI ga a [8] 4 = some (nI (tp T)) := gfI_of d2 (by decide) rfl
        obtain ⟨gb, hgb⟩ : ∃ gb, gb = va_up ga a (.inl (8, [.ref la1, .ref pa, .long (lN (bm (tW T) 36)), .int (nI (tn T)), .int (nI (tp T + 1)), .int (nI (tM T))])) := ⟨_, rfl⟩
        have hpu : gpu ga a [8] 4 (.int (nI (tp T + 1))) = some gb := by
          rw [hgb]
          exact gpu_of d2 (by decide) (by show 4 < 6; decide)
        have d3 : gb a = .inl (8, [.ref la1, .ref pa, .long (lN (bm (tW T) 36)), .int (nI (tn T)), .int (nI (tp T + 1)), .int (nI (tM T))]) := by rw [hgb, va_up_self]
        have k2 : gfI gb a [8] 4 = some (nI (tp T + 1)) := gfI_of d3 (by decide) rfl
        have fr : ∀ q, ow q ≠ 20 * t + 1 → ow q ≠ 20 * t + 3 → gb q = gv q := fun q q1 q2 => by
          rw [hgb, va_ne (fun e => by rw [e] at q1; exact q1 o1), hga, va_ne (fun e => by rw [e] at q2; exact q2 o3)]
        refine Or.inr ⟨c, gb, hc, rfl, hlt, ?_, ?_, ⟨la1, pa, fl, upd pf (tp T) (nI c), LA, SA, sf, ⟨d3, (fr la1 (by omega) (by omega)).trans h2, ?_, upd_more h4, fun l hl => ?_⟩, ⟨o1, o2, o3, o4⟩⟩, fun q hq => fr q (by omega) (by omega), ?_, ?_⟩
        · rw [if_pos (nI_lt hlt (by decide)), hs]
          simp only [obs, k1, nI_1, hpu, k2]
          rw [nI_s1 (by omega)]
          rfl
        · rw [if_neg (show ¬ nI (tp T) = 4 by rw [show (4 : Int32) = nI 4 from rfl, nI_eq (by omega) (by decide)]; exact c4)]
          simp only [obs]
        · rw [hgb, va_ne (Ne.symm hne), hga, va_up_self]
        · obtain ⟨k1, k2, k3⟩ := h5 l hl
          obtain ⟨p1, p2⟩ := o4 l hl
          exact ⟨k1, ⟨(fr (LA l) (by omega) (by omega)).trans k2.1, (fr (SA l) (by omega) (by omega)).trans k2.2⟩, k3⟩
        · obtain ⟨t1, t2, t3, t4, t5, t6, t7⟩ := hT
          refine ⟨t1, t2, t3, hlt, t5, fun p hp => ?_, t7⟩
          have hp : p < tp T + 1 := hp
          show (if p = tp T then c else tP T p) < 36 ∧ tW T (if p = tp T then c else tP T p) = false
          by_cases e : p = tp T
          · rw [if_pos e]
            exact ⟨hc, hw⟩
          · rw [if_neg e]
            exact t6 p (by omega)
        · exact ⟨hR.1, upd_more hR.2.1, hR.2.2⟩
/-- what counted does with an answer of the town -/
theorem CX.cnt_no (h : CX gv M hx ow S) (hT : SOK S) {k : Nat} (hk : 0 < k) (hk7 : k < 7) : CA gv M hx ow (((gfO gv hx [9]).bind fun _ => f_X11_counted gv hx (-nI k)).bind fun o => some (o.1, o.2)) (-nI k) (sNo S k) := by
  obtain ⟨gv', e1, e2, e3⟩ := h.refuse hT hk hk7
  obtain ⟨he, th, la, pa, fl, pf, LA, SA, sf, -, ⟨fs, hf⟩, -⟩ := h.here
  refine ⟨gv', ow, ?_, e2, e3⟩
  have hneg : ¬ (0 : Int32) ≤ -nI k := by
    rw [show (0 : Int32) = -nI 0 from by decide, sb_nle (by decide) (by omega)]
    omega
  unfold f_X11_counted
  rw [if_neg hneg, hf]
  simp only [obs]
  rw [e1]
  simp only [obs]
theorem cnt_yes {gv' : Nat → GV} {x : Int32} (h : 0 ≤ x) (ho : ∃ o, gfO gv' hx [9] = some o) : (((gfO gv' hx [9]).bind fun _ => f_X11_counted gv' hx x).bind fun o => some (o.1, o.2) : Option (Int32 × (Nat → GV))) = some (x, gv') := by
  obtain ⟨o, e⟩ := ho
  unfold f_X11_counted
  rw [e, if_pos h]
  simp only [obs]
theorem neg_nz {k : Nat} (hk : 0 < k) (hk7 : k < 7) : ¬ -nI k = (0 : Int32) := by
  have hs : k = 1 ∨ k = 2 ∨ k = 3 ∨ k = 4 ∨ k = 5 ∨ k = 6 := by omega
  rcases hs with rfl | rfl | rfl | rfl | rfl | rfl <;> decide
theorem CX.obj (h : CX gv M hx ow S) : ∃ o, gfO gv hx [9] = some o := by
  obtain ⟨he, th, la, pa, fl, pf, LA, SA, sf, -, ⟨fs, hf⟩, -⟩ := h.here
  exact ⟨_, hf⟩
theorem q_wall (hT : SOK S) (h : CX gv M hx ow S) (hX : XR S re wa ka la ra li sa wh ce mi st ta ke ro (nI (tn (zT S))) (nI (tp (zT S))) (nI (tM (zT S))) (nI (zl S)) hi (nI (zr S))) (v : Int32) : ∃ r S' re' wa', CA gv M hx ow (f_X11_wall gv hx v) r S' ∧ f_X12_wall re wa st (nI (tp (zT S))) v = some (r, re', wa') ∧ XR S' re' wa' ka la ra li sa wh ce mi st ta ke ro (nI (tn (zT S))) (nI (tp (zT S))) (nI (tM (zT S))) (nI (zl S)) hi (nI (zr S)) ∧ SOK S' := by
  obtain ⟨he, th, la1, pa, fl, pf, LA, SA, sf, e4, ⟨fs, hO⟩, hC, hOW, ht1, ht2⟩ := id h.here
  have n1 : ¬ (1 : Int32) = 0 := by decide
  have hn : tn (zT S) ≤ 6 := hT.1.2.2.1
  have hp : tp (zT S) ≤ 4 := hT.1.2.2.2.1
  unfold f_X11_wall f_X12_wall
  simp only [e4, hC.o, obs]
  rcases j_wall hC hOW hT.1 hX.2.1 v with ⟨k, k1, k2, k3, k4⟩ | ⟨c, gv', c1, c2, c3, c4, c5, c6, c7, c8⟩
  · refine ⟨-nI k, sNo S k, upd re k (re k + 1), wa, ?_, ?_, hX.no k, hT.no k⟩
    · rw [k3]
      simp only [obs]
      exact h.cnt_no hT k1 k2
    · rw [k4]
      simp only [obs, neg_nz k1 k2, if_false]
      rw [xno_ok k2]
      rfl
  · have K1 := h.town hT e4 hOW.1 c5 c6
    refine ⟨if tW (zT S) c = true then 0 else 1, (xW1 (zT S) c, S.2), re, upd wa c (1 - wa c), ⟨gv', ow, ?_, K1.1, K1.2⟩, ?_, ⟨hX.1, c8, hX.2.2⟩, ⟨c7, hT.2⟩⟩
    · rw [c3]
      simp only [obs]
      exact cnt_yes (by cases tW (zT S) c <;> decide) K1.1.obj
    · rw [c4]
      simp only [obs, if_true]
      rw [c2, gix_ok c1 (by decide), gix_ok c1 (by decide), gix_ok c1 (by decide), nI_clamp (show c < 2 ^ 31 by omega), upd_s, hX.2.1.1 c c1]
      cases tW (zT S) c <;> rfl
theorem q_person (hT : SOK S) (h : CX gv M hx ow S) (hX : XR S re wa ka la ra li sa wh ce mi st ta ke ro (nI (tn (zT S))) (nI (tp (zT S))) (nI (tM (zT S))) (nI (zl S)) hi (nI (zr S))) (v : Int32) : ∃ r S' re' st' pe', CA gv M hx ow (f_X11_person gv hx v) r S' ∧ f_X12_person re wa st (nI (tp (zT S))) v = some (r, re', st', pe') ∧ XR S' re' wa ka la ra li sa wh ce mi st' ta ke ro (nI (tn (zT S))) pe' (nI (tM (zT S))) (nI (zl S)) hi (nI (zr S)) ∧ SOK S' := by
  obtain ⟨he, th, la1, pa, fl, pf, LA, SA, sf, e4, ⟨fs, hO⟩, hC, hOW, ht1, ht2⟩ := id h.here
  have n1 : ¬ (1 : Int32) = 0 := by decide
  have hn : tn (zT S) ≤ 6 := hT.1.2.2.1
  have hp : tp (zT S) ≤ 4 := hT.1.2.2.2.1
  unfold f_X11_person f_X12_person
  simp only [e4, hC.o, obs]
  rcases j_person hC hOW hT.1 hX.2.1 v with ⟨k, k1, k2, k3, k4⟩ | ⟨c, gv', c1, c2, c9, c3, c4, c5, c6, c7, c8⟩
  · refine ⟨-nI k, sNo S k, upd re k (re k + 1), st, _, ?_, ?_, hX.no k, hT.no k⟩
    · rw [k3]
      simp only [obs]
      exact h.cnt_no hT k1 k2
    · rw [k4]
      simp only [obs, neg_nz k1 k2, if_false]
      rw [xno_ok k2]
      rfl
  · have K1 := h.town hT e4 hOW.1 c5 c6
    refine ⟨nI (tp (zT S)), (xP1 (zT S) c, S.2), re, upd st (tp (zT S)) (nI c), nI (tp (zT S) + 1), ⟨gv', ow, ?_, K1.1, K1.2⟩, ?_, ⟨hX.1, c8, ⟨rfl, rfl, rfl⟩, hX.2.2.2⟩, ⟨c7, hT.2⟩⟩
    · rw [c3]
      simp only [obs]
      exact cnt_yes (nI_pos' (by omega)) K1.1.obj
    · rw [c4]
      simp only [obs, if_true]
      rw [c2, gix_ok c9 (by decide), nI_clamp (show tp (zT S) < 2 ^ 31 by omega), nI_1, nI_s1 (by omega)]
      rfl
end
