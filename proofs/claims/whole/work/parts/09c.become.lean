section
variable {gv : Nat → GV} {M hx : Nat} {ow : Nat → Nat} {S : SS} {re wa ka la ra li sa wh ce mi st ta ke ro : Nat → Int32} {hi : Int32} {fa sh qu lb may : Nat → Int32} {q : Int32} {tl1 le1 lt1 : Nat → Int32} {at1 ss1 ik1 cu1 : Int32}
/-! A TOWN BECOMES AS ANOTHER -/
theorem CT.at2 {b lb pb : Nat} {T : TS} {fl : Nat → Option Nat} {pf : Nat → Int32} {LA SA : Nat → Nat} {sf : Nat → Nat → Int32} {g : Nat → GV} {s : Nat} (h : CT gv b T lb pb fl pf LA SA sf) (hO : OWN ow s b lb pb LA SA (tn T)) (hn : tn T ≤ 6) (e : ∀ q, 20 * s < ow q → ow q < 20 * s + 20 → g q = gv q) : CT g b T lb pb fl pf LA SA sf := by
  obtain ⟨h1, h2, h3, h4, h5⟩ := h
  obtain ⟨o1, o2, o3, o4⟩ := hO
  refine ⟨(e b (by omega) (by omega)).trans h1, (e lb (by omega) (by omega)).trans h2, (e pb (by omega) (by omega)).trans h3, h4, fun l hl => ?_⟩
  obtain ⟨k1, k2, k3⟩ := h5 l hl
  obtain ⟨p1, p2⟩ := o4 l hl
  exact ⟨k1, ⟨(e (LA l) (by omega) (by omega)).trans k2.1, (e (SA l) (by omega) (by omega)).trans k2.2⟩, k3⟩
theorem become_lamps {a b la lb pb s t : Nat} {T : TS} {flb fl : Nat → Option Nat} {pfb : Nat → Int32} {LB SB : Nat → Nat} {sfb : Nat → Nat → Int32} {ra0 : List Value} (hB : CT gv b T lb pb flb pfb LB SB sfb) (hOB : OWN ow s b lb pb LB SB (tn T)) (hT : TOK T) (ha : gv a = .inl (8, .ref la :: ra0)) (hla : gv la = .inr (.inr (6, fl))) (oa : ow a = 20 * t + 1) (ol : ow la = 20 * t + 2) (hst : s ≠ t) (hM : ∀ q, M ≤ q → ow q = 0) : ∃ g flk, (∀ {α : Type} (K : ((Nat → GV) × Nat) → Option α), L_X10_become_7 K a b gFb 0 gv M = K (g, M + 2 * tn T)) ∧ (∀ q, q < M → q ≠ la → g q = gv q) ∧ g la = .inr (.inr (6, flk)) ∧ ∀ l, l < tn T → flk l = some (M + 2 * l) ∧ ∃ f', Lp g (M + 2 * l) (M + 2 * l + 1) (tK T l) (tC T l) (tR T l) (tL T l) (tS T l) f' ∧ ∀ j, j < 9 → f' j = sfb l j := by
  have hn : tn T ≤ 6 := hT.2.2.1
  have ltM : ∀ q, ow q ≠ 0 → q < M := fun q hq => by
    rcases Nat.lt_or_ge q M with g | g
    · exact g
    · exact absurd (hM q g) hq
  have aM := ltM a (by omega)
  have lM := ltM la (by omega)
  have hal : a ≠ la := fun e => by rw [e] at oa; omega
  have step : ∀ k, k < 6 → ∀ (g : Nat → GV) (m : Nat) (flk : Nat → Option Nat), m = M + 2 * (if k ≤ tn T then k else tn T) → (∀ q, q < M → q ≠ la → g q = gv q) → g la = .inr (.inr (6, flk)) → (∀ l, l < k → l < tn T → flk l = some (M + 2 * l) ∧ ∃ f', Lp g (M + 2 * l) (M + 2 * l + 1) (tK T l) (tC T l) (tR T l) (tL T l) (tS T l) f' ∧ ∀ j, j < 9 → f' j = sfb l j) → ∃ g' m' flk', (∀ (n : Nat) {α : Type} (K : ((Nat → GV) × Nat) → Option α), L_X10_become_7 K a b (n + 1) (nI k) g m = L_X10_become_7 K a b n (nI (k + 1)) g' m') ∧ m' = M + 2 * (if k + 1 ≤ tn T then k + 1 else tn T) ∧ (∀ q, q < M → q ≠ la → g' q = gv q) ∧ g' la = .inr (.inr (6, flk')) ∧ (∀ l, l < k + 1 → l < tn T → flk' l = some (M + 2 * l) ∧ ∃ f', Lp g' (M + 2 * l) (M + 2 * l + 1) (tK T l) (tC T l) (tR T l) (tL T l) (tS T l) f' ∧ ∀ j, j < 9 → f' j = sfb l j) := by
    intro k hk g m flk em e1 e2 e3
    have hBg : CT g b T lb pb flb pfb LB SB sfb := hB.at2 hOB hn (fun q q1 q2 => e1 q (ltM q (by omega)) (fun e => by rw [e] at q1 q2; omega))
    have hag : g a = .inl (8, .ref la :: ra0) := (e1 a aM hal).trans ha
    have f0 : gfR g a [8] 0 = some (some la) := gfR_of hag (by decide) rfl
    by_cases hkn : k < tn T
    · have hlp := hBg.lp hkn
      have hk7 := (hT.2.2.2.2.2.2 k hkn).1
      obtain ⟨p1, p2⟩ := hOB.2.2.2 k hkn
      have x1 := ltM (LB k) (by omega)
      have x2 := ltM (SB k) (by omega)
      have em : m = M + 2 * k := by rw [em, if_pos (by omega)]
      obtain ⟨gt, f', t1, t2, t3, t4⟩ := twin_ok (N := m) hlp hk7 (by omega) (by omega)
      have hgl : gt la = .inr (.inr (6, flk)) := (t4 la (by omega) (by omega)).trans e2
      refine ⟨va_up gt la (.inr (.inr (6, va_up flk k (some m)))), m + 2, va_up flk k (some m), ?_, ?_, ?_, va_up_self _ _ _, ?_⟩
      · intro n α K
        rw [L_X10_become_7.eq_2, f0]
        simp only [obs, garl_of e2]
        rw [if_neg (by rw [nI_leI (by decide) (by omega)]; omega), hBg.o]
        simp only [obs]
        rw [hBg.lampAt hT hkn]
        simp only [obs]
        rw [t1]
        simp only [obs]
        rw [gars_1 hgl hk (by decide) t2.1 (kc_in _), nI_1]
        simp only [obs]
      · rw [if_pos (show k + 1 ≤ tn T by omega)]
        omega
      · intro q q1 q2
        rw [va_ne q2, t4 q (by omega) (by omega)]
        exact e1 q q1 q2
      · intro l hl hln
        by_cases e : l = k
        · refine ⟨?_, f', ?_, fun j hj => by rw [e]; exact t3 j hj⟩
          · rw [e, va_up_self, em]
          · rw [e, ← em]
            exact ⟨(va_ne (by omega)).trans t2.1, (va_ne (by omega)).trans t2.2⟩
        · obtain ⟨y1, f2, y2, y3⟩ := e3 l (by omega) hln
          refine ⟨(va_up_ne _ _ e).trans y1, f2, ⟨(va_ne (by omega)).trans ((t4 _ (by omega) (by omega)).trans y2.1), (va_ne (by omega)).trans ((t4 _ (by omega) (by omega)).trans y2.2)⟩, y3⟩
    · have em : m = M + 2 * tn T := by
        rw [em]
        by_cases e : k ≤ tn T
        · rw [if_pos e]; omega
        · rw [if_neg e]
      refine ⟨va_up g la (.inr (.inr (6, va_up flk k none))), m, va_up flk k none, ?_, ?_, ?_, va_up_self _ _ _, ?_⟩
      · intro n α K
        rw [L_X10_become_7.eq_2, f0]
        simp only [obs, garl_of e2]
        rw [if_neg (by rw [nI_leI (by decide) (by omega)]; omega), hBg.o]
        simp only [obs]
        rw [hBg.lampNo (Or.inr (nI_le (by omega) (by omega)))]
        simp only [obs]
        rw [gars_0 e2 hk (by decide), nI_1]
        simp only [obs]
      · rw [if_neg (by omega), em]
      · intro q q1 q2
        rw [va_ne q2]
        exact e1 q q1 q2
      · intro l hl hln
        obtain ⟨y1, f2, y2, y3⟩ := e3 l (by omega) hln
        exact ⟨(va_up_ne _ _ (by omega)).trans y1, f2, ⟨(va_ne (by omega)).trans y2.1, (va_ne (by omega)).trans y2.2⟩, y3⟩
  obtain ⟨g1, m1, f1, a1, b1, c1, d1, i1⟩ := step 0 (by decide) gv M fl (by simp) (fun _ _ _ => rfl) hla (fun l hl => by omega)
  obtain ⟨g2, m2, f2, a2, b2, c2, d2, i2⟩ := step 1 (by decide) g1 m1 f1 b1 c1 d1 i1
  obtain ⟨g3, m3, f3, a3, b3, c3, d3, i3⟩ := step 2 (by decide) g2 m2 f2 b2 c2 d2 i2
  obtain ⟨g4, m4, f4, a4, b4, c4, d4, i4⟩ := step 3 (by decide) g3 m3 f3 b3 c3 d3 i3
  obtain ⟨g5, m5, f5, a5, b5, c5, d5, i5⟩ := step 4 (by decide) g4 m4 f4 b4 c4 d4 i4
  obtain ⟨g6, m6, f6, a6, b6, c6, d6, i6⟩ := step 5 (by decide) g5 m5 f5 b5 c5 d5 i5
  refine ⟨g6, f6, ?_, c6, d6, fun l hl => i6 l (by omega) hl⟩
  intro α K
  have hag : g6 a = .inl (8, .ref la :: ra0) := (c6 a aM hal).trans ha
  have f0 : gfR g6 a [8] 0 = some (some la) := gfR_of hag (by decide) rfl
  rw [show (0 : Int32) = nI 0 from rfl, show gFb = 6 + 1 from rfl, a1 6 K, a2 5 K, a3 4 K, a4 3 K, a5 2 K, a6 1 K, L_X10_become_7.eq_2, f0]
  simp only [obs, garl_of d6]
  rw [if_pos (by decide), b6]
  congr 2
  by_cases e : 6 ≤ tn T
  · rw [if_pos (by omega)]; omega
  · rw [if_neg (by omega)]
theorem become_ok {a b s t : Nat} {T : TS} (hB : TH gv ow s b T) (hT : TOK T) (hA : TE gv ow t a) (hst : s ≠ t) (hM : ∀ q, M ≤ q → ow q = 0) : ∃ gv' ow', f_X10_become gv M a (some b) = some (gv', M + 2 * tn T) ∧ TH gv' ow' t a T ∧ (∀ q, M + 2 * tn T ≤ q → ow' q = 0) ∧ ∀ q, ow q ≠ 0 → (ow q ≤ 20 * t ∨ 20 * t + 20 ≤ ow q) → gv' q = gv q ∧ ow' q = ow q := by
  have hn : tn T ≤ 6 := hT.2.2.1
  have hp4 : tp T ≤ 4 := hT.2.2.2.1
  obtain ⟨lb, pb, flb, pfb, LB, SB, sfb, hC, hOB⟩ := hB
  obtain ⟨la, pa, w0, n0, p0, m0, fl, pf, ha, hla, hpa, oa, ol, op⟩ := hA
  have ltM : ∀ q, ow q ≠ 0 → q < M := fun q hq => by
    rcases Nat.lt_or_ge q M with g | g
    · exact g
    · exact absurd (hM q g) hq
  have aM := ltM a (by omega)
  have lM := ltM la (by omega)
  have pM := ltM pa (by omega)
  have n1 : a ≠ la := fun e => by rw [e] at oa; omega
  have n2 : a ≠ pa := fun e => by rw [e] at oa; omega
  have n3 : la ≠ pa := fun e => by rw [e] at ol; omega
  obtain ⟨g, flk, x1, x2, x3, x4⟩ := become_lamps hC hOB hT ha hla oa ol hst hM
  have hga : g a = .inl (8, [.ref la, .ref pa, .long w0, .int n0, .int p0, .int m0]) := (x2 a aM n1).trans ha
  have hgp : g pa = .inr (.inl (4, pf)) := (x2 pa pM (Ne.symm n3)).trans hpa
  have sok : ∀ g' : Nat → GV, (∀ q, q < M → q ≠ la → q ≠ pa → q ≠ a → g' q = gv q) → CT g' b T lb pb flb pfb LB SB sfb := fun g' e => hC.at2 hOB hn (fun q q1 q2 => e q (ltM q (by omega)) (fun e => by rw [e] at q1 q2; omega) (fun e => by rw [e] at q1 q2; omega) (fun e => by rw [e] at q1 q2; omega))
  have people : ∀ {α : Type} (K : (Nat → GV) → Option α), ∃ gs pfk, L_X10_become_48 K a b gF 0 g = K gs ∧ (∀ q, q ≠ pa → gs q = g q) ∧ gs pa = .inr (.inl (4, pfk)) ∧ ∀ p, p < tp T → pfk p = nI (tP T p) := by
    intro α K
    refine gloop (σ := Nat → GV) (ρ := Option α) (fun n k s => L_X10_become_48 K a b n (nI k) s) 4 (fun k gs => ∃ pfk, (∀ q, q ≠ pa → gs q = g q) ∧ gs pa = .inr (.inl (4, pfk)) ∧ ∀ p, p < k → p < tp T → pfk p = nI (tP T p)) (fun res => ∃ gs pfk, res = K gs ∧ (∀ q, q ≠ pa → gs q = g q) ∧ gs pa = .inr (.inl (4, pfk)) ∧ ∀ p, p < tp T → pfk p = nI (tP T p)) ?_ ?_ gF 0 g (by decide) (by decide) ⟨pf, fun _ _ => rfl, hgp, fun p hp => by omega⟩
    · rintro n gs ⟨pfk, u1, u2, u3⟩
      refine ⟨gs, pfk, ?_, u1, u2, fun p hp => u3 p (by omega) hp⟩
      have f1 : gfR gs a [8] 1 = some (some pa) := gfR_of ((u1 a n2).trans hga) (by decide) rfl
      show L_X10_become_48 K a b (n + 1) (nI 4) gs = _
      rw [L_X10_become_48.eq_2, f1]
      simp only [obs, gal_of u2]
      rw [if_pos (by decide)]
    · rintro n k gs hk ⟨pfk, u1, u2, u3⟩
      right
      have f1 : gfR gs a [8] 1 = some (some pa) := gfR_of ((u1 a n2).trans hga) (by decide) rfl
      have hCs := sok gs (fun q q1 q2 q3 q4 => (u1 q q3).trans (x2 q q1 q2))
      have hcell : ∃ z, f_X10_cellOf gs b (nI k) = some z ∧ (k < tp T → z = nI (tP T k)) := by
        by_cases hkp : k < tp T
        · exact ⟨_, hCs.cellOf hT hkp, fun _ => rfl⟩
        · exact ⟨_, hCs.cellNo (Or.inr (nI_le (by omega) (by omega))), fun e => absurd e hkp⟩
      obtain ⟨z, z1, z2⟩ := hcell
      refine ⟨va_up gs pa (.inr (.inl (4, upd pfk k z))), ?_, upd pfk k z, fun q hq => (va_ne hq).trans (u1 q hq), va_up_self _ _ _, fun p hp hpt => ?_⟩
      · show L_X10_become_48 K a b (n + 1) (nI k) gs = L_X10_become_48 K a b n (nI (k + 1)) _
        rw [L_X10_become_48.eq_2, f1]
        simp only [obs, gal_of u2]
        rw [if_neg (by rw [nI_leI (by decide) (by omega)]; omega), hCs.o]
        simp only [obs]
        rw [z1]
        simp only [obs, gas_of u2 hk (show 4 < 2 ^ 31 by decide), nI_1]
      · by_cases e : p = k
        · rw [e, upd_s]
          exact z2 (by omega)
        · rw [upd_n e]
          exact u3 p (by omega) hpt
  unfold f_X10_become
  show ∃ gv' ow', L_X10_become_7 _ a b gFb 0 gv M = some (gv', M + 2 * tn T) ∧ _
  rw [x1]
  obtain ⟨gs, pfk, u1, u2, u3, u4⟩ := people (fun x48_74 => (gfJ x48_74 b [8] 2).bind fun t76 => (gpu x48_74 a [8] 2 (.long t76)).bind fun g79 => (gfI g79 b [8] 3).bind fun t84 => (gpu g79 a [8] 3 (.int t84)).bind fun g87 => (gfI g87 b [8] 4).bind fun t92 => (gpu g87 a [8] 4 (.int t92)).bind fun g95 => (gfI g95 b [8] 5).bind fun t100 => (gpu g95 a [8] 5 (.int t100)).bind fun g103 => some (g103, M + 2 * tn T))
  show ∃ gv' ow', L_X10_become_48 _ a b gF 0 g = some (gv', M + 2 * tn T) ∧ _
  rw [u1]
  have hs0 := sok gs (fun q q1 q2 q3 q4 => (u2 q q3).trans (x2 q q1 q2))
  have ha0 : gs a = .inl (8, [.ref la, .ref pa, .long w0, .int n0, .int p0, .int m0]) := (u2 a n2).trans hga
  have nb : b ≠ a := fun e => by
    have := hOB.1
    rw [e] at this
    omega
  have more : ∀ (g' g'' : Nat → GV) (x : GV), CT g' b T lb pb flb pfb LB SB sfb → g'' = va_up g' a x → CT g'' b T lb pb flb pfb LB SB sfb := fun g' g'' x h e => by
    rw [e]
    exact h.at2 (ow := ow) hOB hn (fun q q1 q2 => va_ne (fun e => by rw [e] at q1 q2; omega))
  obtain ⟨ga, hga2⟩ : ∃ ga, ga = va_up gs a (.inl (8, [.ref la, .ref pa, .long (lN (bm (tW T) 36)), .int n0, .int p0, .int m0])) := ⟨_, rfl⟩
  have p1 : gpu gs a [8] 2 (.long (lN (bm (tW T) 36))) = some ga := by
    rw [hga2]
    exact gpu_of ha0 (by decide) (by show 2 < 6; decide)
  have c1 := more gs ga _ hs0 hga2
  have d1 : ga a = .inl (8, [.ref la, .ref pa, .long (lN (bm (tW T) 36)), .int n0, .int p0, .int m0]) := by rw [hga2, va_up_self]
  obtain ⟨gb, hgb2⟩ : ∃ gb, gb = va_up ga a (.inl (8, [.ref la, .ref pa, .long (lN (bm (tW T) 36)), .int (nI (tn T)), .int p0, .int m0])) := ⟨_, rfl⟩
  have p2 : gpu ga a [8] 3 (.int (nI (tn T))) = some gb := by
    rw [hgb2]
    exact gpu_of d1 (by decide) (by show 3 < 6; decide)
  have c2 := more ga gb _ c1 hgb2
  have d2 : gb a = .inl (8, [.ref la, .ref pa, .long (lN (bm (tW T) 36)), .int (nI (tn T)), .int p0, .int m0]) := by rw [hgb2, va_up_self]
  obtain ⟨gc, hgc2⟩ : ∃ gc, gc = va_up gb a (.inl (8, [.ref la, .ref pa, .long (lN (bm (tW T) 36)), .int (nI (tn T)), .int (nI (tp T)), .int m0])) := ⟨_, rfl⟩
  have p3 : gpu gb a [8] 4 (.int (nI (tp T))) = some gc := by
    rw [hgc2]
    exact gpu_of d2 (by decide) (by show 4 < 6; decide)
  have c3 := more gb gc _ c2 hgc2
  have d3 : gc a = .inl (8, [.ref la, .ref pa, .long (lN (bm (tW T) 36)), .int (nI (tn T)), .int (nI (tp T)), .int m0]) := by rw [hgc2, va_up_self]
  obtain ⟨gd, hgd2⟩ : ∃ gd, gd = va_up gc a (.inl (8, [.ref la, .ref pa, .long (lN (bm (tW T) 36)), .int (nI (tn T)), .int (nI (tp T)), .int (nI (tM T))])) := ⟨_, rfl⟩
  have p4 : gpu gc a [8] 5 (.int (nI (tM T))) = some gd := by
    rw [hgd2]
    exact gpu_of d3 (by decide) (by show 5 < 6; decide)
  have off : ∀ q, q ≠ a → gd q = gs q := fun q hq => by rw [hgd2, va_ne hq, hgc2, va_ne hq, hgb2, va_ne hq, hga2, va_ne hq]
  refine ⟨gd, fun q => if M ≤ q ∧ q < M + 2 * tn T then 20 * t + 4 + (q - M) else ow q, ?_, ⟨la, pa, flk, pfk, fun l => M + 2 * l, fun l => M + 2 * l + 1, fun l => if hl : l < tn T then (x4 l hl).2.choose else fun _ => 0, ⟨by rw [hgd2, va_up_self], ?_, ?_, u4, fun l hl => ?_⟩, ?_, ?_, ?_, fun l hl => ?_⟩, fun q hq => ?_, fun q q1 q2 => ?_⟩
  · simp only [hs0.f2, obs, p1, c1.f3, p2, c2.f4, p3, c3.f5, p4]
  · rw [off la (Ne.symm n1), u2 la n3]
    exact x3
  · rw [off pa (Ne.symm n2)]
    exact u3
  · have hx := (x4 l hl).2.choose_spec
    refine ⟨(x4 l hl).1, ?_, ?_⟩
    · have y1 : M + 2 * l ≠ a := by omega
      have y2 : M + 2 * l ≠ pa := by omega
      have y3 : M + 2 * l + 1 ≠ a := by omega
      have y4 : M + 2 * l + 1 ≠ pa := by omega
      simp only [hl, dif_pos]
      exact ⟨(off (M + 2 * l) y1).trans ((u2 (M + 2 * l) y2).trans hx.1.1), (off (M + 2 * l + 1) y3).trans ((u2 (M + 2 * l + 1) y4).trans hx.1.2)⟩
    · intro k hk
      have h9 := hT.s9 hl
      simp only [hl, dif_pos]
      rw [hx.2 k (by omega)]
      exact (hC.2.2.2.2 l hl).2.2 k hk
  · show (if M ≤ a ∧ a < M + 2 * tn T then _ else ow a) = _
    rw [if_neg (by omega)]
    exact oa
  · show (if M ≤ la ∧ la < M + 2 * tn T then _ else ow la) = _
    rw [if_neg (by omega)]
    exact ol
  · show (if M ≤ pa ∧ pa < M + 2 * tn T then _ else ow pa) = _
    rw [if_neg (by omega)]
    exact op
  · constructor
    · show (if M ≤ M + 2 * l ∧ M + 2 * l < M + 2 * tn T then 20 * t + 4 + (M + 2 * l - M) else _) = _
      rw [if_pos (by omega)]
      omega
    · show (if M ≤ M + 2 * l + 1 ∧ M + 2 * l + 1 < M + 2 * tn T then 20 * t + 4 + (M + 2 * l + 1 - M) else _) = _
      rw [if_pos (by omega)]
      omega
  · show (if M ≤ q ∧ q < M + 2 * tn T then _ else ow q) = 0
    rw [if_neg (by omega)]
    exact hM q (by omega)
  · have qM := ltM q q1
    refine ⟨?_, ?_⟩
    · rw [off q (fun e => by rw [e] at q2; omega), u2 q (fun e => by rw [e] at q2; omega)]
      exact x2 q qM (fun e => by rw [e] at q2; omega)
    · show (if M ≤ q ∧ q < M + 2 * tn T then _ else ow q) = ow q
      rw [if_neg (by omega)]
end
