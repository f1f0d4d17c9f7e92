section
variable {gv : Nat → GV} {M hx : Nat} {ow : Nat → Nat} {S : SS} {re wa ka la ra li sa wh ce mi st ta ke ro : Nat → Int32} {hi : Int32} {fa sh qu lb may : Nat → Int32} {q : Int32} {tl1 le1 lt1 : Nat → Int32} {at1 ss1 ik1 cu1 : Int32}
/-! ONE STATEMENT OBEYED -/
theorem ng_ne : ∀ k, k < 7 → 0 < k → ¬ (-nI k : Int32) = 0 ∧ (-nI k : Int32) < 0 ∧ ¬ (0 : Int32) ≤ -nI k := by decide
def Fr (gv gv' : Nat → GV) (ow ow' : Nat → Nat) (t : Nat) : Prop := ∀ q, ow q ≠ 0 → (ow q ≤ 20 * t ∨ 20 * t + 20 ≤ ow q) → gv' q = gv q ∧ ow' q = ow q
theorem Off.fr {gv' : Nat → GV} {t : Nat} (h : Off gv gv' ow t) : Fr gv gv' ow ow t := fun q _ hq => ⟨h q hq, rfl⟩
theorem Fr.rf {t : Nat} : Fr gv gv ow ow t := fun _ _ _ => ⟨rfl, rfl⟩
theorem Fr.tr {gv' gv'' : Nat → GV} {ow' ow'' : Nat → Nat} {t : Nat} (h : Fr gv gv' ow ow' t) (h2 : Fr gv' gv'' ow' ow'' t) : Fr gv gv'' ow ow'' t := fun q q1 q2 => by
  obtain ⟨a1, a2⟩ := h q q1 q2
  obtain ⟨b1, b2⟩ := h2 q (by rw [a2]; exact q1) (by rw [a2]; exact q2)
  exact ⟨b1.trans a1, b2.trans a2⟩
def xA1 (T : TS) (k c r : Nat) : TS := (tW T, (fun l => if l = tn T then k else tK T l), (fun l => if l = tn T then c else tC T l), (fun l => if l = tn T then r else tR T l), (fun l => if l = tn T then true else tL T l), (fun l => if l = tn T then 0 else tS T l), tw T, tx T, tm T, tP T, tn T + 1, tp T, tM T)
def xB1 (T : TS) (l : Nat) : TS := (T.1, T.2.1, T.2.2.1, T.2.2.2.1, (fun k => if k = l then false else tL T k), (fun k => if k = l then 0 else tS T k), T.2.2.2.2.2.2)
theorem TOK.xA1 {T : TS} (h : TOK T) {k c r : Nat} (hk : k < 7) (hc : c < 36) (hr : r ≤ 5) (hn : tn T < 6) : TOK (xA1 T k c r) := by
  obtain ⟨t1, t2, t3, t4, t5, t6, t7⟩ := h
  refine ⟨t1, t2, by show tn T + 1 ≤ 6; omega, t4, t5, t6, fun l hl => ?_⟩
  have hl : l < tn T + 1 := hl
  show (if l = tn T then k else tK T l) < 7 ∧ (if l = tn T then c else tC T l) < 36 ∧ (if l = tn T then r else tR T l) ≤ 5 ∧ (if l = tn T then 0 else tS T l) ≤ keepN (if l = tn T then k else tK T l) ∧ (∀ j, j < (if l = tn T then 0 else tS T l) → tw T l j < 10 ∧ tx T l j < 36 ∧ tm T l j ≤ tM T) ∧ ∀ i j, i < j → j < (if l = tn T then 0 else tS T l) → tm T l i < tm T l j
  by_cases e : l = tn T
  · simp only [if_pos e]
    exact ⟨hk, hc, hr, Nat.zero_le _, fun j hj => by omega, fun i j _ hj => by omega⟩
  · simp only [if_neg e]
    exact t7 l (by omega)
theorem TOK.xB1 {T : TS} (h : TOK T) {m : Nat} : TOK (xB1 T m) := by
  obtain ⟨t1, t2, t3, t4, t5, t6, t7⟩ := h
  refine ⟨t1, t2, t3, t4, t5, t6, fun l hl => ?_⟩
  obtain ⟨a1, a2, a3, a4, a5, a6⟩ := t7 l hl
  show tK T l < 7 ∧ tC T l < 36 ∧ tR T l ≤ 5 ∧ (if l = m then 0 else tS T l) ≤ keepN (tK T l) ∧ (∀ j, j < (if l = m then 0 else tS T l) → tw T l j < 10 ∧ tx T l j < 36 ∧ tm T l j ≤ tM T) ∧ ∀ i j, i < j → j < (if l = m then 0 else tS T l) → tm T l i < tm T l j
  by_cases e : l = m
  · simp only [if_pos e]
    exact ⟨a1, a2, a3, Nat.zero_le _, fun j hj => by omega, fun i j _ hj => by omega⟩
  · simp only [if_neg e]
    exact ⟨a1, a2, a3, a4, a5, a6⟩
theorem RT.xA1 {T : TS} (hR : RT T wa ka la ra li sa wh ce mi st) {k c r : Nat} : RT (xA1 T k c r) wa (upd ka (tn T) (nI k)) (upd la (tn T) (nI c)) (upd ra (tn T) (nI r)) (upd li (tn T) 1) (upd sa (tn T) 0) wh ce mi st := by
  obtain ⟨h1, h2, h3⟩ := hR
  refine ⟨h1, h2, fun l hl => ?_⟩
  have hl : l < tn T + 1 := hl
  show upd ka (tn T) (nI k) l = nI (if l = tn T then k else tK T l) ∧ upd la (tn T) (nI c) l = nI (if l = tn T then c else tC T l) ∧ upd ra (tn T) (nI r) l = nI (if l = tn T then r else tR T l) ∧ (upd li (tn T) 1 l = if (if l = tn T then true else tL T l) = true then 1 else 0) ∧ upd sa (tn T) 0 l = nI (if l = tn T then 0 else tS T l) ∧ ∀ j, j < (if l = tn T then 0 else tS T l) → wh (9 * l + j) = nI (tw T l j) ∧ ce (9 * l + j) = nI (tx T l j) ∧ mi (9 * l + j) = nI (tm T l j)
  by_cases e : l = tn T
  · simp only [if_pos e]
    rw [e, upd_s, upd_s, upd_s, upd_s, upd_s]
    exact ⟨rfl, rfl, rfl, rfl, rfl, fun j hj => by omega⟩
  · simp only [if_neg e]
    rw [upd_n e, upd_n e, upd_n e, upd_n e, upd_n e]
    exact h3 l (by omega)
theorem RT.xB1 {T : TS} (hR : RT T wa ka la ra li sa wh ce mi st) {m : Nat} : RT (xB1 T m) wa ka la ra (upd li m 0) (upd sa m 0) wh ce mi st := by
  obtain ⟨h1, h2, h3⟩ := hR
  refine ⟨h1, h2, fun l hl => ?_⟩
  obtain ⟨a1, a2, a3, a4, a5, a6⟩ := h3 l hl
  show ka l = nI (tK T l) ∧ la l = nI (tC T l) ∧ ra l = nI (tR T l) ∧ (upd li m 0 l = if (if l = m then false else tL T l) = true then 1 else 0) ∧ upd sa m 0 l = nI (if l = m then 0 else tS T l) ∧ ∀ j, j < (if l = m then 0 else tS T l) → wh (9 * l + j) = nI (tw T l j) ∧ ce (9 * l + j) = nI (tx T l j) ∧ mi (9 * l + j) = nI (tm T l j)
  by_cases e : l = m
  · simp only [if_pos e]
    rw [e, upd_s, upd_s]
    rw [e] at a1 a2 a3
    exact ⟨a1, a2, a3, rfl, rfl, fun j hj => by omega⟩
  · simp only [if_neg e]
    rw [upd_n e, upd_n e]
    exact ⟨a1, a2, a3, a4, a5, a6⟩
theorem j_lamp {a t M kd c0 r0 j : Nat} {T : TS} {to : Nat → Int32} (hH : TH gv ow t a T) (hT : TOK T) (hR : RT T wa ka la ra li sa wh ce mi st) (hM : ∀ q, M ≤ q → ow q = 0) (hk : kd < 7) (hc : c0 < 1000) (hr : r0 < 1000) (hj : j + 2 < 144) (t0 : to j = nI kd) (t1 : to (j + 1) = nI c0) (t2 : to (j + 2) = nI r0) : (∃ k, 0 < k ∧ k < 7 ∧ f_X10_addLamp gv M a (nI kd) (nI c0) (nI r0) = some (-nI k, gv, M) ∧ f_X12_comesLamp ka la ra li sa (nI (tn T)) to (nI j) = some (0, ka, la, ra, li, sa, nI (tn T))) ∨ ∃ gv' ow', f_X10_addLamp gv M a (nI kd) (nI c0) (nI r0) = some (nI (tn T), gv', M + 2) ∧ f_X12_comesLamp ka la ra li sa (nI (tn T)) to (nI j) = some (1, upd ka (tn T) (nI kd), upd la (tn T) (nI c0), upd ra (tn T) (nI r0), upd li (tn T) 1, upd sa (tn T) 0, nI (tn T + 1)) ∧ TH gv' ow' t a (xA1 T kd c0 r0) ∧ TOK (xA1 T kd c0 r0) ∧ RT (xA1 T kd c0 r0) wa (upd ka (tn T) (nI kd)) (upd la (tn T) (nI c0)) (upd ra (tn T) (nI r0)) (upd li (tn T) 1) (upd sa (tn T) 0) wh ce mi st ∧ (∀ q, M + 2 ≤ q → ow' q = 0) ∧ Fr gv gv' ow ow' t := by
  have n1 : ¬ (1 : Int32) = 0 := by decide
  have hn : tn T ≤ 6 := hT.2.2.1
  obtain ⟨la1, pa, fl, pf, LA, SA, sf, hC, hO⟩ := hH
  have x1 : nI j + 1 = nI (j + 1) := nI_1 j
  have x2 : nI j + 2 = nI (j + 2) := by rw [show (2 : Int32) = nI 2 from rfl, nI_add]
  have hr0 : ¬ nI r0 < 0 := nI_pos (by omega)
  have hn0 : ¬ nI (tn T) < 0 := nI_pos (by omega)
  unfold f_X10_addLamp f_X12_comesLamp
  simp only [x1, x2, gix_ok (show j < 144 by omega) (show 144 < 2 ^ 31 by decide), gix_ok (show j + 1 < 144 by omega) (show 144 < 2 ^ 31 by decide), gix_ok (show j + 2 < 144 by omega) (show 144 < 2 ^ 31 by decide), nI_clamp (show j < 2 ^ 31 by omega), nI_clamp (show j + 1 < 2 ^ 31 by omega), nI_clamp (show j + 2 < 2 ^ 31 by omega), t0, t1, t2]
  by_cases hc36 : c0 < 36
  · rw [cic_ok hc36, xic_ok hc36]
    simp only [obs, n1, if_false, hr0]
    by_cases hr5 : r0 ≤ 5
    · rw [if_pos (show nI r0 ≤ 5 from nI_le hr5 (by decide)), if_neg (show ¬ (5 : Int32) < nI r0 by rw [show (5 : Int32) = nI 5 from rfl, nI_ltI (by decide) (by omega)]; omega), hC.f3, hC.f0]
      simp only [obs, hn0, if_false, garl_of hC.2.1]
      by_cases h6 : tn T = 6
      · refine Or.inl ⟨6, by decide, by decide, ?_, ?_⟩
        · rw [if_neg (by rw [h6]; decide)]
          rfl
        · rw [if_pos (show nI (tn T) = 6 by rw [h6]; rfl)]
      · have h66 : tn T < 6 := by omega
        have ltM : ∀ q, ow q ≠ 0 → q < M := fun q hq => by
          rcases Nat.lt_or_ge q M with g | g
          · exact g
          · exact absurd (hM q g) hq
        obtain ⟨h1, h2, h3, h4, h5⟩ := id hC
        obtain ⟨o1, o2, o3, o4⟩ := hO
        have aM := ltM a (by omega)
        have lM := ltM la1 (by omega)
        have pM := ltM pa (by omega)
        have d1 : a ≠ la1 := fun e => by rw [e] at o1; omega
        have d2 : a ≠ pa := fun e => by rw [e] at o1; omega
        have d3 : la1 ≠ pa := fun e => by rw [e] at o2; omega
        obtain ⟨gt, a1, a2, a3⟩ := ofKind_ok (gv := gv) (N := M) hk
        obtain ⟨g1, b1, b2, b3⟩ := a2.setC c0
        obtain ⟨g2, c1, c2, c3⟩ := b2.setR r0
        have e2 : ∀ z, z < M → g2 z = gv z := fun z hz => (c3 z (by omega)).trans ((b3 z (by omega)).trans (a3 z (by omega) (by omega)))
        have f0 : gfR g2 a [8] 0 = some (some la1) := gfR_of ((e2 a aM).trans h1) (by decide) rfl
        have f3 : gfI g2 a [8] 3 = some (nI (tn T)) := gfI_of ((e2 a aM).trans h1) (by decide) rfl
        obtain ⟨g3, hg3⟩ : ∃ g3, g3 = va_up g2 la1 (.inr (.inr (6, va_up fl (tn T) (some M)))) := ⟨_, rfl⟩
        have s3 : gars g2 la1 (nI (tn T)) (some M) = some g3 := by
          rw [hg3]
          exact gars_1 ((e2 la1 lM).trans h2) h66 (by decide) c2.1 (kc_in _)
        have k3 : g3 a = .inl (8, [.ref la1, .ref pa, .long (lN (bm (tW T) 36)), .int (nI (tn T)), .int (nI (tp T)), .int (nI (tM T))]) := by
          rw [hg3, va_ne d1]
          exact (e2 a aM).trans h1
        have f3' : gfI g3 a [8] 3 = some (nI (tn T)) := gfI_of k3 (by decide) rfl
        obtain ⟨g4, hg4⟩ : ∃ g4, g4 = va_up g3 a (.inl (8, [.ref la1, .ref pa, .long (lN (bm (tW T) 36)), .int (nI (tn T + 1)), .int (nI (tp T)), .int (nI (tM T))])) := ⟨_, rfl⟩
        have s4 : gpu g3 a [8] 3 (.int (nI (tn T + 1))) = some g4 := by
          rw [hg4]
          exact gpu_of k3 (by decide) (by show 3 < 6; decide)
        have k4 : g4 a = .inl (8, [.ref la1, .ref pa, .long (lN (bm (tW T) 36)), .int (nI (tn T + 1)), .int (nI (tp T)), .int (nI (tM T))]) := by rw [hg4, va_up_self]
        have f4 : gfI g4 a [8] 3 = some (nI (tn T + 1)) := gfI_of k4 (by decide) rfl
        have off : ∀ z, z ≠ la1 → z ≠ a → g4 z = g2 z := fun z z1 z2 => by rw [hg4, va_ne z2, hg3, va_ne z1]
        refine Or.inr ⟨g4, fun q => if q = M then 20 * t + 4 + 2 * tn T else if q = M + 1 then 20 * t + 5 + 2 * tn T else ow q, ?_, ?_, ⟨la1, pa, va_up fl (tn T) (some M), pf, fun l => if l = tn T then M else LA l, fun l => if l = tn T then M + 1 else SA l, fun l => if l = tn T then fun _ => 0 else sf l, ⟨k4, ?_, (off pa (Ne.symm d3) (Ne.symm d2)).trans ((e2 pa pM).trans h3), h4, fun l hl => ?_⟩, ?_, ?_, ?_, fun l hl => ?_⟩, hT.xA1 hk hc36 hr5 h66, hR.xA1, fun q hq => ?_, fun q q1 q2 => ?_⟩
        · rw [if_pos (show nI (tn T) < nI 6 from nI_lt h66 (by decide)), a1]
          simp only [obs, b1, c1, f0, f3, s3, f3', nI_1, s4, f4]
          rw [nI_s1 (by omega)]
          rfl
        · rw [if_neg (show ¬ nI (tn T) = 6 by rw [show (6 : Int32) = nI 6 from rfl, nI_eq (by omega) (by decide)]; exact h6)]
          simp only [gix_ok h66 (show 6 < 2 ^ 31 by decide), nI_clamp (show tn T < 2 ^ 31 by omega), nI_1]
        · rw [hg4, va_ne (Ne.symm d1), hg3, va_up_self]
        · have hl : l < tn T + 1 := hl
          show va_up fl (tn T) (some M) l = some (if l = tn T then M else LA l) ∧ Lp g4 (if l = tn T then M else LA l) (if l = tn T then M + 1 else SA l) (if l = tn T then kd else tK T l) (if l = tn T then c0 else tC T l) (if l = tn T then r0 else tR T l) (if l = tn T then true else tL T l) (if l = tn T then 0 else tS T l) (if l = tn T then fun _ => 0 else sf l) ∧ ∀ k, k < (if l = tn T then 0 else tS T l) → (if l = tn T then fun _ => 0 else sf l) k = nI (tm T l k * 1000 + tx T l k * 10 + tw T l k)
          by_cases e : l = tn T
          · simp only [if_pos e]
            refine ⟨by rw [e, va_up_self], ⟨(off M (by omega) (by omega)).trans c2.1, (off (M + 1) (by omega) (by omega)).trans c2.2⟩, fun k hk => by omega⟩
          · simp only [if_neg e]
            obtain ⟨u1, u2, u3⟩ := h5 l (by omega)
            obtain ⟨p1, p2⟩ := o4 l (by omega)
            have m1 := ltM (LA l) (by omega)
            have m2 := ltM (SA l) (by omega)
            refine ⟨(va_up_ne _ _ e).trans u1, ⟨(off (LA l) (fun e => by rw [e] at p1; omega) (fun e => by rw [e] at p1; omega)).trans ((e2 _ m1).trans u2.1), (off (SA l) (fun e => by rw [e] at p2; omega) (fun e => by rw [e] at p2; omega)).trans ((e2 _ m2).trans u2.2)⟩, u3⟩
        · show (if a = M then _ else if a = M + 1 then _ else ow a) = _
          rw [if_neg (by omega), if_neg (by omega)]
          exact o1
        · show (if la1 = M then _ else if la1 = M + 1 then _ else ow la1) = _
          rw [if_neg (by omega), if_neg (by omega)]
          exact o2
        · show (if pa = M then _ else if pa = M + 1 then _ else ow pa) = _
          rw [if_neg (by omega), if_neg (by omega)]
          exact o3
        · have hl : l < tn T + 1 := hl
          show (if (if l = tn T then M else LA l) = M then 20 * t + 4 + 2 * tn T else if (if l = tn T then M else LA l) = M + 1 then 20 * t + 5 + 2 * tn T else ow (if l = tn T then M else LA l)) = 20 * t + 4 + 2 * l ∧ (if (if l = tn T then M + 1 else SA l) = M then 20 * t + 4 + 2 * tn T else if (if l = tn T then M + 1 else SA l) = M + 1 then 20 * t + 5 + 2 * tn T else ow (if l = tn T then M + 1 else SA l)) = 20 * t + 5 + 2 * l
          by_cases e : l = tn T
          · simp only [if_pos e]
            rw [if_pos trivial, if_neg (by omega), if_pos trivial, e]
            exact ⟨rfl, rfl⟩
          · simp only [if_neg e]
            obtain ⟨p1, p2⟩ := o4 l (by omega)
            have m1 := ltM (LA l) (by omega)
            have m2 := ltM (SA l) (by omega)
            rw [if_neg (by omega), if_neg (by omega), if_neg (by omega), if_neg (by omega)]
            exact ⟨p1, p2⟩
        · show (if q = M then _ else if q = M + 1 then _ else ow q) = 0
          rw [if_neg (by omega), if_neg (by omega)]
          exact hM q (by omega)
        · have qM := ltM q q1
          refine ⟨(off q (fun e => by rw [e] at q2; omega) (fun e => by rw [e] at q2; omega)).trans (e2 q qM), ?_⟩
          show (if q = M then _ else if q = M + 1 then _ else ow q) = _
          rw [if_neg (by omega), if_neg (by omega)]
    · refine Or.inl ⟨1, by decide, by decide, ?_, ?_⟩
      · rw [if_neg (show ¬ nI r0 ≤ 5 by rw [show (5 : Int32) = nI 5 from rfl, nI_leI (by omega) (by decide)]; omega)]
        rfl
      · rw [if_pos (show (5 : Int32) < nI r0 from nI_lt (show 5 < r0 by omega) (by omega))]
  · have hv : nI c0 < 0 ∨ nI 36 ≤ nI c0 := Or.inr (nI_le (by omega) (by omega))
    refine Or.inl ⟨1, by decide, by decide, ?_, ?_⟩
    · rw [cic_no hv]
      simp only [obs, if_true]
      rfl
    · rw [xic_no hv]
      simp only [obs, if_true]
end
