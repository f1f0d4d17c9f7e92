section
variable {gv : Nat → GV} {M hx : Nat} {ow : Nat → Nat} {S : SS} {re wa ka la ra li sa wh ce mi st ta ke ro : Nat → Int32} {hi : Int32} {fa sh qu lb may : Nat → Int32} {q : Int32} {tl1 le1 lt1 : Nat → Int32} {at1 ss1 ik1 cu1 : Int32}
/-! the walk, both sides in step -/
theorem walk1_c {a la1 pa t p to left d : Nat} {T : TS} {fl : Nat → Option Nat} {pf : Nat → Int32} {LA SA : Nat → Nat} {sf : Nat → Nat → Int32} (h : CT gv a T la1 pa fl pf LA SA sf) (hO : OWN ow t a la1 pa LA SA (tn T)) (hT : TOK T) (hp : p < tp T) (hto : to < 36) (hl : left < 2 ^ 31) (hq : fst1 (nxB T p to left) 36 = some d) (hd : d < 36) (hw : tW T d = false) (hM : tM T + 1 ≤ 9999) {v3 : Int32} : ∃ gv' pf' sf', (∀ (n : Nat) {α : Type} (K : (Nat → GV) → Option α), L_X10_walk_68 K a (nI p) (nI to) v3 (n + 1) (nI left) gv = L_X10_walk_68 K a (nI p) (nI to) v3 n (nI left + (-1)) gv') ∧ CT gv' a (stepT T p d) la1 pa fl pf' LA SA sf' ∧ Off gv gv' ow t := by
  have hp4 : tp T ≤ 4 := hT.2.2.2.1
  have hP := (hT.2.2.2.2.2.1 p hp).1
  obtain ⟨ga, gb, m1, m2, m3, m4, m5, m6⟩ := h.move (c := d) hO (show p < 4 by omega) hp
  have Tm := hT.mv (p := p) hd hw hM
  obtain ⟨gc, sf', k1, k2, k3⟩ := m4.lkeep hO Tm (p := p) (show p < 10 by omega) hd (m := tM T) rfl hT.ls
  refine ⟨gc, _, sf', ?_, k2, m5.tr k3⟩
  have hwi : f_X2_within (nI (tP T p)) 1 (lN (bm (tF T) 36)) = some (lN (bm (gl1 (tF T) (tP T p) 1) 36)) := within_b (r := 1) fr36 hP (by decide)
  have hfi : fI (fun k => gl1 (tF T) (tP T p) 1 k && gl1 (tF T) to left k) 36 = nI d := by
    unfold fI
    rw [show fst1 (fun k => gl1 (tF T) (tP T p) 1 k && gl1 (tF T) to left k) 36 = some d from hq]
  intro n α K
  rw [L_X10_walk_68.eq_2, if_neg (nI_pos hl), h.f1]
  simp only [obs, gai_of h.2.2.1 (show p < 4 by omega) (show 4 < 2 ^ 31 by decide), h.2.2.2.1 p hp, h.o, h.free]
  rw [hwi, within_b fr36 hto hl]
  simp only [obs]
  rw [lb_and, byNum0_b, hfi]
  simp only [obs]
  rw [m1]
  simp only [obs]
  rw [m2]
  simp only [obs]
  rw [nI_1, m3]
  simp only [obs]
  rw [m4.f1]
  simp only [obs]
  rw [m6]
  simp only [obs]
  rw [m4.o]
  simp only [obs]
  rw [k1]
  simp only [obs]
theorem j_walks {a t p to : Nat} (hto : to < 36) : ∀ (left : Nat) (T : TS) (gv : Nat → GV) (la1 pa : Nat) (fl : Nat → Option Nat) (pf : Nat → Int32) (LA SA : Nat → Nat) (sf : Nat → Nat → Int32) (sa wh ce mi st fa sh qu lb : Nat → Int32) (q : Int32) (v : Nat) (n1 n2 : Nat) (v3 v4 : Int32), CT gv a T la1 pa fl pf LA SA sf → OWN ow t a la1 pa LA SA (tn T) → TOK T → RT T wa ka la ra li sa wh ce mi st → p < tp T → (∀ r, rch (tF T) (src (tF T) to) r (tP T p) = decide (left ≤ r)) → left ≤ 36 → tM T + left ≤ 9999 → left < n1 → left < n2 → v4 = (if left = 0 then -1 else nI (left - 1)) → ∃ T' gv' sa' wh' ce' mi' st' fa' sh' qu' q' lb', (∀ {α : Type} (K : (Nat → GV) → Option α), L_X10_walk_68 K a (nI p) (nI to) v3 n1 v4 gv = K gv') ∧ (∀ {β : Type} (K : (Int32 × (Nat → Int32) × (Nat → Int32) × (Nat → Int32) × (Nat → Int32) × (Nat → Int32) × Int32 × (Nat → Int32) × (Nat → Int32) × (Nat → Int32) × Int32 × (Nat → Int32)) → Option β), L_X12_goesTo_2 K wa ka la ra li (nI (tn T)) (nI (tp T)) (nI p) (nI to) n2 (nI v) sa wh ce mi st (nI (tM T)) fa sh qu q lb = K (nI (v + left), sa', wh', ce', mi', st', nI (tM T'), fa', sh', qu', q', lb')) ∧ TH gv' ow t a T' ∧ Off gv gv' ow t ∧ TOK T' ∧ RT T' wa ka la ra li sa' wh' ce' mi' st' ∧ tn T' = tn T ∧ tp T' = tp T := by
  intro left
  induction left with
  | zero =>
    intro T gv la1 pa fl pf LA SA sf sa wh ce mi st fa sh qu lb q v n1 n2 v3 v4 h hO hT hR hp hd h36 hM hn1 hn2 hv4
    have hp4 : tp T ≤ 4 := hT.2.2.2.1
    have hP := (hT.2.2.2.2.2.1 p hp).1
    have e0 : tP T p = to := by
      have h0 := hd 0
      have h1 : (decide (tP T p = to) && tF T (tP T p)) = true := h0.trans (by simp)
      simp only [Bool.and_eq_true, decide_eq_true_eq] at h1
      exact h1.1
    refine ⟨T, gv, sa, wh, ce, mi, st, fa, sh, qu, q, lb, ?_, ?_, ⟨_, _, _, _, _, _, _, h, hO⟩, Off.rf, hT, hR, rfl, rfl⟩
    · intro α K
      obtain ⟨n, rfl⟩ : ∃ n, n1 = n + 1 := ⟨n1 - 1, by omega⟩
      rw [hv4, if_pos rfl, L_X10_walk_68.eq_2, if_pos (by decide)]
    · intro β K
      obtain ⟨n, rfl⟩ : ∃ n, n2 = n + 1 := ⟨n2 - 1, by omega⟩
      rw [L_X12_goesTo_2.eq_2, gix_ok (show p < 4 by omega) (by decide), nI_clamp (show p < 2 ^ 31 by omega), hR.2.1 p hp, if_pos (by rw [e0])]
      rfl
  | succ left ih =>
    intro T gv la1 pa fl pf LA SA sf sa wh ce mi st fa sh qu lb q v n1 n2 v3 v4 h hO hT hR hp hd h36 hM hn1 hn2 hv4
    have hp4 : tp T ≤ 4 := hT.2.2.2.1
    have hP := (hT.2.2.2.2.2.1 p hp).1
    obtain ⟨d, hq⟩ := nx_get hT hp hto hd (by omega)
    obtain ⟨q1, q2, q3⟩ := fst1_some hq
    obtain ⟨sha, hs1, hs2⟩ := shuts_ok (wa := wa) (sh := sh)
    obtain ⟨fa1, qu1, qa, hf1, hf2⟩ := findFar_ok (far := fa) (sh := sha) (qu := qu) (q0 := q) (RT_shut hR hs2) fr36 hto
    obtain ⟨-, hfd⟩ := (nx_iff hT hp hd hf2 q1 (by omega)).mp q2
    have hd2 : ∀ r, rch (tF T) (src (tF T) to) r d = decide (left ≤ r) := by
      rcases far_all hf2 q1 with ⟨dd, e1, e2, e3⟩ | ⟨e1, -⟩
      · have e : dd = left := (nI_eq (by omega) (by omega)).mp (e2.symm.trans hfd)
        rw [← e]
        exact e3
      · exact absurd (hfd.symm.trans e1) (far_neg (by omega))
    have hfree : tF T d = true := rch_f (n := left) (a := to) (by rw [hd2]; simp)
    have hw : tW T d = false := by
      have h1 := hfree
      unfold tF fr at h1
      simp only [Bool.and_eq_true] at h1
      simpa using h1.2
    have hM1 : tM T + 1 ≤ 9999 := by omega
    obtain ⟨m1, rfl⟩ : ∃ n, n1 = n + 1 := ⟨n1 - 1, by omega⟩
    obtain ⟨m2, rfl⟩ : ∃ n, n2 = n + 1 := ⟨n2 - 1, by omega⟩
    have hv4' : v4 = nI left := by
      rw [hv4, if_neg (by omega)]
      rfl
    obtain ⟨gv1, pf1, sf1, w1, w2, w3⟩ := walk1_c h hO hT hp hto (show left < 2 ^ 31 by omega) hq q1 hw hM1 (v3 := v3)
    obtain ⟨sa1, wh1, ce1, mi1, fa2, sh2, qu2, qb, lb2, s1, s2⟩ := xstep_ok hT hR hp q1 hw hM1 (fa := fa1) (sh := sha) (qu := qu1) (q := qa) (lb := lb)
    have T1 := hT.step (p := p) (show p < 10 by omega) q1 hw hM1
    have ePd : tP (stepT T p d) p = d := if_pos rfl
    obtain ⟨T', gv', sa', wh', ce', mi', st', fa', sh', qu', q', lb', i1, i2, i3, i4, i5, i6, i7, i8⟩ := ih (stepT T p d) gv1 la1 pa fl pf1 LA SA sf1 sa1 wh1 ce1 mi1 (upd st p (nI d)) fa2 sh2 qu2 lb2 qb (v + 1) m1 m2 v3 (nI left + (-1)) w2 hO T1 s2 hp (fun r => by rw [ePd]; exact hd2 r) (by omega) (by show tM T + 1 + left ≤ 9999; omega) (by omega) (by omega) (by
      by_cases e : left = 0
      · rw [if_pos e, e]; decide
      · rw [if_neg e, nI_m1 (by omega)])
    refine ⟨T', gv', sa', wh', ce', mi', st', fa', sh', qu', q', lb', ?_, ?_, i3, w3.tr i4, i5, i6, i7, i8⟩
    · intro α K
      rw [hv4', w1 m1 K, i1 K]
    · intro β K
      have hne : ¬ nI (tP T p) = nI to := by
        rw [nI_eq (by omega) (by omega)]
        intro e
        have h0 := hd 0
        have h1 : (decide (tP T p = to) && tF T (tP T p)) = false := h0.trans (by simp)
        rw [e] at h1
        rw [free_to (f := tF T) (to := to) (c := tP T p) (n := left + 1) (by rw [hd]; simp)] at h1
        simp at h1
      rw [L_X12_goesTo_2.eq_2, gix_ok (show p < 4 by omega) (by decide), nI_clamp (show p < 2 ^ 31 by omega), hR.2.1 p hp, if_neg hne, hs1]
      simp only [obs]
      rw [hf1]
      simp only [obs]
      rw [xnext_ok hT hR hp hto hd (by omega) hf2 hq, s1, nI_1]
      simp only [obs]
      have i2 : L_X12_goesTo_2 K wa ka la ra li (nI (tn T)) (nI (tp T)) (nI p) (nI to) m2 (nI (v + 1)) sa1 wh1 ce1 mi1 (upd st p (nI d)) (nI (tM T + 1)) fa2 sh2 qu2 qb lb2 = K (nI (v + 1 + left), sa', wh', ce', mi', st', nI (tM T'), fa', sh', qu', q', lb') := i2 K
      rw [i2, show v + 1 + left = v + (left + 1) by omega]
/-- one goes: refused alike, or walked alike -/
theorem j_go {a la1 pa t : Nat} {T : TS} {fl : Nat → Option Nat} {pf : Nat → Int32} {LA SA : Nat → Nat} {sf : Nat → Nat → Int32} (h : CT gv a T la1 pa fl pf LA SA sf) (hO : OWN ow t a la1 pa LA SA (tn T)) (hT : TOK T) (hR : RT T wa ka la ra li sa wh ce mi st) (v w : Int32) : (∃ k fa' sh' qu' q', 0 < k ∧ k < 7 ∧ f_X10_walk gv a v w = some (-nI k, gv) ∧ f_X12_notGo wa st (nI (tp T)) (nI (tM T)) fa sh qu q v w = some (-nI k, fa', sh', qu', q')) ∨ ∃ d T' gv' fa1 sh1 qu1 qa sa' wh' ce' mi' st' fa' sh' qu' q' lb', d ≤ 35 ∧ f_X10_walk gv a v w = some (nI d, gv') ∧ f_X12_notGo wa st (nI (tp T)) (nI (tM T)) fa sh qu q v w = some (0, fa1, sh1, qu1, qa) ∧ f_X12_goesTo wa ka la ra li sa wh ce mi st (nI (tn T)) (nI (tp T)) (nI (tM T)) fa1 sh1 qu1 qa lb v w = some (nI d, sa', wh', ce', mi', st', nI (tM T'), fa', sh', qu', q', lb') ∧ TH gv' ow t a T' ∧ Off gv gv' ow t ∧ TOK T' ∧ RT T' wa ka la ra li sa' wh' ce' mi' st' ∧ tn T' = tn T ∧ tp T' = tp T := by
  have n1 : ¬ (1 : Int32) = 0 := by decide
  have hp4 : tp T ≤ 4 := hT.2.2.2.1
  have hM9 : tM T ≤ 9999 := hT.2.2.2.2.1
  unfold f_X10_walk f_X12_notGo
  rcases idx v (n := tp T) (by omega) with hv | ⟨p, hp, e⟩
  · refine Or.inl ⟨1, fa, sh, qu, q, by decide, by decide, ?_, ?_⟩
    · rw [h.o]
      simp only [obs]
      rw [h.isP_no hT hv]
      simp only [obs, if_true]
      rfl
    · rw [xip_no hv]
      simp only [obs, if_true]
      rfl
  · subst e
    have h4 : ¬ nI 4 ≤ nI p := by rw [nI_leI (by decide) (by omega)]; omega
    rw [xip_ok hp (by omega), h.o]
    simp only [obs, n1, if_false]
    rw [h.isP_ok hT hp, h.f1]
    simp only [obs, n1, if_false, gal_of h.2.2.1, h4]
    rcases idx w (n := 36) (by decide) with hv | ⟨to, hto, e⟩
    · refine Or.inl ⟨1, fa, sh, qu, q, by decide, by decide, ?_, ?_⟩
      · rw [cic_no hv]
        simp only [obs, if_true]
        rfl
      · rw [xic_no hv]
        simp only [obs, if_true]
        rfl
    · subst e
      have hP := (hT.2.2.2.2.2.1 p hp).1
      obtain ⟨fa1, sh1, qu1, qa, s1, s2⟩ := xsteps_ok hR (fa := fa) (sh := sh) (qu := qu) (q := q) hP hto
      rw [cic_ok hto, xic_ok hto, gix_ok (show p < 4 by omega) (by decide), nI_clamp (show p < 2 ^ 31 by omega), hR.2.1 p hp, s1]
      simp only [obs, n1, if_false, gai_of h.2.2.1 (show p < 4 by omega) (show 4 < 2 ^ 31 by decide), h.2.2.2.1 p hp, h.free]
      rw [fewest_b fr36 hP hto s2]
      simp only [obs]
      rcases far_all s2 hto with ⟨d, e1, e2, e3⟩ | ⟨e1, -⟩
      · rw [e2, if_pos (nI_pos' (by omega)), if_pos (nI_pos' (by omega)), h.f5]
        simp only [obs, nI_add]
        by_cases c9 : tM T + d ≤ 9999
        · obtain ⟨T', gv', sa', wh', ce', mi', st', fa', sh', qu', q', lb', i1, i2, i3, i4, i5, i6, i7, i8⟩ := j_walks (a := a) (t := t) (p := p) hto d T gv la1 pa fl pf LA SA sf sa wh ce mi st fa1 sh1 qu1 lb qa 0 gF gF (nI d) (nI d - 1) h hO hT hR hp (fun r => by rw [rch_sym fr36]; exact e3 r) (by omega) c9 (by unfold gF; omega) (by unfold gF; omega) (by
            by_cases e : d = 0
            · rw [if_pos e, e]; decide
            · rw [if_neg e, nI_s1 (by omega)])
          refine Or.inr ⟨d, T', gv', fa1, sh1, qu1, qa, sa', wh', ce', mi', st', fa', sh', qu', q', lb', e1, ?_, ?_, ?_, i3, i4, i5, i6, i7, i8⟩
          · rw [if_pos (show nI (tM T + d) ≤ 9999 from nI_le (b := 9999) c9 (by decide)), i1]
          · rw [if_pos (show nI (tM T + d) ≤ 9999 from nI_le (b := 9999) c9 (by decide))]
          · unfold f_X12_goesTo
            have i2 := i2 (fun x2_110 => some (x2_110.1, x2_110.2.1, x2_110.2.2.1, x2_110.2.2.2.1, x2_110.2.2.2.2.1, x2_110.2.2.2.2.2.1, x2_110.2.2.2.2.2.2.1, x2_110.2.2.2.2.2.2.2.1, x2_110.2.2.2.2.2.2.2.2.1, x2_110.2.2.2.2.2.2.2.2.2.1, x2_110.2.2.2.2.2.2.2.2.2.2.1, x2_110.2.2.2.2.2.2.2.2.2.2.2))
            rw [Nat.zero_add] at i2
            exact i2
        · have c9' : ¬ nI (tM T + d) ≤ 9999 := by rw [show (9999 : Int32) = nI 9999 from rfl, nI_leI (by omega) (by decide)]; exact c9
          refine Or.inl ⟨6, fa1, sh1, qu1, qa, by decide, by decide, ?_, ?_⟩
          · rw [if_neg c9']
            rfl
          · rw [if_neg c9']
            rfl
      · rw [e1, if_neg (by decide), if_neg (by decide)]
        exact Or.inl ⟨3, fa1, sh1, qu1, qa, by decide, by decide, rfl, rfl⟩
theorem q_go (hT : SOK S) (h : CX gv M hx ow S) (hX : XR S re wa ka la ra li sa wh ce mi st ta ke ro (nI (tn (zT S))) (nI (tp (zT S))) (nI (tM (zT S))) (nI (zl S)) hi (nI (zr S))) (v w : Int32) : ∃ r S' re' sa' wh' ce' mi' st' mn' fa' sh' qu' q' lb', CA gv M hx ow (f_X11_go gv hx v w) r S' ∧ f_X12_go re wa ka la ra li sa wh ce mi st (nI (tn (zT S))) (nI (tp (zT S))) (nI (tM (zT S))) fa sh qu q lb v w = some (r, re', sa', wh', ce', mi', st', mn', fa', sh', qu', q', lb') ∧ XR S' re' wa ka la ra li sa' wh' ce' mi' st' ta ke ro (nI (tn (zT S))) (nI (tp (zT S))) mn' (nI (zl S)) hi (nI (zr S)) ∧ SOK S' := by
  obtain ⟨he, th, la1, pa, fl, pf, LA, SA, sf, e4, ⟨fs, hO⟩, hC, hOW, ht1, ht2⟩ := id h.here
  have n1 : ¬ (1 : Int32) = 0 := by decide
  have hn : tn (zT S) ≤ 6 := hT.1.2.2.1
  have hp : tp (zT S) ≤ 4 := hT.1.2.2.2.1
  unfold f_X11_go f_X12_go
  simp only [e4, hC.o, obs]
  rcases j_go (fa := fa) (sh := sh) (qu := qu) (q := q) (lb := lb) hC hOW hT.1 hX.2.1 v w with ⟨k, fa', sh', qu', q', k1, k2, k3, k4⟩ | ⟨d, T', gv', fa1, sha, qu1, qa, sa', wh', ce', mi', st', fa', sh', qu', q', lb', d1, c1, c2, c3, c4, c5, c6, c7, c8, c9⟩
  · refine ⟨-nI k, sNo S k, upd re k (re k + 1), sa, wh, ce, mi, st, _, fa', sh', qu', q', lb, ?_, ?_, hX.no k, hT.no k⟩
    · rw [k3]
      simp only [obs]
      exact h.cnt_no hT k1 k2
    · rw [k4]
      simp only [obs, neg_nz k1 k2, if_false]
      rw [xno_ok k2]
      rfl
  · have K1 := h.town hT e4 hOW.1 c4 c5
    refine ⟨nI d, (T', S.2), re, sa', wh', ce', mi', st', nI (tM T'), fa', sh', qu', q', lb', ⟨gv', ow, ?_, K1.1, K1.2⟩, ?_, ⟨hX.1, c7, ⟨by rw [← c8]; rfl, by rw [← c9]; rfl, rfl⟩, hX.2.2.2⟩, ⟨c6, hT.2⟩⟩
    · rw [c1]
      simp only [obs]
      exact cnt_yes (nI_pos' (by omega)) K1.1.obj
    · rw [c2]
      simp only [obs, if_true]
      rw [c3]
      simp only [obs]
end
