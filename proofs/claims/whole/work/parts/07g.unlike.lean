/-! UNLIKE SCENES -/
def hasT (T : TS) (l t p e : Nat) : Bool := hasB (tS T l) (tw T l) (tx T l) (tm T l) t p e
theorem TOK.mono {T : TS} (hT : TOK T) {l i j : Nat} (hl : l < tn T) (hi : i < tS T l) (hj : j < tS T l) (h : tm T l i = tm T l j) : i = j := by
  have hm := (hT.2.2.2.2.2.2 l hl).2.2.2.2.2
  rcases Nat.lt_trichotomy i j with g | g | g
  · have := hm i j g hj; omega
  · exact g
  · have := hm j i g hi; omega
theorem hasT_iff {T : TS} (hT : TOK T) {l t p e : Nat} (hl : l < tn T) : hasT T l t p e = true ↔ ∃ i, i < tS T l ∧ tm T l i = t ∧ tw T l i = p ∧ tx T l i = e := by
  unfold hasT hasB
  rcases fI_cas (fun i => decide (tm T l i = t)) (tS T l) with ⟨i, e1, e2, e3, -⟩ | ⟨e3, -⟩
  · have hm : tm T l i = t := by simpa using e2
    rw [e3]
    constructor
    · intro h
      have h2 : tw T l i = p ∧ tx T l i = e := by simpa using h
      exact ⟨i, e1, hm, h2.1, h2.2⟩
    · rintro ⟨j, j1, j2, j3, j4⟩
      have hij := hT.mono hl e1 j1 (hm.trans j2.symm)
      subst hij
      simp [j3, j4]
  · rw [e3]
    constructor
    · intro h; cases h
    · rintro ⟨j, j1, j2, -⟩
      exact absurd e3 (fst1_ne j1 (by simp [j2]))
theorem fst1_any (p : Nat → Bool) (n : Nat) : (match fst1 p n with
    | some _ => some (1 : Int32)
    | none => some 0) = some (if anyB p n = true then 1 else 0) := by
  cases hq : fst1 p n with
  | some i =>
    rw [if_pos (anyB_iff.mpr ⟨i, (fst1_some hq).1, (fst1_some hq).2.1⟩)]
  | none =>
    rw [if_neg (fun h => by
      obtain ⟨k, h1, h2⟩ := anyB_iff.mp h
      exact fst1_ne h1 h2 hq)]
/-- how many scenes of those lamps are unlike all before -/
def unK (T : TS) (sh : Nat → Bool) (n : Nat) : Nat := sumN (fun l => if sh l = true then cnt (fun i => !anyB (fun m => (decide (m < l) && sh m) && hasT T m (tm T l i) (tw T l i) (tx T l i)) (tn T)) (tS T l) else 0) n
section
variable {gv : Nat → GV} {a la pa : Nat} {T : TS} {fl : Nat → Option Nat} {pf : Nat → Int32} {LA SA : Nat → Nat} {sf : Nat → Nat → Int32}
theorem CT.anyHas (h : CT gv a T la pa fl pf LA SA sf) (hT : TOK T) {s t p e : Nat} (hs : s < 2 ^ 31) (ht : t ≤ 9999) (hp : p < 10) (he : e < 36) : f_X10_anyHas gv a (nI s) (nI (t * 1000 + e * 10 + p)) = some (if anyB (fun l => s.testBit l && hasT T l t p e) (tn T) = true then 1 else 0) := by
  have hn : tn T ≤ 6 := hT.2.2.1
  unfold f_X10_anyHas
  refine (gfirst (fun n k => L_X10_anyHas_2 (fun x2_40 => some 1) (fun x2_48 => some 0) gv a (nI s) (nI (t * 1000 + e * 10 + p)) n (nI k)) (fun _ => some (1 : Int32)) (some 0) (tn T) (fun l => s.testBit l && hasT T l t p e) ?_ ?_ gF 0 (by unfold gF; omega) (Nat.zero_le _) (fun j hj => by omega)).trans (fst1_any _ _)
  · intro n
    show L_X10_anyHas_2 _ _ gv a _ _ (n + 1) (nI (tn T)) = _
    rw [L_X10_anyHas_2.eq_2, h.f3]
    simp only [Option.bind_some]
    rw [if_pos (nI_le (Nat.le_refl _) (by omega))]
  · intro n k hk
    show L_X10_anyHas_2 _ _ gv a _ _ (n + 1) (nI k) = _
    rw [L_X10_anyHas_2.eq_2, h.f3]
    simp only [Option.bind_some]
    rw [if_neg (by rw [nI_leI (by omega) (by omega)]; omega), h.o]
    simp only [Option.bind_some]
    rw [h.lampAt hT hk]
    simp only [Option.bind_some]
    rw [(h.lp hk).hasScene (h.sc hT hk) ht hp he, nI_1]
    simp only [Option.bind_some]
    cases hb : s.testBit k with
    | true =>
      rw [if_pos ((ib_bit1 hs (by omega)).mpr hb)]
      show _ = if (true && hasT T k t p e) = true then _ else _
      unfold hasT
      cases hasB (tS T k) (tw T k) (tx T k) (tm T k) t p e <;> simp
    | false =>
      rw [if_neg (fun g => by rw [(ib_bit1 hs (by omega)).mp g] at hb; cases hb)]
      simp
theorem CT.notOf (h : CT gv a T la pa fl pf LA SA sf) (hT : TOK T) {s l : Nat} (hs : s < 2 ^ 31) (hl : l < tn T) : f_X10_scenesNotOf gv a (nI s) (some (LA l)) = some (nI (cnt (fun i => !anyB (fun m => s.testBit m && hasT T m (tm T l i) (tw T l i) (tx T l i)) (tn T)) (tS T l))) := by
  have h9 := hT.s9 hl
  have hlp := h.lp hl
  unfold f_X10_scenesNotOf
  refine gfold (σ := Int32) (ρ := Option Int32) (fun n k z => L_X10_scenesNotOf_5 (fun x5_45 => some x5_45) gv a (nI s) (some (LA l)) n z (nI k)) some (tS T l) (fun k => nI (cnt (fun i => !anyB (fun m => s.testBit m && hasT T m (tm T l i) (tw T l i) (tx T l i)) (tn T)) k)) ?_ ?_ gF 0 (by unfold gF; omega) (Nat.zero_le _)
  · intro n
    show L_X10_scenesNotOf_5 _ gv a _ _ (n + 1) _ (nI (tS T l)) = _
    rw [L_X10_scenesNotOf_5.eq_2]
    simp only [Option.bind_some, hlp.f3]
    rw [if_pos (nI_le (Nat.le_refl _) (by omega))]
  · intro n k hk
    obtain ⟨d1, d2, d3, d4⟩ := (h.sc hT hl).2 k hk
    show L_X10_scenesNotOf_5 _ gv a _ _ (n + 1) (nI (cnt (fun i => !anyB (fun m => s.testBit m && hasT T m (tm T l i) (tw T l i) (tx T l i)) (tn T)) k)) (nI k) = L_X10_scenesNotOf_5 _ gv a _ _ n (nI (cnt (fun i => !anyB (fun m => s.testBit m && hasT T m (tm T l i) (tw T l i) (tx T l i)) (tn T)) (k + 1))) (nI (k + 1))
    rw [L_X10_scenesNotOf_5.eq_2]
    simp only [Option.bind_some, hlp.f3]
    rw [if_neg (by rw [nI_leI (by omega) (by omega)]; omega), hlp.sceneAt h9 hk, d1]
    simp only [Option.bind_some, h.o]
    rw [h.anyHas hT hs d4 d2 d3]
    simp only [Option.bind_some]
    have hsu : cnt (fun i => !anyB (fun m => s.testBit m && hasT T m (tm T l i) (tw T l i) (tx T l i)) (tn T)) (k + 1) = cnt (fun i => !anyB (fun m => s.testBit m && hasT T m (tm T l i) (tw T l i) (tx T l i)) (tn T)) k + (if (!anyB (fun m => s.testBit m && hasT T m (tm T l k) (tw T l k) (tx T l k)) (tn T)) = true then 1 else 0) := rfl
    rw [hsu, nI_1, ← nI_add (cnt _ k)]
    cases anyB (fun m => s.testBit m && hasT T m (tm T l k) (tw T l k) (tx T l k)) (tn T) <;> rfl
theorem CT.unlike (h : CT gv a T la pa fl pf LA SA sf) (hT : TOK T) (g : Nat → Bool) : f_X10_unlikeScenesShownTo gv a (lN (bm g 36)) = some (nI (unK T (fun l => anyB (fun c => tG T l c && g c) 36) (tn T))) := by
  have hn : tn T ≤ 6 := hT.2.2.1
  unfold f_X10_unlikeScenesShownTo
  refine gfold (σ := Int32 × Int32) (ρ := Option Int32) (fun n k z => L_X10_unlikeScenesShownTo_8 (fun x8_69 => some x8_69) gv a (lN (bm g 36)) n z.1 z.2 (nI k)) (fun z => some z.1) (tn T) (fun k => (nI (unK T (fun l => anyB (fun c => tG T l c && g c) 36) k), nI (bm (fun l => anyB (fun c => tG T l c && g c) 36) k))) ?_ ?_ gF 0 (by unfold gF; omega) (Nat.zero_le _)
  · intro n
    show L_X10_unlikeScenesShownTo_8 _ gv a _ (n + 1) _ _ (nI (tn T)) = _
    rw [L_X10_unlikeScenesShownTo_8.eq_2, h.f3]
    simp only [Option.bind_some]
    rw [if_pos (nI_le (Nat.le_refl _) (by omega))]
  · intro n k hk
    show L_X10_unlikeScenesShownTo_8 _ gv a _ (n + 1) (nI (unK T (fun l => anyB (fun c => tG T l c && g c) 36) k)) (nI (bm (fun l => anyB (fun c => tG T l c && g c) 36) k)) (nI k) = L_X10_unlikeScenesShownTo_8 _ gv a _ n (nI (unK T (fun l => anyB (fun c => tG T l c && g c) 36) (k + 1))) (nI (bm (fun l => anyB (fun c => tG T l c && g c) 36) (k + 1))) (nI (k + 1))
    rw [L_X10_unlikeScenesShownTo_8.eq_2, h.f3]
    simp only [Option.bind_some]
    rw [if_neg (by rw [nI_leI (by omega) (by omega)]; omega), h.o]
    simp only [Option.bind_some]
    rw [h.lampAt hT hk]
    simp only [Option.bind_some, h.glow hT hk]
    rw [lb_and, h.notOf hT (bm_i (by omega)) hk]
    simp only [Option.bind_some]
    have hsu : unK T (fun l => anyB (fun c => tG T l c && g c) 36) (k + 1) = unK T (fun l => anyB (fun c => tG T l c && g c) 36) k + (if anyB (fun c => tG T k c && g c) 36 = true then cnt (fun i => !anyB (fun m => (decide (m < k) && anyB (fun c => tG T m c && g c) 36) && hasT T m (tm T k i) (tw T k i) (tx T k i)) (tn T)) (tS T k) else 0) := rfl
    have hcmp : lg_cmp (lN (bm (fun c => tG T k c && g c) 36)) 0 = 0 ↔ anyB (fun c => tG T k c && g c) 36 = false := by
      rw [lg_cmp_0, lN_0_iff (Nat.lt_trans (bm_lt _ 36) (by decide)), bm_zero]
      constructor
      · intro hz
        cases hq : anyB (fun c => tG T k c && g c) 36 with
        | false => rfl
        | true =>
          obtain ⟨c, c1, c2⟩ := anyB_iff.mp hq
          rw [hz c c1] at c2
          cases c2
      · intro hz c hc
        cases hq : tG T k c && g c with
        | false => rfl
        | true => rw [anyB_iff.mpr ⟨c, hc, hq⟩] at hz; cases hz
    rw [hsu, ← ib_or (fun l => anyB (fun c => tG T l c && g c) 36) (show k < 31 by omega), nI_1]
    have hcs : cnt (fun i => !anyB (fun m => (bm (fun l => anyB (fun c => tG T l c && g c) 36) k).testBit m && hasT T m (tm T k i) (tw T k i) (tx T k i)) (tn T)) (tS T k) = cnt (fun i => !anyB (fun m => (decide (m < k) && anyB (fun c => tG T m c && g c) 36) && hasT T m (tm T k i) (tw T k i) (tx T k i)) (tn T)) (tS T k) := by
      refine cnt_cong (fun i _ => ?_)
      congr 1
      refine anyB_cong (fun m _ => ?_)
      rw [bm_tb]
    cases hsh : anyB (fun c => tG T k c && g c) 36 with
    | true =>
      rw [if_neg (fun e => by rw [hcmp.mp e] at hsh; cases hsh), if_pos rfl, hcs, ← nI_add (unK _ _ _)]
      rfl
    | false =>
      rw [if_pos (hcmp.mpr hsh), if_neg (by decide), if_neg (by decide), Int32.or_zero]
      rfl
end
section
variable {T : TS} {wa ka la ra li sa wh ce mi st : Nat → Int32}
/-- what makes a scene a told one -/
def tdB (T : TS) (sh : Nat → Bool) (l i q : Nat) : Bool := ((decide (q / 9 < tn T) && decide (q % 9 < tS T (q / 9))) && sh (q / 9)) && ((decide (tw T (q / 9) (q % 9) = tw T l i) && decide (tx T (q / 9) (q % 9) = tx T l i)) && decide (tm T (q / 9) (q % 9) = tm T l i))
theorem tdB_any (hT : TOK T) {sh : Nat → Bool} {l i : Nat} (hl : l < tn T) (hi : i < tS T l) : anyB (tdB T sh l i) (9 * l + i) = anyB (fun m => (decide (m < l) && sh m) && hasT T m (tm T l i) (tw T l i) (tx T l i)) (tn T) := by
  have h9 := hT.s9 hl
  have to : ∀ b c : Bool, (b = true ↔ c = true) → b = c := by
    intro b c h
    cases b <;> cases c <;> simp at h ⊢
  refine to _ _ ?_
  rw [anyB_iff, anyB_iff]
  constructor
  · rintro ⟨q, q1, q2⟩
    unfold tdB at q2
    simp only [Bool.and_eq_true, decide_eq_true_eq] at q2
    obtain ⟨⟨⟨a1, a2⟩, a3⟩, ⟨a4, a5⟩, a6⟩ := q2
    have hlt : q / 9 < l := by
      rcases Nat.lt_or_ge (q / 9) l with g | g
      · exact g
      · have e : q / 9 = l := by omega
        rw [e] at a2 a6
        have e2 := hT.mono hl a2 hi a6
        omega
    exact ⟨q / 9, a1, by simp only [Bool.and_eq_true, decide_eq_true_eq]; exact ⟨⟨hlt, a3⟩, (hasT_iff hT a1).mpr ⟨q % 9, a2, a6, a4, a5⟩⟩⟩
  · rintro ⟨m, m1, m2⟩
    simp only [Bool.and_eq_true, decide_eq_true_eq] at m2
    obtain ⟨⟨a1, a2⟩, a3⟩ := m2
    obtain ⟨j, j1, j2, j3, j4⟩ := (hasT_iff hT m1).mp a3
    have h92 := hT.s9 m1
    have e1 : (9 * m + j) / 9 = m := by omega
    have e2 : (9 * m + j) % 9 = j := by omega
    refine ⟨9 * m + j, by omega, ?_⟩
    unfold tdB
    rw [e1, e2]
    simp [m1, j1, a2, j2, j3, j4]
theorem xtold_ok (hT : TOK T) (hR : RT T wa ka la ra li sa wh ce mi st) {sh : Nat → Bool} {l i : Nat} (hl : l < tn T) (hi : i < tS T l) : f_X12_isTold sa wh ce mi (nI (tn T)) (nI (9 * l + i)) (nI (bm sh (tn T))) = some (if anyB (tdB T sh l i) (9 * l + i) = true then 1 else 0) := by
  have hn : tn T ≤ 6 := hT.2.2.1
  have h9 := hT.s9 hl
  have h54 : 9 * l + i < 54 := by omega
  obtain ⟨r1, r2, r3⟩ := hR.sc hl hi
  obtain ⟨v1, v2, v3⟩ := hT.sc hl hi
  unfold f_X12_isTold
  refine (gfirst (fun n k => L_X12_isTold_2 (fun x2_90 => some 1) (fun x2_98 => some 0) sa wh ce mi (nI (tn T)) (nI (9 * l + i)) (nI (bm sh (tn T))) n (nI k)) (fun _ => some (1 : Int32)) (some 0) (9 * l + i) (tdB T sh l i) ?_ ?_ gF 0 (by unfold gF; omega) (Nat.zero_le _) (fun j hj => by omega)).trans (fst1_any _ _)
  · intro n
    show L_X12_isTold_2 _ _ sa wh ce mi _ _ _ (n + 1) (nI (9 * l + i)) = _
    rw [L_X12_isTold_2.eq_2, if_pos (nI_le (Nat.le_refl _) (by omega))]
  · intro n q hq
    show L_X12_isTold_2 _ _ sa wh ce mi _ _ _ (n + 1) (nI q) = _
    have hq6 : q / 9 < 6 := by omega
    rw [L_X12_isTold_2.eq_2, if_neg (by rw [nI_leI (by omega) (by omega)]; omega)]
    rw [show (9 : Int32) = nI 9 from rfl, pk_rem (show q < 2 ^ 31 by omega) (by decide) (by decide), pk_div (show q < 2 ^ 31 by omega) (by decide) (by decide), nI_1]
    by_cases c1 : q / 9 < tn T
    · rw [if_neg (by rw [nI_leI (by omega) (by omega)]; omega), gix_ok hq6 (by decide), nI_clamp (show q / 9 < 2 ^ 31 by omega), (hR.2.2 _ c1).2.2.2.2.1]
      have hs9 := hT.s9 c1
      by_cases c2 : q % 9 < tS T (q / 9)
      · rw [if_neg (by rw [nI_leI (by omega) (by omega)]; omega), xhas_ok (bm_i (by omega)) (by omega), bm_tb]
        simp only [Option.bind_some]
        have eq : 9 * (q / 9) + q % 9 = q := by omega
        obtain ⟨g1, g2, g3⟩ := hR.sc c1 c2
        obtain ⟨w1, w2, w3⟩ := hT.sc c1 c2
        rw [eq] at g1 g2 g3
        simp only [gix_ok (show q < 54 by omega) (show 54 < 2 ^ 31 by decide), gix_ok h54 (show 54 < 2 ^ 31 by decide), nI_clamp (show q < 2 ^ 31 by omega), nI_clamp (show 9 * l + i < 2 ^ 31 by omega), g1, g2, g3, r1, r2, r3]
        unfold tdB
        cases c3 : sh (q / 9) with
        | false =>
          rw [if_pos (by simp)]
          simp
        | true =>
          rw [if_neg (by simp [c1])]
          by_cases c4 : tw T (q / 9) (q % 9) = tw T l i
          · rw [if_pos (by rw [c4])]
            by_cases c5 : tx T (q / 9) (q % 9) = tx T l i
            · rw [if_pos (by rw [c5])]
              by_cases c6 : tm T (q / 9) (q % 9) = tm T l i
              · rw [if_pos (by rw [c6])]
                simp [c1, c2, c4, c5, c6]
              · rw [if_neg (by rw [nI_eq (by omega) (by omega)]; exact c6)]
                simp [c6]
            · rw [if_neg (by rw [nI_eq (by omega) (by omega)]; exact c5)]
              simp [c5]
          · rw [if_neg (by rw [nI_eq (by omega) (by omega)]; exact c4)]
            simp [c4]
      · rw [if_pos (nI_le (by omega) (by omega))]
        unfold tdB
        simp [c2]
    · rw [if_pos (nI_le (by omega) (by omega))]
      unfold tdB
      simp [c1]
theorem xun18_ok (hT : TOK T) (hR : RT T wa ka la ra li sa wh ce mi st) {α : Type} {K : Int32 → Option α} {sh : Nat → Bool} {l v : Nat} (hl : l < tn T) : L_X12_unlikeOf_18 K sa wh ce mi (nI (tn T)) (nI (bm sh (tn T))) (nI l) gF (nI v) (9 * nI l) = K (nI (v + (if sh l = true then cnt (fun i => !anyB (fun m => (decide (m < l) && sh m) && hasT T m (tm T l i) (tw T l i) (tx T l i)) (tn T)) (tS T l) else 0))) := by
  have hn : tn T ≤ 6 := hT.2.2.1
  have h9 := hT.s9 hl
  have hsa := (hR.2.2 l hl).2.2.2.2.1
  have h6 : l < 6 := by omega
  have hhas : f_X12_has (nI (bm sh (tn T))) (nI l) = some (if sh l = true then 1 else 0) := by
    rw [xhas_ok (bm_i (by omega)) (by omega), bm_tb]
    simp [hl]
  rw [i9]
  cases hsh : sh l with
  | false =>
    rw [hsh] at hhas
    rw [show gF = 999 + 1 from rfl, L_X12_unlikeOf_18.eq_2, gix_ok h6 (by decide), hhas]
    simp only [Option.bind_some, Bool.false_eq_true, if_false, if_true, Nat.add_zero]
    split <;> rfl
  | true =>
    rw [hsh] at hhas
    have hhas : f_X12_has (nI (bm sh (tn T))) (nI l) = some 1 := hhas
    rw [if_pos rfl]
    refine gfold (σ := Int32) (ρ := Option α) (fun n k z => L_X12_unlikeOf_18 K sa wh ce mi (nI (tn T)) (nI (bm sh (tn T))) (nI l) n z (nI (9 * l + k))) K (tS T l) (fun k => nI (v + cnt (fun i => !anyB (fun m => (decide (m < l) && sh m) && hasT T m (tm T l i) (tw T l i) (tx T l i)) (tn T)) k)) ?_ ?_ gF 0 (by unfold gF; omega) (Nat.zero_le _)
    · intro n
      show L_X12_unlikeOf_18 K sa wh ce mi _ _ (nI l) (n + 1) _ (nI (9 * l + tS T l)) = _
      rw [L_X12_unlikeOf_18.eq_2, gix_ok h6 (by decide), nI_clamp (show l < 2 ^ 31 by omega), hsa, i9, nI_add, if_pos (nI_le (Nat.le_refl _) (by omega))]
    · intro n k hk
      show L_X12_unlikeOf_18 K sa wh ce mi _ _ (nI l) (n + 1) (nI (v + cnt (fun i => !anyB (fun m => (decide (m < l) && sh m) && hasT T m (tm T l i) (tw T l i) (tx T l i)) (tn T)) k)) (nI (9 * l + k)) = L_X12_unlikeOf_18 K sa wh ce mi _ _ (nI l) n (nI (v + cnt (fun i => !anyB (fun m => (decide (m < l) && sh m) && hasT T m (tm T l i) (tw T l i) (tx T l i)) (tn T)) (k + 1))) (nI (9 * l + (k + 1)))
      rw [L_X12_unlikeOf_18.eq_2, gix_ok h6 (by decide), nI_clamp (show l < 2 ^ 31 by omega), hsa, i9, nI_add, if_neg (by rw [nI_leI (by omega) (by omega)]; omega), hhas]
      simp only [Option.bind_some]
      rw [if_neg (show ¬ (1 : Int32) = 0 by decide), xtold_ok hT hR hl hk, tdB_any hT hl hk]
      simp only [Option.bind_some]
      have hsu : cnt (fun i => !anyB (fun m => (decide (m < l) && sh m) && hasT T m (tm T l i) (tw T l i) (tx T l i)) (tn T)) (k + 1) = cnt (fun i => !anyB (fun m => (decide (m < l) && sh m) && hasT T m (tm T l i) (tw T l i) (tx T l i)) (tn T)) k + (if (!anyB (fun m => (decide (m < l) && sh m) && hasT T m (tm T l k) (tw T l k) (tx T l k)) (tn T)) = true then 1 else 0) := rfl
      rw [hsu, nI_1, ← Nat.add_assoc v, ← nI_add (v + _)]
      cases anyB (fun m => (decide (m < l) && sh m) && hasT T m (tm T l k) (tw T l k) (tx T l k)) (tn T) <;> rfl
theorem xunlike_ok (hT : TOK T) (hR : RT T wa ka la ra li sa wh ce mi st) {sh : Nat → Bool} : f_X12_unlikeOf sa wh ce mi (nI (tn T)) (nI (bm sh (tn T))) = some (nI (unK T sh (tn T))) := by
  have hn : tn T ≤ 6 := hT.2.2.1
  unfold f_X12_unlikeOf
  refine gfold (σ := Int32) (ρ := Option Int32) (fun n k z => L_X12_unlikeOf_4 (fun x4_72 => some x4_72) sa wh ce mi (nI (tn T)) (nI (bm sh (tn T))) n z (nI k)) some (tn T) (fun k => nI (unK T sh k)) ?_ ?_ gF 0 (by unfold gF; omega) (Nat.zero_le _)
  · intro n
    show L_X12_unlikeOf_4 _ sa wh ce mi _ _ (n + 1) _ (nI (tn T)) = _
    rw [L_X12_unlikeOf_4.eq_2, if_pos (nI_le (Nat.le_refl _) (by omega))]
  · intro n k hk
    show L_X12_unlikeOf_4 _ sa wh ce mi _ _ (n + 1) (nI (unK T sh k)) (nI k) = L_X12_unlikeOf_4 _ sa wh ce mi _ _ n (nI (unK T sh (k + 1))) (nI (k + 1))
    rw [L_X12_unlikeOf_4.eq_2, if_neg (by rw [nI_leI (by omega) (by omega)]; omega), xun18_ok hT hR hk, nI_1]
    rfl
end
