/-! THE CLASS'S TOWN -/
def CT (gv : Nat → GV) (a : Nat) (T : TS) (la pa : Nat) (fl : Nat → Option Nat) (pf : Nat → Int32) (LA SA : Nat → Nat) (sf : Nat → Nat → Int32) : Prop := gv a = .inl (8, [.ref la, .ref pa, .long (lN (bm (tW T) 36)), .int (nI (tn T)), .int (nI (tp T)), .int (nI (tM T))]) ∧ gv la = .inr (.inr (6, fl)) ∧ gv pa = .inr (.inl (4, pf)) ∧ (∀ p, p < tp T → pf p = nI (tP T p)) ∧ ∀ l, l < tn T → fl l = some (LA l) ∧ Lp gv (LA l) (SA l) (tK T l) (tC T l) (tR T l) (tL T l) (tS T l) (sf l) ∧ ∀ k, k < tS T l → sf l k = nI (tm T l k * 1000 + tx T l k * 10 + tw T l k)
section
variable {gv : Nat → GV} {a la pa : Nat} {T : TS} {fl : Nat → Option Nat} {pf : Nat → Int32} {LA SA : Nat → Nat} {sf : Nat → Nat → Int32}
theorem CT.o (h : CT gv a T la pa fl pf LA SA sf) : gfO gv a [8] = some (8, [.ref la, .ref pa, .long (lN (bm (tW T) 36)), .int (nI (tn T)), .int (nI (tp T)), .int (nI (tM T))]) := gfO_of h.1 (by decide)
theorem CT.f0 (h : CT gv a T la pa fl pf LA SA sf) : gfR gv a [8] 0 = some (some la) := gfR_of h.1 (by decide) rfl
theorem CT.f1 (h : CT gv a T la pa fl pf LA SA sf) : gfR gv a [8] 1 = some (some pa) := gfR_of h.1 (by decide) rfl
theorem CT.f2 (h : CT gv a T la pa fl pf LA SA sf) : gfJ gv a [8] 2 = some (lN (bm (tW T) 36)) := gfJ_of h.1 (by decide) rfl
theorem CT.f3 (h : CT gv a T la pa fl pf LA SA sf) : gfI gv a [8] 3 = some (nI (tn T)) := gfI_of h.1 (by decide) rfl
theorem CT.f4 (h : CT gv a T la pa fl pf LA SA sf) : gfI gv a [8] 4 = some (nI (tp T)) := gfI_of h.1 (by decide) rfl
theorem CT.f5 (h : CT gv a T la pa fl pf LA SA sf) : gfI gv a [8] 5 = some (nI (tM T)) := gfI_of h.1 (by decide) rfl
theorem CT.sc (h : CT gv a T la pa fl pf LA SA sf) (hT : TOK T) {l : Nat} (hl : l < tn T) : Sc (sf l) (tS T l) (tw T l) (tx T l) (tm T l) := by
  obtain ⟨k1, k2, k3, k4, k5, k6⟩ := hT.2.2.2.2.2.2 l hl
  have hM : tM T ≤ 9999 := hT.2.2.2.2.1
  have h9 := keepN_le (tK T l)
  refine ⟨by omega, fun k hk => ?_⟩
  obtain ⟨j1, j2, j3⟩ := k5 k hk
  exact ⟨(h.2.2.2.2 l hl).2.2 k hk, j1, j2, by omega⟩
theorem CT.lp (h : CT gv a T la pa fl pf LA SA sf) {l : Nat} (hl : l < tn T) : Lp gv (LA l) (SA l) (tK T l) (tC T l) (tR T l) (tL T l) (tS T l) (sf l) := (h.2.2.2.2 l hl).2.1
theorem CT.lampAt (h : CT gv a T la pa fl pf LA SA sf) (hT : TOK T) {l : Nat} (hl : l < tn T) : f_X10_lampAt gv a (nI l) = some (some (LA l)) := by
  have hn : tn T ≤ 6 := hT.2.2.1
  unfold f_X10_lampAt
  have n1 : ¬ nI l < 0 := nI_pos (by omega)
  have n2 : ¬ nI (tn T) ≤ nI l := by rw [nI_leI (by omega) (by omega)]; omega
  have n3 : ¬ nI 6 ≤ nI l := by rw [nI_leI (by omega) (by omega)]; omega
  simp only [n1, n2, n3, h.f3, h.f0, garl_of h.2.1, gari_of h.2.1 (show l < 6 by omega) (by decide), (h.2.2.2.2 l hl).1, if_false, Option.bind_some]
theorem CT.lampNo (h : CT gv a T la pa fl pf LA SA sf) {v : Int32} (hv : v < 0 ∨ nI (tn T) ≤ v) : f_X10_lampAt gv a v = some none := by
  unfold f_X10_lampAt
  by_cases h0 : v < 0
  · simp only [h0, if_true, Option.bind_some]
  · simp only [h0, hv.resolve_left h0, h.f3, if_true, if_false, Option.bind_some]
theorem CT.cellOf (h : CT gv a T la pa fl pf LA SA sf) (hT : TOK T) {p : Nat} (hp : p < tp T) : f_X10_cellOf gv a (nI p) = some (nI (tP T p)) := by
  have hn : tp T ≤ 4 := hT.2.2.2.1
  unfold f_X10_cellOf
  have n1 : ¬ nI p < 0 := nI_pos (by omega)
  have n2 : ¬ nI (tp T) ≤ nI p := by rw [nI_leI (by omega) (by omega)]; omega
  have n3 : ¬ nI 4 ≤ nI p := by rw [nI_leI (by omega) (by omega)]; omega
  have n4 : ¬ (1 : Int32) = 0 := by decide
  simp only [n1, n2, n3, n4, h.f4, h.f1, gal_of h.2.2.1, gai_of h.2.2.1 (show p < 4 by omega) (by decide), h.2.2.2.1 p hp, if_false, Option.bind_some]
theorem CT.cellNo (h : CT gv a T la pa fl pf LA SA sf) {v : Int32} (hv : v < 0 ∨ nI (tp T) ≤ v) : f_X10_cellOf gv a v = some (-9) := by
  unfold f_X10_cellOf
  by_cases h0 : v < 0
  · simp only [h0, if_true, Option.bind_some]
  · simp only [h0, hv.resolve_left h0, h.f4, if_true, if_false, Option.bind_some]
theorem CT.isPerson (h : CT gv a T la pa fl pf LA SA sf) (hT : TOK T) (v : Int32) : f_X10_isPerson gv a v = some (if v < 0 then 0 else if nI (tp T) ≤ v then 0 else 1) := by
  unfold f_X10_isPerson
  by_cases h0 : v < 0
  · simp only [h0, if_true, Option.bind_some, gzb_0]
  · by_cases h1 : nI (tp T) ≤ v
    · simp only [h0, h1, h.f4, if_true, if_false, Option.bind_some, gzb_0]
    · simp only [h0, h1, h.f4, if_true, if_false, Option.bind_some, gzb_1]
theorem CT.free (h : CT gv a T la pa fl pf LA SA sf) : f_X10_free gv a = some (lN (bm (tF T) 36)) := by
  unfold f_X10_free
  rw [h.f2]
  simp only [Option.bind_some]
  rw [lb_all, lb_andN]
  congr 2
theorem CT.cellNow (h : CT gv a T la pa fl pf LA SA sf) (hT : TOK T) {l : Nat} (hl : l < tn T) : fv_X5_cellNow gv (LA l) (some a) = some (nI (tN T l)) := by
  have hlp := h.lp hl
  obtain ⟨k1, k2, -⟩ := hT.2.2.2.2.2.2 l hl
  have hp4 : tp T ≤ 4 := hT.2.2.2.1
  have own : f_X5_cellNow gv (LA l) (some a) = some (nI (tC T l)) := by
    unfold f_X5_cellNow
    rw [hlp.f0]
    rfl
  unfold fv_X5_cellNow
  rw [hlp.fO]
  simp only [Option.bind_some]
  by_cases h3 : tK T l = 3
  · have e : kc (tK T l) = 1 := by rw [h3]; rfl
    rw [e]
    show f_X1_cellNow gv (LA l) (some a) = _
    unfold f_X1_cellNow tN
    simp only [hlp.f0, h.o, Option.bind_some]
    rw [show (4 : Int32) = nI 4 from rfl, pk_rem (by omega) (by decide) (by decide)]
    have hm : tC T l % 4 < 4 := Nat.mod_lt _ (by decide)
    by_cases h4 : tC T l % 4 < tp T
    · rw [h.cellOf hT h4, if_pos ⟨h3, h4⟩]
      simp only [Option.bind_some]
      rw [if_pos (nI_pos' (by have := (hT.2.2.2.2.2.1 _ h4).1; omega))]
      rfl
    · rw [h.cellNo (Or.inr (nI_le (by omega) (by omega))), if_neg (fun g => h4 g.2)]
      simp only [Option.bind_some]
      rw [if_neg (by decide)]
      rfl
  · have e : tN T l = tC T l := by unfold tN; rw [if_neg (fun g => h3 g.1)]
    rw [e]
    rcases k7 k1 with g | g | g | g | g | g | g
    · rw [g]; exact own
    · rw [g]; exact own
    · rw [g]; exact own
    · exact absurd g h3
    · rw [g]; exact own
    · rw [g]; exact own
    · rw [g]; exact own
theorem CT.glow (h : CT gv a T la pa fl pf LA SA sf) (hT : TOK T) {l : Nat} (hl : l < tn T) : fv_X5_glow gv (LA l) (some a) = some (lN (bm (tG T l) 36)) := by
  have hlp := h.lp hl
  obtain ⟨-, -, k3, -⟩ := hT.2.2.2.2.2.2 l hl
  unfold fv_X5_glow
  rw [hlp.fO]
  simp only [Option.bind_some]
  unfold f_X5_glow
  simp only [h.cellNow hT hl, hlp.f1, h.o, h.free, Option.bind_some]
  rw [within_b fr36 (tN_lt hT hl) (by omega)]
  rfl
theorem CT.litLamps (h : CT gv a T la pa fl pf LA SA sf) (hT : TOK T) : f_X10_litLamps gv a = some (nI (bm (tL T) (tn T))) := by
  unfold f_X10_litLamps
  have hn : tn T ≤ 6 := hT.2.2.1
  refine gfold (σ := Int32) (ρ := Option Int32) (fun n k z => L_X10_litLamps_4 (fun x4_41 => some x4_41) gv a n z (nI k)) some (tn T) (fun k => nI (bm (tL T) k)) ?_ ?_ gF 0 (by unfold gF; omega) (Nat.zero_le _)
  · intro n
    show L_X10_litLamps_4 _ gv a (n + 1) _ (nI (tn T)) = _
    rw [L_X10_litLamps_4.eq_2, h.f3]
    simp only [Option.bind_some]
    rw [if_pos (nI_le (Nat.le_refl _) (by omega))]
  · intro n k hk
    show L_X10_litLamps_4 _ gv a (n + 1) (nI (bm (tL T) k)) (nI k) = L_X10_litLamps_4 _ gv a n (nI (bm (tL T) (k + 1))) (nI (k + 1))
    rw [L_X10_litLamps_4.eq_2, h.f3]
    simp only [Option.bind_some]
    rw [if_neg (by rw [nI_leI (by omega) (by omega)]; omega), h.o]
    simp only [Option.bind_some]
    rw [h.lampAt hT hk]
    simp only [Option.bind_some, (h.lp hk).f2]
    rw [← ib_or (tL T) (show k < 31 by omega), nI_1]
    cases tL T k with
    | true =>
      rw [if_neg (show ¬ (if true = true then (1 : Int32) else 0) = 0 by decide), if_pos rfl]
      rfl
    | false =>
      rw [if_pos (show (if false = true then (1 : Int32) else 0) = 0 by decide), if_neg (by decide), Int32.or_zero]
      rfl
theorem CT.glowOf (h : CT gv a T la pa fl pf LA SA sf) (hT : TOK T) {s : Nat} (hs : s < 2 ^ 31) : f_X10_glowOf gv a (nI s) = some (lN (bm (gS T s) 36)) := by
  unfold f_X10_glowOf
  have hn : tn T ≤ 6 := hT.2.2.1
  have e0 : (0 : Int64) = lN (bm (fun c => anyB (fun l => s.testBit l && tG T l c) 0) 36) := lb_none
  rw [e0]
  refine gfold (σ := Int64) (ρ := Option Int64) (fun n k z => L_X10_glowOf_5 (fun x5_52 => some x5_52) gv a (nI s) n z (nI k)) some (tn T) (fun k => lN (bm (fun c => anyB (fun l => s.testBit l && tG T l c) k) 36)) ?_ ?_ gF 0 (by unfold gF; omega) (Nat.zero_le _)
  · intro n
    show L_X10_glowOf_5 _ gv a (nI s) (n + 1) _ (nI (tn T)) = _
    rw [L_X10_glowOf_5.eq_2, h.f3]
    simp only [Option.bind_some]
    rw [if_pos (nI_le (Nat.le_refl _) (by omega))]
  · intro n k hk
    show L_X10_glowOf_5 _ gv a (nI s) (n + 1) (lN (bm (fun c => anyB (fun l => s.testBit l && tG T l c) k) 36)) (nI k) = L_X10_glowOf_5 _ gv a (nI s) n (lN (bm (fun c => anyB (fun l => s.testBit l && tG T l c) (k + 1)) 36)) (nI (k + 1))
    rw [L_X10_glowOf_5.eq_2, h.f3]
    simp only [Option.bind_some]
    rw [if_neg (by rw [nI_leI (by omega) (by omega)]; omega), h.o]
    simp only [Option.bind_some]
    rw [h.lampAt hT hk]
    simp only [Option.bind_some, h.glow hT hk]
    have hsu : bm (fun c => anyB (fun l => s.testBit l && tG T l c) (k + 1)) 36 = bm (fun c => anyB (fun l => s.testBit l && tG T l c) k || (s.testBit k && tG T k c)) 36 := rfl
    rw [hsu, nI_1]
    cases hb : s.testBit k with
    | true =>
      rw [if_pos ((ib_bit1 hs (by omega)).mpr hb)]
      simp only [Option.bind_some, lb_or, Bool.true_and]
    | false =>
      rw [if_neg (fun g => by rw [(ib_bit1 hs (by omega)).mp g] at hb; cases hb)]
      simp only [Option.bind_some, Bool.false_and, Bool.or_false]
theorem i_m1 : (-1 : Int32) = nI (2 ^ 32 - 1) := by decide
theorem CT.litBut (h : CT gv a T la pa fl pf LA SA sf) (hT : TOK T) (t : Nat) : f_X10_litBut gv a (nI t) = some (lN (bm (gS T (bm (tL T) (tn T) &&& (t ^^^ (2 ^ 32 - 1)))) 36)) := by
  have hn : tn T ≤ 6 := hT.2.2.1
  unfold f_X10_litBut
  rw [h.o]
  simp only [Option.bind_some]
  rw [h.litLamps hT]
  simp only [Option.bind_some]
  rw [i_m1, fb_xorI, nx_and, h.glowOf hT (Nat.lt_of_le_of_lt Nat.and_le_left (bm_i (by omega)))]
  rfl
theorem and_full {n : Nat} (h : n < 2 ^ 32) : n &&& (0 ^^^ (2 ^ 32 - 1)) = n := by
  rw [Nat.zero_xor, Nat.and_two_pow_sub_one_eq_mod, Nat.mod_eq_of_lt h]
theorem CT.lit0 (h : CT gv a T la pa fl pf LA SA sf) (hT : TOK T) : f_X10_litBut gv a 0 = some (lN (bm (gS T (bm (tL T) (tn T))) 36)) := by
  have hn : tn T ≤ 6 := hT.2.2.1
  have h1 := h.litBut hT 0
  rw [and_full (by have := bm_i (p := tL T) (n := tn T) (by omega); omega)] at h1
  exact h1
theorem CT.peopled (h : CT gv a T la pa fl pf LA SA sf) (hT : TOK T) : f_X10_peopled gv a = some (lN (bm (fun c => anyB (fun p => decide (c = tP T p)) (tp T)) 36)) := by
  unfold f_X10_peopled
  have hn : tp T ≤ 4 := hT.2.2.2.1
  have e0 : (0 : Int64) = lN (bm (fun c => anyB (fun p => decide (c = tP T p)) 0) 36) := lb_none
  rw [e0]
  refine gfold (σ := Int64) (ρ := Option Int64) (fun n k z => L_X10_peopled_4 (fun x4_29 => some x4_29) gv a n z (nI k)) some (tp T) (fun k => lN (bm (fun c => anyB (fun p => decide (c = tP T p)) k) 36)) ?_ ?_ gF 0 (by unfold gF; omega) (Nat.zero_le _)
  · intro n
    show L_X10_peopled_4 _ gv a (n + 1) _ (nI (tp T)) = _
    rw [L_X10_peopled_4.eq_2, h.f4]
    simp only [Option.bind_some]
    rw [if_pos (nI_le (Nat.le_refl _) (by omega))]
  · intro n k hk
    show L_X10_peopled_4 _ gv a (n + 1) (lN (bm (fun c => anyB (fun p => decide (c = tP T p)) k) 36)) (nI k) = L_X10_peopled_4 _ gv a n (lN (bm (fun c => anyB (fun p => decide (c = tP T p)) (k + 1)) 36)) (nI (k + 1))
    rw [L_X10_peopled_4.eq_2, h.f4]
    simp only [Option.bind_some]
    rw [if_neg (by rw [nI_leI (by omega) (by omega)]; omega), h.o]
    simp only [Option.bind_some]
    rw [h.cellOf hT hk]
    simp only [Option.bind_some]
    rw [only_b (hT.2.2.2.2.2.1 k hk).1]
    simp only [Option.bind_some]
    rw [lb_or, nI_1]
    rfl
theorem CT.peopleOn (h : CT gv a T la pa fl pf LA SA sf) (hT : TOK T) (g : Nat → Bool) : f_X10_peopleOn gv a (lN (bm g 36)) = some (nI (bm (fun p => g (tP T p)) (tp T))) := by
  unfold f_X10_peopleOn
  have hn : tp T ≤ 4 := hT.2.2.2.1
  refine gfold (σ := Int32) (ρ := Option Int32) (fun n k z => L_X10_peopleOn_5 (fun x5_40 => some x5_40) gv a (lN (bm g 36)) n z (nI k)) some (tp T) (fun k => nI (bm (fun p => g (tP T p)) k)) ?_ ?_ gF 0 (by unfold gF; omega) (Nat.zero_le _)
  · intro n
    show L_X10_peopleOn_5 _ gv a _ (n + 1) _ (nI (tp T)) = _
    rw [L_X10_peopleOn_5.eq_2, h.f4]
    simp only [Option.bind_some]
    rw [if_pos (nI_le (Nat.le_refl _) (by omega))]
  · intro n k hk
    show L_X10_peopleOn_5 _ gv a _ (n + 1) (nI (bm (fun p => g (tP T p)) k)) (nI k) = L_X10_peopleOn_5 _ gv a _ n (nI (bm (fun p => g (tP T p)) (k + 1))) (nI (k + 1))
    rw [L_X10_peopleOn_5.eq_2, h.f4]
    simp only [Option.bind_some]
    rw [if_neg (by rw [nI_leI (by omega) (by omega)]; omega), h.o]
    simp only [Option.bind_some]
    rw [h.cellOf hT hk]
    simp only [Option.bind_some]
    rw [has_b (hT.2.2.2.2.2.1 k hk).1]
    simp only [Option.bind_some]
    rw [← ib_or (fun p => g (tP T p)) (show k < 31 by omega), nI_1]
    cases g (tP T k) with
    | true =>
      rw [if_neg (show ¬ (if true = true then (1 : Int32) else 0) = 0 by decide), if_pos rfl]
      rfl
    | false =>
      rw [if_pos (show (if false = true then (1 : Int32) else 0) = 0 by decide), if_neg (by decide), Int32.or_zero]
      rfl
/-- all scenes -/
def sumN (f : Nat → Nat) : Nat → Nat
  | 0 => 0
  | n + 1 => sumN f n + f n
theorem CT.allScenes (h : CT gv a T la pa fl pf LA SA sf) (hT : TOK T) : f_X10_allScenes gv a = some (nI (sumN (tS T) (tn T))) := by
  unfold f_X10_allScenes
  have hn : tn T ≤ 6 := hT.2.2.1
  refine gfold (σ := Int32) (ρ := Option Int32) (fun n k z => L_X10_allScenes_4 (fun x4_39 => some x4_39) gv a n z (nI k)) some (tn T) (fun k => nI (sumN (tS T) k)) ?_ ?_ gF 0 (by unfold gF; omega) (Nat.zero_le _)
  · intro n
    show L_X10_allScenes_4 _ gv a (n + 1) _ (nI (tn T)) = _
    rw [L_X10_allScenes_4.eq_2, h.f3]
    simp only [Option.bind_some]
    rw [if_pos (nI_le (Nat.le_refl _) (by omega))]
  · intro n k hk
    show L_X10_allScenes_4 _ gv a (n + 1) (nI (sumN (tS T) k)) (nI k) = L_X10_allScenes_4 _ gv a n (nI (sumN (tS T) (k + 1))) (nI (k + 1))
    rw [L_X10_allScenes_4.eq_2, h.f3]
    simp only [Option.bind_some]
    rw [if_neg (by rw [nI_leI (by omega) (by omega)]; omega), h.o]
    simp only [Option.bind_some]
    rw [h.lampAt hT hk]
    simp only [Option.bind_some, (h.lp hk).f3]
    rw [nI_add, nI_1]
    rfl
end
