/-! THE TOWN AS NUMBERS: walls; kinds, cells, ranges, lit, counts of scenes of the lamps; who, cell, minute of their scenes; the people's cells; lamps, people, minute -/
abbrev TS : Type := (Nat → Bool) × (Nat → Nat) × (Nat → Nat) × (Nat → Nat) × (Nat → Bool) × (Nat → Nat) × (Nat → Nat → Nat) × (Nat → Nat → Nat) × (Nat → Nat → Nat) × (Nat → Nat) × Nat × Nat × Nat
def tW (T : TS) : Nat → Bool := T.1
def tK (T : TS) : Nat → Nat := T.2.1
def tC (T : TS) : Nat → Nat := T.2.2.1
def tR (T : TS) : Nat → Nat := T.2.2.2.1
def tL (T : TS) : Nat → Bool := T.2.2.2.2.1
def tS (T : TS) : Nat → Nat := T.2.2.2.2.2.1
def tw (T : TS) : Nat → Nat → Nat := T.2.2.2.2.2.2.1
def tx (T : TS) : Nat → Nat → Nat := T.2.2.2.2.2.2.2.1
def tm (T : TS) : Nat → Nat → Nat := T.2.2.2.2.2.2.2.2.1
def tP (T : TS) : Nat → Nat := T.2.2.2.2.2.2.2.2.2.1
def tn (T : TS) : Nat := T.2.2.2.2.2.2.2.2.2.2.1
def tp (T : TS) : Nat := T.2.2.2.2.2.2.2.2.2.2.2.1
def tM (T : TS) : Nat := T.2.2.2.2.2.2.2.2.2.2.2.2
/-- how many scenes a kind keeps -/
def keepN (k : Nat) : Nat := if k = 2 then 0 else if k = 4 then 3 else 9
theorem keepN_le (k : Nat) : keepN k ≤ 9 := by unfold keepN; split <;> (try split) <;> omega
def TOK (T : TS) : Prop := (∀ c, tW T c = true → c < 36) ∧ cnt (tW T) 36 ≤ 18 ∧ tn T ≤ 6 ∧ tp T ≤ 4 ∧ tM T ≤ 9999 ∧ (∀ p, p < tp T → tP T p < 36 ∧ tW T (tP T p) = false) ∧ ∀ l, l < tn T → tK T l < 7 ∧ tC T l < 36 ∧ tR T l ≤ 5 ∧ tS T l ≤ keepN (tK T l) ∧ (∀ k, k < tS T l → tw T l k < 10 ∧ tx T l k < 36 ∧ tm T l k ≤ tM T) ∧ ∀ i j, i < j → j < tS T l → tm T l i < tm T l j
abbrev tF (T : TS) : Nat → Bool := fr (tW T)
/-- the cell of a lamp, and what it lights -/
def tN (T : TS) (l : Nat) : Nat := if tK T l = 3 ∧ tC T l % 4 < tp T then tP T (tC T l % 4) else tC T l
def tG (T : TS) (l c : Nat) : Bool := gl1 (tF T) (tN T l) (tR T l) c
theorem tN_lt {T : TS} (hT : TOK T) {l : Nat} (hl : l < tn T) : tN T l < 36 := by
  unfold tN
  split
  · rename_i h
    exact (hT.2.2.2.2.2.1 _ h.2).1
  · exact (hT.2.2.2.2.2.2 l hl).2.1
/-! THE REFERENCE'S ROWS -/
def RT (T : TS) (wa ka la ra li sa wh ce mi st : Nat → Int32) : Prop := (∀ c, c < 36 → wa c = if tW T c = true then 1 else 0) ∧ (∀ p, p < tp T → st p = nI (tP T p)) ∧ ∀ l, l < tn T → ka l = nI (tK T l) ∧ la l = nI (tC T l) ∧ ra l = nI (tR T l) ∧ (li l = if tL T l = true then 1 else 0) ∧ sa l = nI (tS T l) ∧ ∀ k, k < tS T l → wh (9 * l + k) = nI (tw T l k) ∧ ce (9 * l + k) = nI (tx T l k) ∧ mi (9 * l + k) = nI (tm T l k)
section
variable {T : TS} {wa ka la ra li sa wh ce mi st : Nat → Int32}
theorem RT_shut (hR : RT T wa ka la ra li sa wh ce mi st) {sh : Nat → Int32} (h : ∀ c, c < 36 → sh c = wa c) : ∀ c, c < 36 → tF T c = decide (sh c ≠ 1) := by
  intro c hc
  rw [h c hc, hR.1 c hc]
  unfold tF fr
  cases tW T c <;> simp [hc]
theorem xsteps_ok (hR : RT T wa ka la ra li sa wh ce mi st) {fa sh qu : Nat → Int32} {q : Int32} {a t : Nat} (ha : a < 36) (ht : t < 36) : ∃ fa' sh' qu' q', f_X12_stepsOf wa fa sh qu q (nI a) (nI t) = some (fa' t, fa', sh', qu', q') ∧ FarOK (tF T) a fa' := by
  unfold f_X12_stepsOf
  obtain ⟨sh', e1, h1⟩ := shuts_ok (wa := wa) (sh := sh)
  rw [e1]
  simp only [Option.bind_some]
  obtain ⟨fa', qu', q', e2, h2⟩ := findFar_ok (far := fa) (sh := sh') (qu := qu) (q0 := q) (RT_shut hR h1) fr36 ha
  rw [e2]
  simp only [Option.bind_some]
  rw [gix_ok ht (by decide), nI_clamp (by omega)]
  exact ⟨fa', sh', qu', q', rfl, h2⟩
theorem xcellOf_ok (hT : TOK T) (hR : RT T wa ka la ra li sa wh ce mi st) {l : Nat} (hl : l < tn T) : f_X12_cellOf ka la st (nI (tp T)) (nI l) = some (nI (tN T l)) := by
  obtain ⟨h1, h2, -⟩ := hR.2.2 l hl
  obtain ⟨k1, k2, -⟩ := hT.2.2.2.2.2.2 l hl
  have hn : tn T ≤ 6 := hT.2.2.1
  have hp : tp T ≤ 4 := hT.2.2.2.1
  have h6 : l < 6 := by omega
  unfold f_X12_cellOf tN
  simp only [gix_ok h6 (show 6 < 2 ^ 31 by decide), nI_clamp (show l < 2 ^ 31 by omega), h1, h2]
  rw [show (4 : Int32) = nI 4 from rfl, pk_rem (by omega) (by decide) (by decide)]
  have hm : tC T l % 4 < 4 := Nat.mod_lt _ (by decide)
  by_cases h3 : tK T l = 3
  · rw [if_pos (show nI (tK T l) = 3 by rw [h3]; rfl)]
    by_cases h4 : tC T l % 4 < tp T
    · rw [if_neg (by rw [nI_leI (by omega) (by omega)]; omega), if_pos ⟨h3, h4⟩, gix_ok hm (by decide), nI_clamp (by omega), hR.2.1 _ h4]
      rfl
    · rw [if_pos (nI_le (by omega) (by omega)), if_neg (fun h => h4 h.2)]
      rfl
  · rw [if_neg (show ¬ nI (tK T l) = 3 by rw [show (3 : Int32) = nI 3 from rfl, nI_eq (by omega) (by decide)]; exact h3), if_neg (fun h => h3 h.1)]
    rfl
theorem xlight_ok (hR : RT T wa ka la ra li sa wh ce mi st) {fa sh qu : Nat → Int32} {q : Int32} {a r : Nat} (ha : a < 36) (hr : r < 2 ^ 31) : ∃ fa' sh' qu' q', f_X12_findLight wa fa sh qu q (nI a) (nI r) = some (fa', sh', qu', q') ∧ ∀ c, c < 36 → (fa' c < 0 ↔ gl1 (tF T) a r c = false) := by
  unfold f_X12_findLight
  obtain ⟨sh', e1, h1⟩ := shuts_ok (wa := wa) (sh := sh)
  rw [e1]
  simp only [Option.bind_some]
  obtain ⟨fa1, qu', q', e2, h2⟩ := findFar_ok (far := fa) (sh := sh') (qu := qu) (q0 := q) (RT_shut hR h1) fr36 ha
  rw [e2]
  simp only [Option.bind_some]
  have main := gloop (σ := Nat → Int32) (ρ := Option ((Nat → Int32) × (Nat → Int32) × (Nat → Int32) × Int32)) (fun n k s => L_X12_findLight_11 (fun x11_74 => some (x11_74, sh', qu', q')) wa (nI a) (nI r) n (nI k) s) 36 (fun k s => (∀ c, c < k → (s c < 0 ↔ gl1 (tF T) a r c = false)) ∧ ∀ c, k ≤ c → s c = fa1 c) (fun x => ∃ fa', x = some (fa', sh', qu', q') ∧ ∀ c, c < 36 → (fa' c < 0 ↔ gl1 (tF T) a r c = false)) ?_ ?_ gF 0 fa1 (by decide) (by decide) ⟨fun c hc => by omega, fun c _ => rfl⟩
  · obtain ⟨fa', e3, h3⟩ := main
    exact ⟨fa', sh', qu', q', e3, h3⟩
  · intro n s hI
    refine ⟨s, ?_, hI.1⟩
    show L_X12_findLight_11 _ wa (nI a) (nI r) (n + 1) (nI 36) s = _
    rw [L_X12_findLight_11.eq_2, if_pos (by decide)]
  · intro n k s hk hI
    right
    obtain ⟨hI1, hI2⟩ := hI
    have put : ∀ j : Int32, (j < 0 ↔ gl1 (tF T) a r k = false) → ((∀ c, c < k + 1 → (upd s k j c < 0 ↔ gl1 (tF T) a r c = false)) ∧ ∀ c, k + 1 ≤ c → upd s k j c = fa1 c) := by
      intro j hj
      refine ⟨fun c hc => ?_, fun c hc => ?_⟩
      · by_cases hck : c = k
        · subst hck; rw [upd_s]; exact hj
        · rw [upd_n hck]; exact hI1 c (by omega)
      · rw [upd_n (by omega)]; exact hI2 c (by omega)
    have step : ∀ j : Int32, (if wa a = 1 then if nI k = nI a then some 0 else some (-9 : Int32) else gix (nI k) 36 (if s k ≤ nI r then gix (nI k) 36 (some (s k)) else some (-9 : Int32)) : Option Int32) = some j → L_X12_findLight_11 (fun x11_74 => some (x11_74, sh', qu', q')) wa (nI a) (nI r) (n + 1) (nI k) s = L_X12_findLight_11 (fun x11_74 => some (x11_74, sh', qu', q')) wa (nI a) (nI r) n (nI (k + 1)) (upd s k j) := by
      intro j hj
      rw [L_X12_findLight_11.eq_2, if_neg (by rw [show (36 : Int32) = nI 36 from rfl, nI_leI (by decide) (by omega)]; omega), gix_ok ha (by decide), nI_clamp (show a < 2 ^ 31 by omega), nI_clamp (show k < 2 ^ 31 by omega), hj]
      simp only [Option.bind_some]
      rw [gix_ok hk (by decide), nI_1]
    have hwa := hR.1 a ha
    cases hw : tW T a with
    | true =>
      rw [hw] at hwa
      have hwa1 : wa a = 1 := hwa
      have hfa : ¬ tF T a = true := by unfold tF fr; rw [hw]; simp
      have hl : gl1 (tF T) a r k = decide (k = a) := by unfold gl1; rw [if_neg hfa]
      by_cases hka : k = a
      · refine ⟨_, step 0 (by rw [if_pos hwa1, if_pos (by rw [hka])]), put 0 ?_⟩
        rw [hl, hka]; simp
      · refine ⟨_, step (-9) (by rw [if_pos hwa1, if_neg (by rw [nI_eq (by omega) (by omega)]; exact hka)]), put (-9) ?_⟩
        rw [hl]; simp [hka]
    | false =>
      rw [hw] at hwa
      have hwa1 : ¬ wa a = 1 := by rw [hwa]; decide
      have hfa : tF T a = true := by unfold tF fr; rw [hw]; simp [ha]
      have hl : gl1 (tF T) a r k = rch (tF T) (src (tF T) a) r k := by unfold gl1; rw [if_pos hfa]
      have hsk := hI2 k (Nat.le_refl k)
      rcases far_all h2 hk with ⟨d, d1, d2, d3⟩ | ⟨d1, d2⟩
      · by_cases hdr : d ≤ r
        · refine ⟨_, step (nI d) ?_, put (nI d) ?_⟩
          · rw [if_neg hwa1, gix_ok hk (by decide), gix_ok hk (by decide), hsk, d2, if_pos (nI_le hdr hr)]
          · rw [hl, d3]; simp [hdr, nI_pos (show d < 2 ^ 31 by omega)]
        · refine ⟨_, step (-9) ?_, put (-9) ?_⟩
          · rw [if_neg hwa1, gix_ok hk (by decide), gix_ok hk (by decide), hsk, d2, if_neg (by rw [nI_leI (by omega) hr]; exact hdr)]
          · rw [hl, d3]; simp [hdr]
      · refine ⟨_, step (-9) ?_, put (-9) ?_⟩
        · rw [if_neg hwa1, gix_ok hk (by decide), gix_ok hk (by decide), hsk, d1]
          split <;> rfl
        · rw [hl, d2]; simp
/-- what the row of lit cells says -/
def LitRow (T : TS) (lb : Nat → Int32) : Prop := ∀ c, c < 36 → lb c = nI (bm (fun l => tG T l c) (tn T))
theorem xlit2_ok {α : Type} {K : (Nat → Int32) → Option α} {lb : Nat → Int32} : ∃ lb', L_X12_findLit_2 K gF 0 lb = K lb' ∧ ∀ c, c < 36 → lb' c = nI 0 := by
  refine gloop (σ := Nat → Int32) (ρ := Option α) (fun n k s => L_X12_findLit_2 K n (nI k) s) 36 (fun k s => ∀ c, c < k → s c = nI 0) (fun r => ∃ lb', r = K lb' ∧ ∀ c, c < 36 → lb' c = nI 0) ?_ ?_ gF 0 lb (by decide) (by decide) (fun c hc => by omega)
  · intro n s hI
    refine ⟨s, ?_, hI⟩
    show L_X12_findLit_2 K (n + 1) (nI 36) s = _
    rw [L_X12_findLit_2.eq_2, if_pos (by decide)]
  · intro n k s hk hI
    right
    refine ⟨upd s k 0, ?_, fun c hc => ?_⟩
    · show L_X12_findLit_2 K (n + 1) (nI k) s = L_X12_findLit_2 K n (nI (k + 1)) _
      rw [L_X12_findLit_2.eq_2, if_neg (by rw [show (36 : Int32) = nI 36 from rfl, nI_leI (by decide) (by omega)]; omega), gix_ok hk (by decide), nI_clamp (by omega), nI_1]
    · by_cases hck : c = k
      · subst hck; rw [upd_s]; rfl
      · rw [upd_n hck]; exact hI c (by omega)
theorem xlit48_ok {α : Type} {K : (Nat → Int32) → Option α} {fa lb : Nat → Int32} {g : Nat → Nat → Bool} {l : Nat} (hl : l < 6) (hf : ∀ c, c < 36 → (fa c < 0 ↔ g l c = false)) (hb : ∀ c, c < 36 → lb c = nI (bm (fun l => g l c) l)) : ∃ lb', L_X12_findLit_48 K fa (nI l) gF 0 lb = K lb' ∧ ∀ c, c < 36 → lb' c = nI (bm (fun l => g l c) (l + 1)) := by
  refine gloop (σ := Nat → Int32) (ρ := Option α) (fun n k s => L_X12_findLit_48 K fa (nI l) n (nI k) s) 36 (fun k s => (∀ c, c < k → s c = nI (bm (fun l => g l c) (l + 1))) ∧ ∀ c, k ≤ c → s c = lb c) (fun r => ∃ lb', r = K lb' ∧ ∀ c, c < 36 → lb' c = nI (bm (fun l => g l c) (l + 1))) ?_ ?_ gF 0 lb (by decide) (by decide) ⟨fun c hc => by omega, fun c _ => rfl⟩
  · intro n s hI
    refine ⟨s, ?_, hI.1⟩
    show L_X12_findLit_48 K fa (nI l) (n + 1) (nI 36) s = _
    rw [L_X12_findLit_48.eq_2, if_pos (by decide)]
  · intro n k s hk hI
    right
    obtain ⟨hI1, hI2⟩ := hI
    have hv : (s k ||| (if fa k < 0 then 0 else (1 : Int32) <<< (nI l &&& 31))) = nI (bm (fun l => g l k) (l + 1)) := by
      rw [hI2 k (Nat.le_refl k), hb k hk, ← ib_or (fun l => g l k) (show l < 31 by omega)]
      congr 1
      cases hg : g l k with
      | false => rw [if_pos ((hf k hk).mpr hg), if_neg (by decide)]
      | true => rw [if_neg (fun h => by rw [(hf k hk).mp h] at hg; cases hg), if_pos rfl]
    refine ⟨upd s k (nI (bm (fun l => g l k) (l + 1))), ?_, fun c hc => ?_, fun c hc => ?_⟩
    · show L_X12_findLit_48 K fa (nI l) (n + 1) (nI k) s = L_X12_findLit_48 K fa (nI l) n (nI (k + 1)) _
      rw [L_X12_findLit_48.eq_2, if_neg (by rw [show (36 : Int32) = nI 36 from rfl, nI_leI (by decide) (by omega)]; omega), gix_ok hk (by decide), gix_ok hk (by decide), gix_ok hk (by decide), nI_clamp (show k < 2 ^ 31 by omega), hv, nI_1]
    · by_cases hck : c = k
      · subst hck; rw [upd_s]
      · rw [upd_n hck]; exact hI1 c (by omega)
    · rw [upd_n (by omega)]; exact hI2 c (by omega)
theorem xfindLit_ok (hT : TOK T) (hR : RT T wa ka la ra li sa wh ce mi st) {fa sh qu lb : Nat → Int32} {q : Int32} : ∃ fa' sh' qu' q' lb', f_X12_findLit wa ka la ra st (nI (tn T)) (nI (tp T)) fa sh qu q lb = some (fa', sh', qu', q', lb') ∧ LitRow T lb' := by
  unfold f_X12_findLit
  have hn : tn T ≤ 6 := hT.2.2.1
  obtain ⟨lb1, e1, h1⟩ := xlit2_ok (K := fun x2_21 => L_X12_findLit_23 (fun x23_91 => some (x23_91.1, x23_91.2.1, x23_91.2.2.1, x23_91.2.2.2.1, x23_91.2.2.2.2)) wa ka la ra st (nI (tn T)) (nI (tp T)) gF 0 fa sh qu q x2_21) (lb := lb)
  rw [e1]
  have main := gloop (σ := (Nat → Int32) × (Nat → Int32) × (Nat → Int32) × Int32 × (Nat → Int32)) (ρ := Option ((Nat → Int32) × (Nat → Int32) × (Nat → Int32) × Int32 × (Nat → Int32))) (fun n k s => L_X12_findLit_23 (fun x23_91 => some (x23_91.1, x23_91.2.1, x23_91.2.2.1, x23_91.2.2.2.1, x23_91.2.2.2.2)) wa ka la ra st (nI (tn T)) (nI (tp T)) n (nI k) s.1 s.2.1 s.2.2.1 s.2.2.2.1 s.2.2.2.2) (tn T) (fun k s => ∀ c, c < 36 → s.2.2.2.2 c = nI (bm (fun l => tG T l c) k)) (fun r => ∃ fa' sh' qu' q' lb', r = some (fa', sh', qu', q', lb') ∧ LitRow T lb') ?_ ?_ gF 0 (fa, sh, qu, q, lb1) (by unfold gF; omega) (Nat.zero_le _) h1
  · exact main
  · intro n s hI
    refine ⟨s.1, s.2.1, s.2.2.1, s.2.2.2.1, s.2.2.2.2, ?_, hI⟩
    show L_X12_findLit_23 _ wa ka la ra st (nI (tn T)) (nI (tp T)) (n + 1) (nI (tn T)) s.1 s.2.1 s.2.2.1 s.2.2.2.1 s.2.2.2.2 = _
    rw [L_X12_findLit_23.eq_2, if_pos (nI_le (Nat.le_refl _) (by omega))]
  · intro n k s hk hI
    right
    obtain ⟨-, -, h3, -⟩ := hR.2.2 k hk
    obtain ⟨-, -, k3, -⟩ := hT.2.2.2.2.2.2 k hk
    obtain ⟨fa', sh', qu', q', e2, h2⟩ := xlight_ok hR (fa := s.1) (sh := s.2.1) (qu := s.2.2.1) (q := s.2.2.2.1) (tN_lt hT hk) (show tR T k < 2 ^ 31 by omega)
    obtain ⟨lb', e3, h4⟩ := xlit48_ok (K := fun x48_85 => L_X12_findLit_23 (fun x23_91 => some (x23_91.1, x23_91.2.1, x23_91.2.2.1, x23_91.2.2.2.1, x23_91.2.2.2.2)) wa ka la ra st (nI (tn T)) (nI (tp T)) n (nI k + 1) fa' sh' qu' q' x48_85) (fa := fa') (lb := s.2.2.2.2) (g := tG T) (show k < 6 by omega) h2 hI
    refine ⟨(fa', sh', qu', q', lb'), ?_, h4⟩
    show L_X12_findLit_23 _ wa ka la ra st (nI (tn T)) (nI (tp T)) (n + 1) (nI k) s.1 s.2.1 s.2.2.1 s.2.2.2.1 s.2.2.2.2 = L_X12_findLit_23 _ wa ka la ra st (nI (tn T)) (nI (tp T)) n (nI (k + 1)) fa' sh' qu' q' lb'
    rw [L_X12_findLit_23.eq_2, if_neg (by rw [nI_leI (by omega) (by omega)]; omega), xcellOf_ok hT hR hk]
    simp only [Option.bind_some]
    rw [gix_ok (show k < 6 by omega) (by decide), nI_clamp (show k < 2 ^ 31 by omega), h3, e2]
    simp only [Option.bind_some]
    rw [e3, nI_1]
theorem xlitBits_ok (hT : TOK T) (hR : RT T wa ka la ra li sa wh ce mi st) : f_X12_litBits li (nI (tn T)) = some (nI (bm (tL T) (tn T))) := by
  unfold f_X12_litBits
  have hn : tn T ≤ 6 := hT.2.2.1
  refine gfold (σ := Int32) (ρ := Option Int32) (fun n k s => L_X12_litBits_4 (fun x4_29 => some x4_29) li (nI (tn T)) n s (nI k)) some (tn T) (fun k => nI (bm (tL T) k)) ?_ ?_ gF 0 (by unfold gF; omega) (Nat.zero_le _)
  · intro n
    show L_X12_litBits_4 _ li (nI (tn T)) (n + 1) _ (nI (tn T)) = _
    rw [L_X12_litBits_4.eq_2, if_pos (nI_le (Nat.le_refl _) (by omega))]
  · intro n k hk
    show L_X12_litBits_4 _ li (nI (tn T)) (n + 1) (nI (bm (tL T) k)) (nI k) = L_X12_litBits_4 _ li (nI (tn T)) n (nI (bm (tL T) (k + 1))) (nI (k + 1))
    rw [L_X12_litBits_4.eq_2, if_neg (by rw [nI_leI (by omega) (by omega)]; omega), gix_ok (show k < 6 by omega) (by decide), nI_clamp (show k < 2 ^ 31 by omega), (hR.2.2 k hk).2.2.2.1, ← ib_or (tL T) (show k < 31 by omega), nI_1]
    congr 2
    cases tL T k with
    | true => rfl
    | false =>
      simp only [Bool.false_eq_true, if_false]
      have h0 := pk_shlN (n := 0) (nI k &&& 31) k (s_l k (by omega)) (by omega)
      rw [Nat.zero_mul] at h0
      exact h0
/-- the cells that the lamps of a set light -/
def gS (T : TS) (s c : Nat) : Bool := anyB (fun l => s.testBit l && tG T l c) (tn T)
theorem xcells_ok (hT : TOK T) (hR : RT T wa ka la ra li sa wh ce mi st) {fa sh qu lb : Nat → Int32} {q : Int32} (s : Nat) : ∃ fa' sh' qu' q' lb', f_X12_cellsLitBy wa ka la ra st (nI (tn T)) (nI (tp T)) fa sh qu q lb (nI s) = some (nI (cnt (gS T s) 36), fa', sh', qu', q', lb') ∧ LitRow T lb' := by
  unfold f_X12_cellsLitBy
  have hn : tn T ≤ 6 := hT.2.2.1
  obtain ⟨fa', sh', qu', q', lb', e1, h1⟩ := xfindLit_ok hT hR (fa := fa) (sh := sh) (qu := qu) (q := q) (lb := lb)
  rw [e1]
  simp only [Option.bind_some]
  refine ⟨fa', sh', qu', q', lb', ?_, h1⟩
  refine gfold (σ := Int32) (ρ := Option (Int32 × (Nat → Int32) × (Nat → Int32) × (Nat → Int32) × Int32 × (Nat → Int32))) (fun n k x => L_X12_cellsLitBy_8 (fun x8_39 => some (x8_39, fa', sh', qu', q', lb')) lb' (nI s) n x (nI k)) (fun x => some (x, fa', sh', qu', q', lb')) 36 (fun k => nI (cnt (gS T s) k)) ?_ ?_ gF 0 (by decide) (by decide)
  · intro n
    show L_X12_cellsLitBy_8 _ lb' (nI s) (n + 1) _ (nI 36) = _
    rw [L_X12_cellsLitBy_8.eq_2, if_pos (by decide)]
  · intro n k hk
    show L_X12_cellsLitBy_8 _ lb' (nI s) (n + 1) (nI (cnt (gS T s) k)) (nI k) = L_X12_cellsLitBy_8 _ lb' (nI s) n (nI (cnt (gS T s) (k + 1))) (nI (k + 1))
    rw [L_X12_cellsLitBy_8.eq_2, if_neg (by rw [show (36 : Int32) = nI 36 from rfl, nI_leI (by decide) (by omega)]; omega), gix_ok hk (by decide), nI_clamp (show k < 2 ^ 31 by omega), h1 k hk, nx_and, nI_1]
    have hlt : bm (fun l => tG T l k) (tn T) &&& s < 2 ^ 31 := Nat.lt_of_le_of_lt Nat.and_le_left (bm_i (by omega))
    have e : (nI (bm (fun l => tG T l k) (tn T) &&& s) = 0) ↔ gS T s k = false := by
      unfold gS
      rw [anyB_and, show (0 : Int32) = nI 0 from rfl, nI_eq hlt (by decide)]
      simp
    have hc : cnt (gS T s) (k + 1) = cnt (gS T s) k + (if gS T s k = true then 1 else 0) := rfl
    cases hg : gS T s k with
    | false => rw [hg] at hc; rw [if_pos (e.mpr hg), hc, show (0 : Int32) = nI 0 from rfl, nI_add]; rfl
    | true => rw [hg] at hc; rw [if_neg (fun h => by rw [e.mp h] at hg; cases hg), hc, show (1 : Int32) = nI 1 from rfl, nI_add]; rfl
end
