section
variable {gv : Nat → GV} {M hx : Nat} {ow : Nat → Nat} {S : SS} {re wa ka la ra li sa wh ce mi st ta ke ro : Nat → Int32} {hi : Int32} {fa sh qu lb may : Nat → Int32} {q : Int32} {tl1 le1 lt1 : Nat → Int32} {at1 ss1 ik1 cu1 : Int32}
/-! THE LETTERS: forms of statements -/
def fmI (x : Nat) : Nat := if x = 98 then 3 else if x = 103 then 1 else if x = 108 then 0 else if x = 112 then 2 else if x = 115 then 3 else if x = 119 then 2 else 4
def fmL (f : Nat) : Nat := if f = 0 then 5 else if f = 1 then 4 else if f = 2 then 3 else if f = 3 then 2 else 0
def fmC (f i : Nat) : Nat := if i + 1 = fmL f then 59 else if f = 0 ∧ i = 0 then 107 else 100
def knB1 (x : Nat) : Bool := decide (x = 108) || decide (x = 100) || decide (x = 109) || decide (x = 99) || decide (x = 107) || decide (x = 111) || decide (x = 102)
def dgB (x : Nat) : Bool := decide (48 ≤ x) && decide (x ≤ 57)
def fitB (F x : Nat) : Bool := if F = 107 then knB1 x else if F = 100 then dgB x else decide (x = F)
def kdN (x : Nat) : Nat := if x = 108 then 0 else if x = 100 then 1 else if x = 109 then 2 else if x = 99 then 3 else if x = 107 then 4 else if x = 111 then 5 else 6
def badP (c : Nat → Nat) (p : Nat) : Option Nat := if fmI (c p) = 4 then some p else match fst1 (fun i => !fitB (fmC (fmI (c p)) i) (c (p + 1 + i))) (fmL (fmI (c p))) with
  | some i => some (p + 1 + i)
  | none => none
def nxP (c : Nat → Nat) (p : Nat) : Nat := p + 1 + fmL (fmI (c p))
def posF (c : Nat → Nat) : Nat → Nat
  | 0 => 0
  | k + 1 => nxP c (posF c k)
def dgN (c : Nat → Nat) (p : Nat) : Nat := c p - 48
def celN (c : Nat → Nat) (p : Nat) : Nat := dgN c p * 10 + dgN c (p + 1)
def tcN (n : Nat) (L : Nat → Nat) (k : Nat) : Nat := if k < n then L k else 300
theorem fmI_le (x : Nat) : fmI x ≤ 4 := by
  unfold fmI
  repeat' split
  all_goals omega
theorem fmI_l (x : Nat) : fmI x = 4 ∨ (fmL (fmI x) = 5 ∧ x = 108) ∨ (fmL (fmI x) = 4 ∧ x = 103) ∨ (fmL (fmI x) = 3 ∧ (x = 112 ∨ x = 119)) ∨ (fmL (fmI x) = 2 ∧ (x = 98 ∨ x = 115)) := by
  by_cases a1 : x = 98
  · subst a1; decide
  · by_cases a2 : x = 103
    · subst a2; decide
    · by_cases a3 : x = 108
      · subst a3; decide
      · by_cases a4 : x = 112
        · subst a4; decide
        · by_cases a5 : x = 115
          · subst a5; decide
          · by_cases a6 : x = 119
            · subst a6; decide
            · left
              unfold fmI
              rw [if_neg a1, if_neg a2, if_neg a3, if_neg a4, if_neg a5, if_neg a6]
theorem badP_none {c : Nat → Nat} {p : Nat} (h : badP c p = none) : fmI (c p) ≠ 4 ∧ ∀ i, i < fmL (fmI (c p)) → fitB (fmC (fmI (c p)) i) (c (p + 1 + i)) = true := by
  unfold badP at h
  by_cases e : fmI (c p) = 4
  · rw [if_pos e] at h; cases h
  · rw [if_neg e] at h
    refine ⟨e, fun i hi => ?_⟩
    cases hq : fst1 (fun i => !fitB (fmC (fmI (c p)) i) (c (p + 1 + i))) (fmL (fmI (c p))) with
    | some j => rw [hq] at h; cases h
    | none =>
      cases hf : fitB (fmC (fmI (c p)) i) (c (p + 1 + i)) with
      | true => rfl
      | false => exact absurd hq (fst1_ne hi (by simp [hf]))
/-- what the class's letters hold -/
def LT (gv : Nat → GV) (l n : Nat) (L : Nat → Nat) : Prop := ∃ tx tf, gv l = .inl (5, [.ref tx, .int (nI n)]) ∧ gv tx = .inr (.inl (96, tf)) ∧ (∀ k, k < n → tf k = nI (L k)) ∧ n ≤ 96 ∧ ∀ k, k < n → L k < 256
section
variable {l n : Nat} {L : Nat → Nat}
theorem LT.o (h : LT gv l n L) : ∃ o, gfO gv l [5] = some o := by
  obtain ⟨tx, tf, h1, -⟩ := h
  exact ⟨_, gfO_of h1 (by decide)⟩
theorem LT.len (h : LT gv l n L) : gfI gv l [5] 1 = some (nI n) := by
  obtain ⟨tx, tf, h1, -⟩ := h
  exact gfI_of h1 (by decide) rfl
theorem LT.n96 (h : LT gv l n L) : n ≤ 96 := by
  obtain ⟨tx, tf, h1, h2, h3, h4, h5⟩ := h
  exact h4
theorem LT.tc (h : LT gv l n L) (k : Nat) : tcN n L k < 256 ∨ (tcN n L k = 300 ∧ n ≤ k) := by
  obtain ⟨tx, tf, h1, h2, h3, h4, h5⟩ := h
  unfold tcN
  by_cases e : k < n
  · rw [if_pos e]; exact Or.inl (h5 k e)
  · rw [if_neg e]; exact Or.inr ⟨rfl, by omega⟩
theorem LT.at (h : LT gv l n L) {k : Nat} (hk : k < 2 ^ 31) : f_X6_at gv l (nI k) = some (if k < n then nI (tcN n L k) else -9) := by
  obtain ⟨tx, tf, h1, h2, h3, h4, h5⟩ := h
  have f1 : gfI gv l [5] 1 = some (nI n) := gfI_of h1 (by decide) rfl
  have f0 : gfR gv l [5] 0 = some (some tx) := gfR_of h1 (by decide) rfl
  have hneg : ¬ nI k < 0 := nI_pos hk
  unfold f_X6_at
  simp only [hneg, if_false, f1, obs]
  by_cases e : k < n
  · have e1 : ¬ nI n ≤ nI k := by rw [nI_leI (by omega) hk]; omega
    have e2 : ¬ nI 96 ≤ nI k := by rw [nI_leI (by decide) hk]; omega
    simp only [e1, if_false, f0, obs, gal_of h2, e2, gai_of h2 (show k < 96 by omega) (show 96 < 2 ^ 31 by decide), h3 k e]
    rw [if_pos e]
    unfold tcN
    rw [if_pos e]
  · have e1 : nI n ≤ nI k := nI_le (by omega) hk
    simp only [e1, if_true, obs]
    rw [if_neg e]
end
set_option maxRecDepth 100000 in
theorem fm_256 : ∀ x, x < 256 → f_X6_formAfter (nI x) = some (fmI x) := by decide +kernel
theorem fm_at {n : Nat} {L : Nat → Nat} {k : Nat} (h : tcN n L k < 256 ∨ (tcN n L k = 300 ∧ n ≤ k)) : f_X6_formAfter (if k < n then nI (tcN n L k) else -9) = some (fmI (tcN n L k)) := by
  by_cases e : k < n
  · rw [if_pos e]
    rcases h with h | h
    · exact fm_256 _ h
    · omega
  · rw [if_neg e]
    have : tcN n L k = 300 := by unfold tcN; rw [if_neg e]
    rw [this]
    rfl
set_option maxRecDepth 100000 in
theorem fit_256 : ∀ F, F < 3 → ∀ x, x < 256 → f_X6_fits (nI (if F = 0 then 107 else if F = 1 then 100 else 59)) (nI x) = some (if fitB (if F = 0 then 107 else if F = 1 then 100 else 59) x = true then 1 else 0) := by decide +kernel
theorem fmC_3 (f i : Nat) : ∃ F, F < 3 ∧ fmC f i = (if F = 0 then 107 else if F = 1 then 100 else 59) := by
  unfold fmC
  by_cases e : i + 1 = fmL f
  · exact ⟨2, by decide, by rw [if_pos e]; rfl⟩
  · rw [if_neg e]
    by_cases e2 : f = 0 ∧ i = 0
    · exact ⟨0, by decide, by rw [if_pos e2]; rfl⟩
    · exact ⟨1, by decide, by rw [if_neg e2]; rfl⟩
theorem fit_at {n : Nat} {L : Nat → Nat} {k : Nat} (h : tcN n L k < 256 ∨ (tcN n L k = 300 ∧ n ≤ k)) (f i : Nat) : f_X6_fits (nI (fmC f i)) (if k < n then nI (tcN n L k) else -9) = some (if fitB (fmC f i) (tcN n L k) = true then 1 else 0) := by
  obtain ⟨F, hF, e0⟩ := fmC_3 f i
  rw [e0]
  by_cases e : k < n
  · rw [if_pos e]
    rcases h with h | h
    · exact fit_256 F hF _ h
    · omega
  · rw [if_neg e]
    have : tcN n L k = 300 := by unfold tcN; rw [if_neg e]
    rw [this]
    have hF3 : F = 0 ∨ F = 1 ∨ F = 2 := by omega
    rcases hF3 with rfl | rfl | rfl <;> decide +kernel
theorem len_ok : ∀ f, f < 5 → f_J0_length_8abf5 f = some (nI (fmL f)) := by decide +kernel
theorem emp_ok : ∀ f, f < 5 → f_J0_isEmpty_aae02 f = some (if f = 4 then 1 else 0) := by decide +kernel
theorem chr_ok : ∀ f, f < 5 → ∀ i, i < 5 → i < fmL f → f_J0_charAt_5068e f (nI i) = some (nI (fmC f i)) := by decide +kernel
theorem gsi_ok {α : Type} {f : Nat} {k : Option α} (h : f < 6) : gsi f k = k := by
  unfold gsi
  rw [if_pos h]
theorem fmL_le (f : Nat) : fmL f ≤ 5 := by
  unfold fmL
  repeat' split
  all_goals omega
/-- one statement's form, as the class looks at it -/
theorem mis22 {l n p : Nat} {L : Nat → Nat} (h : LT gv l n L) (hp : p < 200) {α : Type} {K49 K57 : Int32 → Option α} : L_X6_misplaced_22 K49 K57 gv l (fmI (tcN n L p)) gF (nI p) 0 = match fst1 (fun i => !fitB (fmC (fmI (tcN n L p)) i) (tcN n L (p + 1 + i))) (fmL (fmI (tcN n L p))) with
    | some i => K49 (nI (p + 1 + i))
    | none => K57 (nI (p + fmL (fmI (tcN n L p)))) := by
  have hf := fmI_le (tcN n L p)
  have hl := fmL_le (fmI (tcN n L p))
  obtain ⟨o, ho⟩ := h.o
  refine gfirst (fun m k => L_X6_misplaced_22 K49 K57 gv l (fmI (tcN n L p)) m (nI (p + k)) (nI k)) (fun i => K49 (nI (p + 1 + i))) (K57 (nI (p + fmL (fmI (tcN n L p))))) (fmL (fmI (tcN n L p))) (fun i => !fitB (fmC (fmI (tcN n L p)) i) (tcN n L (p + 1 + i))) (fun m => ?_) (fun m k hk => ?_) gF 0 (by unfold gF; omega) (Nat.zero_le _) (fun j hj => by omega)
  · show L_X6_misplaced_22 K49 K57 gv l _ (m + 1) (nI (p + fmL (fmI (tcN n L p)))) (nI (fmL (fmI (tcN n L p)))) = _
    rw [L_X6_misplaced_22.eq_2, gsi_ok (by omega), len_ok _ (by omega)]
    simp only [obs]
    rw [if_pos (nI_le (Nat.le_refl _) (by omega))]
  · show L_X6_misplaced_22 K49 K57 gv l _ (m + 1) (nI (p + k)) (nI k) = if _ then _ else L_X6_misplaced_22 K49 K57 gv l _ m (nI (p + (k + 1))) (nI (k + 1))
    rw [L_X6_misplaced_22.eq_2, gsi_ok (by omega), len_ok _ (by omega)]
    simp only [obs]
    rw [if_neg (by rw [nI_leI (by omega) (by omega)]; omega), gsi_ok (by omega), chr_ok _ (by omega) k (by omega) hk, ho]
    simp only [obs]
    rw [nI_1, h.at (show p + k + 1 < 2 ^ 31 by omega)]
    simp only [obs]
    rw [fit_at (h.tc _)]
    simp only [obs]
    rw [show p + k + 1 = p + 1 + k by omega, nI_1]
    cases fitB (fmC (fmI (tcN n L p)) k) (tcN n L (p + 1 + k)) with
    | true =>
      rw [if_neg (show ¬ (if true = true then (1 : Int32) else 0) = 0 by decide), if_neg (by decide), show p + (k + 1) = p + 1 + k by omega]
    | false =>
      rw [if_pos (show (if false = true then (1 : Int32) else 0) = 0 by decide), if_pos (by decide)]
theorem mis2 {l n p : Nat} {L : Nat → Nat} (h : LT gv l n L) (hp : p < 190) {α : Type} {K18 K49 : Int32 → Option α} {K68 : Unit → Option α} (m : Nat) : L_X6_misplaced_2 K18 K49 K68 gv l (m + 1) (nI p) = match badP (tcN n L) p with
    | some b => if fmI (tcN n L p) = 4 then K18 (nI b) else K49 (nI b)
    | none => if nxP (tcN n L) p < n then L_X6_misplaced_2 K18 K49 K68 gv l m (nI (nxP (tcN n L) p)) else K68 () := by
  have hf := fmI_le (tcN n L p)
  have hl := fmL_le (fmI (tcN n L p))
  have h96 := h.n96
  obtain ⟨o, ho⟩ := h.o
  rw [L_X6_misplaced_2.eq_2, ho]
  simp only [obs]
  rw [h.at (by omega)]
  simp only [obs]
  rw [fm_at (h.tc p)]
  simp only [obs]
  rw [gsi_ok (by omega), emp_ok _ (by omega)]
  simp only [obs]
  unfold badP
  by_cases e : fmI (tcN n L p) = 4
  · rw [if_pos e, if_pos e, if_neg (by decide)]
    show K18 (nI p) = if fmI (tcN n L p) = 4 then K18 (nI p) else K49 (nI p)
    rw [if_pos e]
  · rw [if_neg e, if_neg e, if_pos rfl, mis22 h (by omega)]
    cases hq : fst1 (fun i => !fitB (fmC (fmI (tcN n L p)) i) (tcN n L (p + 1 + i))) (fmL (fmI (tcN n L p))) with
    | some i =>
      show K49 (nI (p + 1 + i)) = if fmI (tcN n L p) = 4 then K18 (nI (p + 1 + i)) else K49 (nI (p + 1 + i))
      rw [if_neg e]
    | none =>
      show ((gfI gv l [5] 1).bind fun t62 => if nI (p + fmL (fmI (tcN n L p))) + 1 < t62 then L_X6_misplaced_2 K18 K49 K68 gv l m (nI (p + fmL (fmI (tcN n L p))) + 1) else K68 ()) = if nxP (tcN n L) p < n then L_X6_misplaced_2 K18 K49 K68 gv l m (nI (nxP (tcN n L) p)) else K68 ()
      rw [h.len]
      simp only [obs]
      rw [nI_1]
      unfold nxP
      rw [show p + 1 + fmL (fmI (tcN n L p)) = p + fmL (fmI (tcN n L p)) + 1 by omega]
      by_cases e2 : p + fmL (fmI (tcN n L p)) + 1 < n
      · rw [if_pos e2, if_pos (nI_lt e2 (by omega))]
      · rw [if_neg e2, if_neg (by rw [nI_ltI (by omega) (by omega)]; exact e2)]
/-! the reference reads -/
theorem sg_ok {n p : Nat} {L : Nat → Nat} (hta : ∀ k, k < n → ta k = nI (L k)) (hn : n ≤ 96) (hp : p < 2 ^ 31) : f_X12_signAt ta (nI n) (nI p) = some (if p < n then nI (tcN n L p) else -1) := by
  unfold f_X12_signAt
  by_cases e : p < n
  · rw [if_neg (by rw [nI_leI (by omega) hp]; omega), gix_ok (show p < 96 by omega) (by decide), nI_clamp hp, hta p e, if_pos e]
    simp only [obs]
    unfold tcN
    rw [if_pos e]
  · rw [if_pos (nI_le (by omega) hp), if_neg e]
    simp only [obs]
theorem dg_ok {n p : Nat} {L : Nat → Nat} (h : tcN n L p < 256 ∨ (tcN n L p = 300 ∧ n ≤ p)) : f_X12_isIn (if p < n then nI (tcN n L p) else -1) 48 57 = some (if dgB (tcN n L p) = true then 1 else 0) := by
  have all : ∀ x, x < 256 → f_X12_isIn (nI x) 48 57 = some (if dgB x = true then 1 else 0) := by decide +kernel
  by_cases e : p < n
  · rw [if_pos e]
    rcases h with h | h
    · exact all _ h
    · omega
  · rw [if_neg e]
    have : tcN n L p = 300 := by unfold tcN; rw [if_neg e]
    rw [this]
    decide
theorem rd1 {n p j : Nat} {L : Nat → Nat} {to : Nat → Int32} (hta : ∀ k, k < n → ta k = nI (L k)) (hn : n ≤ 96) (hp : p < 200) (hL : ∀ k, tcN n L k < 256 ∨ (tcN n L k = 300 ∧ n ≤ k)) (hj : j < 144) : f_X12_readsDigits ta to (nI n) (nI p) (nI j) 1 = some (if dgB (tcN n L p) = true then (1, upd to j (nI (dgN (tcN n L) p)), nI (p + 1)) else (0, to, nI p)) := by
  have n1 : ¬ (1 : Int32) = 0 := by decide
  unfold f_X12_readsDigits
  rw [show gF = 998 + 1 + 1 from rfl, L_X12_readsDigits_5.eq_2, if_neg (by decide), sg_ok hta hn (by omega)]
  simp only [obs]
  rw [dg_ok (hL p)]
  simp only [obs]
  cases hd : dgB (tcN n L p) with
  | false =>
    rw [if_pos (show (if false = true then (1 : Int32) else 0) = 0 by decide), if_neg (by decide)]
  | true =>
    have hd2 : 48 ≤ tcN n L p ∧ tcN n L p ≤ 57 := by
      unfold dgB at hd
      simpa using hd
    have hpn : p < n := by
      rcases Nat.lt_or_ge p n with g | g
      · exact g
      · have : tcN n L p = 300 := by unfold tcN; rw [if_neg (by omega)]
        omega
    rw [if_neg (show ¬ (if true = true then (1 : Int32) else 0) = 0 by decide), if_pos hpn, L_X12_readsDigits_5.eq_2, if_pos (by decide), gix_ok hj (by decide), nI_clamp (show j < 2 ^ 31 by omega), if_pos rfl, nI_1, show (10 : Int32) * 0 = nI 0 from by decide, nI_add, show (48 : Int32) = nI 48 from rfl, pk_sub (by omega)]
    unfold dgN
    rw [Nat.zero_add]
theorem rd2 {n p j : Nat} {L : Nat → Nat} {to : Nat → Int32} (hta : ∀ k, k < n → ta k = nI (L k)) (hn : n ≤ 96) (hp : p < 200) (hL : ∀ k, tcN n L k < 256 ∨ (tcN n L k = 300 ∧ n ≤ k)) (hj : j < 144) : f_X12_readsDigits ta to (nI n) (nI p) (nI j) 2 = some (if dgB (tcN n L p) = true then (if dgB (tcN n L (p + 1)) = true then (1, upd to j (nI (celN (tcN n L) p)), nI (p + 2)) else (0, to, nI (p + 1))) else (0, to, nI p)) := by
  unfold f_X12_readsDigits
  have dig : ∀ q, dgB (tcN n L q) = true → 48 ≤ tcN n L q ∧ tcN n L q ≤ 57 ∧ q < n := by
    intro q hd
    have hd2 : 48 ≤ tcN n L q ∧ tcN n L q ≤ 57 := by
      unfold dgB at hd
      simpa using hd
    refine ⟨hd2.1, hd2.2, ?_⟩
    rcases Nat.lt_or_ge q n with g | g
    · exact g
    · have : tcN n L q = 300 := by unfold tcN; rw [if_neg (by omega)]
      omega
  rw [show gF = 997 + 1 + 1 + 1 from rfl, L_X12_readsDigits_5.eq_2, if_neg (by decide), sg_ok hta hn (by omega)]
  simp only [obs]
  rw [dg_ok (hL p)]
  simp only [obs]
  cases hd : dgB (tcN n L p) with
  | false =>
    rw [if_pos (show (if false = true then (1 : Int32) else 0) = 0 by decide), if_neg (by decide)]
  | true =>
    obtain ⟨a1, a2, a3⟩ := dig p hd
    rw [if_neg (show ¬ (if true = true then (1 : Int32) else 0) = 0 by decide), if_pos a3, L_X12_readsDigits_5.eq_2, if_neg (by decide), nI_1, sg_ok hta hn (show p + 1 < 2 ^ 31 by omega)]
    simp only [obs]
    rw [dg_ok (hL (p + 1))]
    simp only [obs]
    cases hd2 : dgB (tcN n L (p + 1)) with
    | false =>
      rw [if_pos (show (if false = true then (1 : Int32) else 0) = 0 by decide), if_pos trivial, if_neg (by decide)]
    | true =>
      obtain ⟨b1, b2, b3⟩ := dig (p + 1) hd2
      rw [if_neg (show ¬ (if true = true then (1 : Int32) else 0) = 0 by decide), if_pos b3, L_X12_readsDigits_5.eq_2, if_pos (by decide), gix_ok hj (by decide), nI_clamp (show j < 2 ^ 31 by omega), if_pos trivial, nI_1, show (10 : Int32) * 0 = nI 0 from by decide, nI_add, show (48 : Int32) = nI 48 from rfl, pk_sub (by omega), i10, nI_add, pk_sub (by omega)]
      unfold celN dgN
      rw [show 10 * (0 + tcN n L p - 48) + tcN n L (p + 1) - 48 = (tcN n L p - 48) * 10 + (tcN n L (p + 1) - 48) by omega]
      rfl
end
