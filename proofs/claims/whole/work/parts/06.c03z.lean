/-! THE CLASS'S CELLS: sets of cells as bits of a long -/
theorem lg_cmp_0 (x y : Int64) : lg_cmp x y = 0 ↔ x = y := by
  unfold lg_cmp
  by_cases h : x > y
  · rw [if_pos h]
    constructor
    · intro h2; exact absurd h2 (by decide)
    · intro h2; subst h2; exact absurd h Int64.lt_irrefl
  · rw [if_neg h]
    by_cases h2 : x = y
    · rw [if_pos h2]; exact ⟨fun _ => h2, fun _ => rfl⟩
    · rw [if_neg h2]; exact ⟨fun h3 => absurd h3 (by decide), fun h3 => absurd h3 h2⟩
theorem only_ok : ∀ c, c < 36 → f_X2_only (nI c) = some (lN (2 ^ c)) := by decide +kernel
theorem only_no {v : Int32} (h : v < 0 ∨ 36 ≤ v) : f_X2_only v = some (lN 0) := by
  unfold f_X2_only
  by_cases h1 : v < 0
  · rw [if_pos h1]; rfl
  · rw [if_neg h1, if_pos (h.resolve_left h1)]; rfl
theorem lN_0_iff {a : Nat} (ha : a < 2 ^ 63) : lN a = 0 ↔ a = 0 := fb_lN_inj (b := 0) ha (by decide)
theorem has_ok {n c : Nat} (hn : n < 2 ^ 36) (hc : c < 36) : f_X2_has (lN n) (nI c) = some (if n.testBit c then 1 else 0) := by
  unfold f_X2_has
  rw [only_ok c hc]
  simp only [Option.bind_some]
  rw [gzb_fi, fb_andL]
  congr 1
  have h1 : n &&& 2 ^ c < 2 ^ 63 := Nat.lt_of_le_of_lt Nat.and_le_left (by omega)
  have h2 : lg_cmp (lN (n &&& 2 ^ c)) 0 = 0 ↔ n.testBit c = false := by rw [lg_cmp_0, lN_0_iff h1, fb_bit_nat]
  cases hb : n.testBit c with
  | false => rw [if_pos (h2.mpr hb)]; rfl
  | true => rw [if_neg (fun h => by rw [h2.mp h] at hb; cases hb)]; rfl
theorem has_no {n : Nat} {v : Int32} (h : v < 0 ∨ 36 ≤ v) : f_X2_has (lN n) v = some 0 := by
  unfold f_X2_has
  rw [only_no h]
  simp only [Option.bind_some]
  rw [gzb_fi, fb_andL, Nat.and_zero, if_pos (show lg_cmp (lN 0) 0 = 0 from (lg_cmp_0 _ _).mpr rfl)]
/-- one step more -/
def spN (n f : Nat) : Nat := n ||| (((((n &&& f) * 2 ^ 6) ||| ((n &&& f) / 2 ^ 6)) ||| ((((n &&& f) &&& 18446744038804420575) * 2 ^ 1) ||| (((n &&& f) &&& 18446744072618766270) / 2 ^ 1))) &&& f)
theorem spread_ok {n f : Nat} (hn : n < 2 ^ 36) : f_X2_spread (lN n) (lN f) = some (lN (spN n f)) := by
  have h1 : n &&& f < 2 ^ 36 := Nat.lt_of_le_of_lt Nat.and_le_left hn
  have h2 : (n &&& f) &&& 18446744072618766270 < 2 ^ 36 := Nat.lt_of_le_of_lt Nat.and_le_left h1
  unfold f_X2_spread spN
  rw [show (-34905131041 : Int64) = lN 18446744038804420575 from by decide, show (-1090785346 : Int64) = lN 18446744072618766270 from by decide, show (6 : Int32) = nI 6 from rfl, show (1 : Int32) = nI 1 from rfl]
  simp only [fb_andL]
  rw [wb_shl _ (by decide), wb_shr (by omega) (by decide), wb_shl _ (by decide), wb_shr (by omega) (by decide)]
  simp only [fb_andL, fb_orL]
theorem mA : ∀ d, d < 36 → Nat.testBit 18446744038804420575 d = decide (d % 6 < 5) := by decide +kernel
theorem mB : ∀ d, d < 36 → Nat.testBit 18446744072618766270 d = decide (0 < d % 6) := by decide +kernel
theorem tb_hi {n c : Nat} (hn : n < 2 ^ 36) (hc : 36 ≤ c) : n.testBit c = false := Nat.testBit_lt_two_pow (Nat.lt_of_lt_of_le hn (Nat.pow_le_pow_right (by decide) hc))
theorem tb_mul (n k c : Nat) : (n * 2 ^ k).testBit c = (decide (k ≤ c) && n.testBit (c - k)) := by rw [Nat.testBit_mul_two_pow]
theorem tb_div (n k c : Nat) : (n / 2 ^ k).testBit c = n.testBit (c + k) := by rw [Nat.testBit_div_two_pow]
theorem spN_tb {n f c : Nat} (hn : n < 2 ^ 36) (hf : f < 2 ^ 36) (hc : c < 36) : (spN n f).testBit c = (n.testBit c || (f.testBit c && nbs (fun d => n.testBit d && f.testBit d) c)) := by
  unfold spN nbs
  simp only [Nat.testBit_or, Nat.testBit_and, tb_mul, tb_div]
  have e1 : c + 6 < 36 ∨ 36 ≤ c + 6 := by omega
  have h6 : (n.testBit (c + 6) && f.testBit (c + 6)) = (decide (c + 6 < 36) && (n.testBit (c + 6) && f.testBit (c + 6))) := by
    rcases e1 with h | h
    · simp [h]
    · rw [tb_hi hn h]; simp
  have hm1 : (decide (1 ≤ c) && (n.testBit (c - 1) && f.testBit (c - 1) && Nat.testBit 18446744038804420575 (c - 1))) = (decide (0 < c % 6) && (n.testBit (c - 1) && f.testBit (c - 1))) := by
    rw [mA (c - 1) (by omega)]
    by_cases h : 0 < c % 6
    · have h1 : 1 ≤ c := by omega
      have h2 : (c - 1) % 6 < 5 := by omega
      simp [h, h1, h2]
    · by_cases h1 : 1 ≤ c
      · have h2 : ¬ (c - 1) % 6 < 5 := by omega
        simp [h, h2]
      · simp [h, h1]
  have hp1 : (n.testBit (c + 1) && f.testBit (c + 1) && Nat.testBit 18446744072618766270 (c + 1)) = (decide (c % 6 < 5) && (n.testBit (c + 1) && f.testBit (c + 1))) := by
    rcases (show c + 1 < 36 ∨ c = 35 by omega) with h0 | h0
    · rw [mB (c + 1) h0]
      by_cases h : c % 6 < 5
      · have h2 : 0 < (c + 1) % 6 := by omega
        simp [h, h2]
      · have h2 : ¬ 0 < (c + 1) % 6 := by omega
        simp [h, h2]
    · subst h0
      rw [tb_hi hn (Nat.le_refl 36)]
      simp
  rw [hm1, hp1, ← h6]
  generalize n.testBit c = A
  generalize f.testBit c = B
  generalize (decide (6 ≤ c) && (n.testBit (c - 6) && f.testBit (c - 6))) = C1
  generalize (n.testBit (c + 6) && f.testBit (c + 6)) = C2
  generalize (decide (0 < c % 6) && (n.testBit (c - 1) && f.testBit (c - 1))) = C3
  generalize (decide (c % 6 < 5) && (n.testBit (c + 1) && f.testBit (c + 1))) = C4
  cases A <;> cases B <;> cases C1 <;> cases C2 <;> cases C3 <;> cases C4 <;> rfl
theorem spN_lt {n f : Nat} (hn : n < 2 ^ 36) (hf : f < 2 ^ 36) : spN n f < 2 ^ 36 := by
  unfold spN
  exact Nat.or_lt_two_pow hn (Nat.lt_of_le_of_lt Nat.and_le_right hf)
def itN (f : Nat) (n : Nat) : Nat → Nat
  | 0 => n
  | k + 1 => spN (itN f n k) f
theorem itN_lt {f n : Nat} (hn : n < 2 ^ 36) (hf : f < 2 ^ 36) : ∀ k, itN f n k < 2 ^ 36
  | 0 => hn
  | k + 1 => spN_lt (itN_lt hn hf k) hf
theorem nbs_cong {p q : Nat → Bool} {c : Nat} (hc : c < 36) (h : ∀ d, d < 36 → p d = q d) : nbs p c = nbs q c := by
  have h1 : ∀ p q : Nat → Bool, (∀ d, d < 36 → p d = q d) → nbs p c = true → nbs q c = true := by
    intro p q h hp
    obtain ⟨w, d, h1, h2, h3⟩ := nbs_iff.mp hp
    exact nbs_iff.mpr ⟨w, d, h1, h2, by rw [← h d (bsd_lt hc h2)]; exact h3⟩
  cases hp : nbs p c with
  | true => rw [h1 p q h hp]
  | false =>
    cases hq : nbs q c with
    | false => rfl
    | true => rw [h1 q p (fun d hd => (h d hd).symm) hq] at hp; cases hp
/-- the bits, as steps -/
theorem itN_tb {f n : Nat} (hn : n < 2 ^ 36) (hf : f < 2 ^ 36) {F S : Nat → Bool} (hF : ∀ c, c < 36 → F c = f.testBit c) (hS : ∀ c, c < 36 → S c = n.testBit c) : ∀ k c, c < 36 → (itN f n k).testBit c = rch F S k c := by
  intro k
  induction k with
  | zero => intro c hc; exact (hS c hc).symm
  | succ k ih =>
    intro c hc
    show (spN (itN f n k) f).testBit c = (rch F S k c || (F c && nbs (fun d => rch F S k d && F d) c))
    rw [spN_tb (itN_lt hn hf k) hf hc, ih c hc, hF c hc]
    congr 2
    exact nbs_cong hc (fun d hd => by rw [ih d hd, hF d hd])
theorem within_loop {α : Type} {K : Int64 → Option α} {f n : Nat} (hn : n < 2 ^ 36) (hf : f < 2 ^ 36) {r : Nat} (hr : r < 2 ^ 31) : L_X2_within_9 K (nI r) (lN f) gF (lN n) 0 = K (lN (itN f n (if r ≤ 36 then r else 36))) := by
  refine gloop (σ := Int64) (ρ := Option α) (fun m k s => L_X2_within_9 K (nI r) (lN f) m s (nI k)) (if r ≤ 36 then r else 36) (fun k s => s = lN (itN f n k)) (fun x => x = K (lN (itN f n (if r ≤ 36 then r else 36)))) ?_ ?_ gF 0 (lN n) (by split <;> (unfold gF; omega)) (Nat.zero_le _) rfl
  · intro m s hI
    show L_X2_within_9 K (nI r) (lN f) (m + 1) s (nI _) = _
    rw [L_X2_within_9.eq_2, hI]
    by_cases h : r ≤ 36
    · rw [if_pos h, if_pos (nI_le (Nat.le_refl r) hr)]
    · rw [if_neg h, if_neg (by rw [nI_leI hr (by decide)]; omega), if_pos (by decide)]
  · intro m k s hk hI
    right
    refine ⟨lN (itN f n (k + 1)), ?_, rfl⟩
    show L_X2_within_9 K (nI r) (lN f) (m + 1) s (nI k) = L_X2_within_9 K (nI r) (lN f) m _ (nI (k + 1))
    have hk36 : k < 36 ∧ k < r := by split at hk <;> omega
    rw [L_X2_within_9.eq_2, hI, if_neg (by rw [nI_leI hr (by omega)]; omega), if_neg (by rw [li 36, nI_leI (by decide) (by omega)]; omega), spread_ok (itN_lt hn hf k)]
    simp only [Option.bind_some, nI_1]
    rfl
theorem only_lt {c : Nat} (hc : c < 36) : 2 ^ c < 2 ^ 36 := Nat.pow_lt_pow_right (by decide) hc
theorem within_ok {c r f : Nat} (hc : c < 36) (hr : r < 2 ^ 31) (hf : f < 2 ^ 36) : f_X2_within (nI c) (nI r) (lN f) = some (lN (itN f (2 ^ c) (if r ≤ 36 then r else 36))) := by
  unfold f_X2_within
  rw [only_ok c hc]
  simp only [Option.bind_some]
  exact within_loop (only_lt hc) hf hr
theorem one_tb {c d : Nat} : (2 ^ c).testBit d = decide (d = c) := by
  rw [Nat.testBit_two_pow]
  by_cases h : c = d
  · subst h; simp
  · have : ¬ d = c := fun e => h e.symm
    simp [h, this]
