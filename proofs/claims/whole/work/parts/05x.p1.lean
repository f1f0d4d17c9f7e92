/-! NUMBERS: ints as nI n, longs as lN n -/
theorem li (n : Nat) : (OfNat.ofNat n : Int32) = nI n := rfl
theorem nI_lt_iff {a b : Nat} (ha : a < 2 ^ 31) (hb : b < 2 ^ 31) : nI a < nI b ↔ a < b := nI_ltI ha hb
theorem nI_neg9 : ((-9 : Int32) < 0) := by decide
theorem gix_ok {α : Type} {i N : Nat} {k : Option α} (h : i < N) (hN : N < 2 ^ 31) : gix (nI i) N k = k := by
  unfold gix
  rw [if_neg]
  exact vp_in_nI h hN
theorem gix_v {α : Type} {i : Int32} {N : Nat} {k : Option α} (h : vp_in i N) : gix i N k = k := by
  unfold gix
  rw [if_neg h]
theorem gzb_0 {α : Type} {k : Option α} : gzb 0 k = k := by unfold gzb; rw [if_pos (Or.inl rfl)]
theorem gzb_1 {α : Type} {k : Option α} : gzb 1 k = k := by unfold gzb; rw [if_pos (Or.inr rfl)]
theorem gzb_if {α : Type} {c : Prop} [Decidable c] {k : Option α} : gzb (if c then 1 else 0) k = k := by by_cases h : c <;> simp [h, gzb]
theorem gzb_fi {α : Type} {c : Prop} [Decidable c] {k : Option α} : gzb (if c then 0 else 1) k = k := by by_cases h : c <;> simp [h, gzb]
theorem gF_eq : gF = 1000 := rfl
/-- a loop that counts up to N and keeps I: it comes to its end with I, or E holds of its whole answer -/
theorem gloop {σ ρ : Type} (L : Nat → Nat → σ → ρ) (N : Nat) (I : Nat → σ → Prop) (E : ρ → Prop) (hend : ∀ n s, I N s → E (L (n + 1) N s)) (hstep : ∀ n k s, k < N → I k s → E (L (n + 1) k s) ∨ ∃ s', L (n + 1) k s = L n (k + 1) s' ∧ I (k + 1) s') : ∀ n k s, N - k < n → k ≤ N → I k s → E (L n k s) := by
  intro n
  induction n with
  | zero => intro k s h; omega
  | succ n ih =>
    intro k s h hk hI
    rcases Nat.lt_or_ge k N with q | q
    · rcases hstep n k s q hI with h1 | ⟨s', h1, h2⟩
      · exact h1
      · rw [h1]
        exact ih (k + 1) s' (by omega) q h2
    · have e : k = N := by omega
      subst e
      exact hend n s hI
/-! COUNTS -/
def cnt (p : Nat → Bool) : Nat → Nat
  | 0 => 0
  | n + 1 => cnt p n + if p n then 1 else 0
theorem cnt_le (p : Nat → Bool) : ∀ n, cnt p n ≤ n
  | 0 => Nat.le_refl _
  | n + 1 => by have := cnt_le p n; unfold cnt; split <;> omega
theorem cnt_cong {p q : Nat → Bool} : ∀ {n : Nat}, (∀ k, k < n → p k = q k) → cnt p n = cnt q n
  | 0, _ => rfl
  | n + 1, h => by unfold cnt; rw [cnt_cong (fun k hk => h k (by omega)), h n (by omega)]
theorem cnt_lt {p : Nat → Bool} {c : Nat} : ∀ {n : Nat}, c < n → p c = false → cnt p n < n
  | 0, h, _ => by omega
  | n + 1, h, hp => by
    unfold cnt
    rcases Nat.lt_or_ge c n with q | q
    · have := cnt_lt q hp
      split <;> omega
    · have e : c = n := by omega
      subst e
      have := cnt_le p c
      rw [hp]
      simp
      omega
theorem cnt_upd {p : Nat → Bool} {c : Nat} (hp : p c = false) : ∀ {n : Nat}, c < n → cnt (fun d => if d = c then true else p d) n = cnt p n + 1
  | 0, h => by omega
  | n + 1, h => by
    unfold cnt
    rcases Nat.lt_or_ge c n with q | q
    · rw [cnt_upd hp q]
      have e : ¬ n = c := by omega
      simp only [e, if_false]
      omega
    · have e : c = n := by omega
      subst e
      rw [cnt_cong (q := p) (n := c) (fun k hk => by simp [show ¬ k = c by omega])]
      simp [hp]
/-! THE TOWN'S SQUARE -/
/-- some cell beside c has p -/
def nbs (p : Nat → Bool) (c : Nat) : Bool := (decide (6 ≤ c) && p (c - 6)) || (decide (0 < c % 6) && p (c - 1)) || (decide (c % 6 < 5) && p (c + 1)) || (decide (c + 6 < 36) && p (c + 6))
/-- cells to which it is n steps or fewer over free cells, from the cells s -/
def rch (f s : Nat → Bool) : Nat → Nat → Bool
  | 0 => s
  | n + 1 => fun c => rch f s n c || (f c && nbs (fun d => rch f s n d && f d) c)
/-- the cell beside c on the way w -/
def bsd (c w : Nat) : Option Nat := match w with
  | 0 => if 6 ≤ c then some (c - 6) else none
  | 1 => if 0 < c % 6 then some (c - 1) else none
  | 2 => if c % 6 < 5 then some (c + 1) else none
  | _ => if c + 6 < 36 then some (c + 6) else none
theorem bsd_lt {c w d : Nat} (hc : c < 36) (h : bsd c w = some d) : d < 36 := by
  unfold bsd at h
  split at h <;> (split at h <;> simp at h <;> omega)
theorem nbs_iff {p : Nat → Bool} {c : Nat} : nbs p c = true ↔ ∃ w d, w < 4 ∧ bsd c w = some d ∧ p d = true := by
  unfold nbs
  simp only [Bool.or_eq_true, Bool.and_eq_true, decide_eq_true_eq]
  constructor
  · rintro (((⟨h, q⟩ | ⟨h, q⟩) | ⟨h, q⟩) | ⟨h, q⟩)
    · exact ⟨0, _, by decide, if_pos h, q⟩
    · exact ⟨1, _, by decide, if_pos h, q⟩
    · exact ⟨2, _, by decide, if_pos h, q⟩
    · exact ⟨3, _, by decide, if_pos h, q⟩
  · rintro ⟨w, d, hw, h, q⟩
    have hw4 : w = 0 ∨ w = 1 ∨ w = 2 ∨ w = 3 := by omega
    rcases hw4 with rfl | rfl | rfl | rfl <;> simp only [bsd] at h <;> split at h <;> simp at h <;> subst h
    · exact Or.inl (Or.inl (Or.inl ⟨by assumption, q⟩))
    · exact Or.inl (Or.inl (Or.inr ⟨by assumption, q⟩))
    · exact Or.inl (Or.inr ⟨by assumption, q⟩)
    · exact Or.inr ⟨by assumption, q⟩
/-- being beside goes both ways -/
theorem bsd_sym {c w d : Nat} (hc : c < 36) (hw : w < 4) (h : bsd c w = some d) : ∃ v, v < 4 ∧ bsd d v = some c := by
  have hw4 : w = 0 ∨ w = 1 ∨ w = 2 ∨ w = 3 := by omega
  rcases hw4 with rfl | rfl | rfl | rfl <;> simp only [bsd] at h <;> split at h <;> simp at h <;> subst h
  · exact ⟨3, by decide, by simp only [bsd]; rw [if_pos (by omega)]; congr 1; omega⟩
  · exact ⟨2, by decide, by simp only [bsd]; rw [if_pos (by omega)]; congr 1; omega⟩
  · exact ⟨1, by decide, by simp only [bsd]; rw [if_pos (by omega)]; congr 1⟩
  · exact ⟨0, by decide, by simp only [bsd]; rw [if_pos (by omega)]; congr 1⟩
theorem nbs_mono {p q : Nat → Bool} {c : Nat} (h : ∀ d, p d = true → q d = true) (hp : nbs p c = true) : nbs q c = true := by
  obtain ⟨w, d, h1, h2, h3⟩ := nbs_iff.mp hp
  exact nbs_iff.mpr ⟨w, d, h1, h2, h d h3⟩
theorem rch_succ {f s : Nat → Bool} {n c : Nat} (h : rch f s n c = true) : rch f s (n + 1) c = true := by
  show (rch f s n c || _) = true
  rw [h]
  rfl
theorem rch_le {f s : Nat → Bool} {n m c : Nat} (h : rch f s n c = true) (hnm : n ≤ m) : rch f s m c = true := by
  induction hnm with
  | refl => exact h
  | step _ ih => exact rch_succ ih
theorem rch_step {f s : Nat → Bool} {n c d w : Nat} (hw : w < 4) (h : bsd c w = some d) (hd : rch f s n d = true) (hfd : f d = true) (hfc : f c = true) : rch f s (n + 1) c = true := by
  show (rch f s n c || (f c && nbs (fun d => rch f s n d && f d) c)) = true
  have : nbs (fun d => rch f s n d && f d) c = true := nbs_iff.mpr ⟨w, d, hw, h, by simp [hd, hfd]⟩
  simp [hfc, this]
