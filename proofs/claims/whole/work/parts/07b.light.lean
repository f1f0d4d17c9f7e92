/-! LIGHT AND STEPS -/
/-- a loop that counts up to N with told states -/
theorem gfold {σ ρ : Type} (L : Nat → Nat → σ → ρ) (K : σ → ρ) (N : Nat) (S : Nat → σ) (hend : ∀ n, L (n + 1) N (S N) = K (S N)) (hstep : ∀ n k, k < N → L (n + 1) k (S k) = L n (k + 1) (S (k + 1))) : ∀ n k, N - k < n → k ≤ N → L n k (S k) = K (S N) := by
  intro n
  induction n with
  | zero => intro k h; omega
  | succ n ih =>
    intro k h hk
    rcases Nat.lt_or_ge k N with g | g
    · rw [hstep n k g]
      exact ih (k + 1) (by omega) g
    · have e : k = N := by omega
      rw [e]
      exact hend n
/-- the first one below n that has p -/
def fst1 (p : Nat → Bool) : Nat → Option Nat
  | 0 => none
  | n + 1 => match fst1 p n with
    | some i => some i
    | none => if p n then some n else none
theorem fst1_ne {p : Nat → Bool} : ∀ {n j : Nat}, j < n → p j = true → fst1 p n ≠ none
  | 0, j, h, _ => by omega
  | n + 1, j, h, hp => by
    unfold fst1
    cases hq : fst1 p n with
    | some v => simp
    | none =>
      rcases Nat.lt_or_ge j n with g | g
      · exact absurd hq (fst1_ne g hp)
      · have e : j = n := by omega
        subst e
        simp [hp]
theorem fst1_some {p : Nat → Bool} : ∀ {n i : Nat}, fst1 p n = some i → i < n ∧ p i = true ∧ ∀ j, j < i → p j = false
  | 0, i, h => by cases h
  | n + 1, i, h => by
    unfold fst1 at h
    cases hq : fst1 p n with
    | some v =>
      rw [hq] at h
      obtain ⟨h1, h2, h3⟩ := fst1_some hq
      cases h
      exact ⟨by omega, h2, h3⟩
    | none =>
      rw [hq] at h
      cases hp : p n with
      | false => simp [hp] at h
      | true =>
        simp only [hp, if_true] at h
        cases h
        refine ⟨by omega, hp, fun j hj => ?_⟩
        cases hpj : p j with
        | false => rfl
        | true => exact absurd hq (fst1_ne hj hpj)
theorem fst1_is {p : Nat → Bool} : ∀ {n i : Nat}, i < n → p i = true → (∀ j, j < i → p j = false) → fst1 p n = some i
  | 0, i, h, _, _ => by omega
  | n + 1, i, h, hp, hj => by
    unfold fst1
    rcases Nat.lt_or_ge i n with g | g
    · rw [fst1_is g hp hj]
    · have e : i = n := by omega
      subst e
      cases hq : fst1 p i with
      | some v =>
        obtain ⟨h1, h2, -⟩ := fst1_some hq
        rw [hj v h1] at h2
        cases h2
      | none => simp [hp]
theorem fst1_no {p : Nat → Bool} : ∀ {n : Nat}, (∀ j, j < n → p j = false) → fst1 p n = none
  | 0, _ => rfl
  | n + 1, h => by
    unfold fst1
    have ih := fst1_no (p := p) (n := n) (fun j hj => h j (by omega))
    rw [ih]
    simp [h n (by omega)]
theorem fst1_cong {p q : Nat → Bool} : ∀ {n : Nat}, (∀ k, k < n → p k = q k) → fst1 p n = fst1 q n
  | 0, _ => rfl
  | n + 1, h => by
    unfold fst1
    rw [fst1_cong (fun k hk => h k (by omega)), h n (by omega)]
/-- a loop that ends at the first one with p -/
theorem gfirst {ρ : Type} (L : Nat → Nat → ρ) (Kf : Nat → ρ) (Ke : ρ) (N : Nat) (p : Nat → Bool) (hend : ∀ n, L (n + 1) N = Ke) (hstep : ∀ n k, k < N → L (n + 1) k = if p k = true then Kf k else L n (k + 1)) : ∀ n k, N - k < n → k ≤ N → (∀ j, j < k → p j = false) → L n k = match fst1 p N with
    | some i => Kf i
    | none => Ke := by
  intro n
  induction n with
  | zero => intro k h; omega
  | succ n ih =>
    intro k h hk hj
    rcases Nat.lt_or_ge k N with g | g
    · rw [hstep n k g]
      cases hp : p k with
      | true =>
        simp [fst1_is g hp hj]
      | false =>
        rw [if_neg (by decide)]
        refine ih (k + 1) (by omega) g (fun j hj2 => ?_)
        rcases Nat.lt_or_ge j k with g2 | g2
        · exact hj j g2
        · have e : j = k := by omega
          rw [e]; exact hp
    · have e : k = N := by omega
      subst e
      simp [hend n, fst1_no hj]
/-- as an int: -9, if there is none -/
def fI (p : Nat → Bool) (n : Nat) : Int32 := match fst1 p n with
  | some i => nI i
  | none => -9
/-- some one below n has q -/
def anyB (q : Nat → Bool) : Nat → Bool
  | 0 => false
  | n + 1 => anyB q n || q n
theorem anyB_iff {q : Nat → Bool} : ∀ {n : Nat}, anyB q n = true ↔ ∃ k, k < n ∧ q k = true
  | 0 => ⟨fun h => (by cases h), fun ⟨k, h, _⟩ => (by omega)⟩
  | n + 1 => by
    unfold anyB
    rw [Bool.or_eq_true, anyB_iff]
    constructor
    · rintro (⟨k, h1, h2⟩ | h)
      · exact ⟨k, by omega, h2⟩
      · exact ⟨n, by omega, h⟩
    · rintro ⟨k, h1, h2⟩
      rcases Nat.lt_or_ge k n with g | g
      · exact Or.inl ⟨k, g, h2⟩
      · have e : k = n := by omega
        rw [← e]; exact Or.inr h2
theorem anyB_cong {p q : Nat → Bool} : ∀ {n : Nat}, (∀ k, k < n → p k = q k) → anyB p n = anyB q n
  | 0, _ => rfl
  | n + 1, h => by
    unfold anyB
    rw [anyB_cong (fun k hk => h k (by omega)), h n (by omega)]
theorem anyB_and {p : Nat → Bool} {n s : Nat} : anyB (fun l => s.testBit l && p l) n = !decide (bm p n &&& s = 0) := by
  cases h : anyB (fun l => s.testBit l && p l) n with
  | true =>
    obtain ⟨k, h1, h2⟩ := anyB_iff.mp h
    simp only [Bool.and_eq_true] at h2
    have : ¬ bm p n &&& s = 0 := by
      intro h3
      have h4 : (bm p n &&& s).testBit k = true := by rw [Nat.testBit_and, bm_tb]; simp [h1, h2.1, h2.2]
      rw [h3] at h4
      simp at h4
    simp [this]
  | false =>
    have : bm p n &&& s = 0 := by
      refine Nat.eq_of_testBit_eq (fun i => ?_)
      rw [Nat.testBit_and, bm_tb]
      simp only [Nat.zero_testBit]
      cases h5 : (decide (i < n) && p i) && s.testBit i with
      | false => rfl
      | true =>
        simp only [Bool.and_eq_true, decide_eq_true_eq] at h5
        have h6 := (anyB_iff (q := fun l => s.testBit l && p l) (n := n)).mpr ⟨i, h5.1.1, by simp [h5.1.2, h5.2]⟩
        rw [h] at h6
        cases h6
    simp [this]
def fr (w : Nat → Bool) : Nat → Bool := fun c => decide (c < 36) && !w c
theorem fr36 {w : Nat → Bool} : ∀ c, fr w c = true → c < 36 := by
  intro c h
  unfold fr at h
  simp only [Bool.and_eq_true, decide_eq_true_eq] at h
  exact h.1
/-- the cells within r steps of a, from a wall that wall alone -/
def gl1 (f : Nat → Bool) (a r c : Nat) : Bool := if f a = true then rch f (src f a) r c else decide (c = a)
theorem nbs_none (c : Nat) : nbs (fun _ => false) c = false := by simp [nbs]
theorem rch_one (f : Nat → Bool) (a : Nat) : ∀ n c, rch f (fun d => decide (d = a)) n c = gl1 f a n c := by
  by_cases hfa : f a = true
  · have e : (fun d => decide (d = a)) = src f a := by
      funext d
      unfold src
      by_cases hd : d = a
      · subst hd; simp [hfa]
      · simp [hd]
    intro n c
    unfold gl1
    rw [if_pos hfa, e]
  · intro n
    induction n with
    | zero => intro c; unfold gl1; rw [if_neg hfa]; rfl
    | succ n ih =>
      intro c
      show (rch f (fun d => decide (d = a)) n c || (f c && nbs (fun d => rch f (fun d => decide (d = a)) n d && f d) c)) = gl1 f a (n + 1) c
      have e : (fun d => rch f (fun d => decide (d = a)) n d && f d) = fun _ => false := by
        funext d
        rw [ih d]
        unfold gl1
        rw [if_neg hfa]
        by_cases hd : d = a
        · subst hd; simp [hfa]
        · simp [hd]
      rw [e, nbs_none, ih c]
      unfold gl1
      rw [if_neg hfa, if_neg hfa]
      simp
theorem far_ex {f : Nat → Bool} (hf36 : ∀ c, f c = true → c < 36) {a : Nat} (ha : a < 36) : ∃ far, FarOK f a far := by
  obtain ⟨far', qu', q', -, h⟩ := findFar_ok (far := fun _ => 0) (sh := fun c => if f c = true then 0 else 1) (qu := fun _ => 0) (q0 := 0) (f := f) (fun c _ => by by_cases h : f c = true <;> simp [h]) hf36 ha
  exact ⟨far', h⟩
/-- a far one tells all: its distance, or that there is none -/
theorem far_all {f : Nat → Bool} {a : Nat} {far : Nat → Int32} (h : FarOK f a far) {c : Nat} (hc : c < 36) : (∃ d, d ≤ 35 ∧ far c = nI d ∧ ∀ r, rch f (src f a) r c = decide (d ≤ r)) ∨ (far c = -9 ∧ ∀ r, rch f (src f a) r c = false) := by
  rcases h c hc with ⟨d, h1, h2, h3, h4⟩ | ⟨h1, h2⟩
  · refine Or.inl ⟨d, h1, h2, fun r => ?_⟩
    rcases Nat.lt_or_ge r d with g | g
    · rw [h4 r g]; simp [Nat.not_le.mpr g]
    · rw [rch_le h3 g]; simp [g]
  · exact Or.inr ⟨h1, h2⟩
theorem far_uniq {f : Nat → Bool} {a : Nat} {far far2 : Nat → Int32} (h : FarOK f a far) (h2 : FarOK f a far2) {c : Nat} (hc : c < 36) : far c = far2 c := by
  rcases far_all h hc with ⟨d, e1, e2, e3⟩ | ⟨e1, e2⟩ <;> rcases far_all h2 hc with ⟨d', g1, g2, g3⟩ | ⟨g1, g2⟩
  · have k1 := e3 d; rw [g3 d] at k1
    have k2 := e3 d'; rw [g3 d'] at k2
    have k3 : d = d' := by
      have a1 : d' ≤ d := by simpa using k1
      have a2 : d ≤ d' := by simpa using k2.symm
      omega
    rw [e2, g2, k3]
  · have k1 := e3 d; rw [g2 d] at k1; simp at k1
  · have k1 := g3 d'; rw [e2 d'] at k1; simp at k1
  · rw [e1, g1]
theorem rch_stab {f : Nat → Bool} (hf36 : ∀ c, f c = true → c < 36) {a r c : Nat} (ha : a < 36) (hr : 36 ≤ r) (hc : c < 36) : rch f (src f a) r c = rch f (src f a) 36 c := by
  obtain ⟨far, h⟩ := far_ex hf36 ha
  rcases far_all h hc with ⟨d, e1, -, e3⟩ | ⟨-, e2⟩
  · rw [e3, e3]
    have a1 : d ≤ r := by omega
    have a2 : d ≤ 36 := by omega
    simp [a1, a2]
  · rw [e2, e2]
theorem within_b {f : Nat → Bool} (hf36 : ∀ c, f c = true → c < 36) {c r : Nat} (hc : c < 36) (hr : r < 2 ^ 31) : f_X2_within (nI c) (nI r) (lN (bm f 36)) = some (lN (bm (gl1 f c r) 36)) := by
  rw [within_ok hc hr (bm_lt f 36)]
  congr 2
  refine bm_eq (itN_lt (only_lt hc) (bm_lt f 36) _) (fun d hd => ?_)
  rw [itN_tb (only_lt hc) (bm_lt f 36) (F := f) (S := fun d => decide (d = c)) (fun e he => by rw [bm_tb]; simp [he]) (fun e he => one_tb.symm) _ d hd, rch_one f c]
  split
  · rfl
  · unfold gl1
    split
    · exact (rch_stab hf36 hc (by omega) hd).symm
    · rfl
theorem fewest_b {f : Nat → Bool} (hf36 : ∀ c, f c = true → c < 36) {a t : Nat} (ha : a < 36) (ht : t < 36) {far : Nat → Int32} (hfar : FarOK f a far) : f_X2_fewestSteps (nI a) (nI t) (lN (bm f 36)) = some (far t) := by
  unfold f_X2_fewestSteps
  rw [only_b ha]
  simp only [Option.bind_some]
  have hs : lN (bm (fun d => decide (d = a)) 36) &&& lN (bm f 36) = lN (bm (src f a) 36) := lb_and _ _
  have e0 : bm (src f a) 36 = itN (bm f 36) (bm (src f a) 36) 0 := rfl
  rw [hs, e0]
  have hit : ∀ k, f_X2_has (lN (itN (bm f 36) (bm (src f a) 36) k)) (nI t) = some (if rch f (src f a) k t = true then 1 else 0) := by
    intro k
    rw [has_ok (itN_lt (bm_lt _ 36) (bm_lt f 36) k) ht, itN_tb (bm_lt _ 36) (bm_lt f 36) (F := f) (S := src f a) (fun e he => by rw [bm_tb]; simp [he]) (fun e he => by rw [bm_tb]; simp [he]) k t ht]
  have main : ∀ n k, 36 - k < n → k ≤ 36 → (∀ j, j < k → rch f (src f a) j t = false) → L_X2_fewestSteps_11 (fun x11_27 => some x11_27) (fun x11_44 => some (-9 : Int32)) (nI t) (lN (bm f 36)) n (lN (itN (bm f 36) (bm (src f a) 36) k)) (nI k) = some (far t) := by
    intro n
    induction n with
    | zero => intro k h; omega
    | succ n ih =>
      intro k h hk hj
      rw [L_X2_fewestSteps_11.eq_2]
      by_cases h36 : k = 36
      · subst h36
        rw [if_pos (by decide)]
        rcases far_all hfar ht with ⟨d, e1, e2, e3⟩ | ⟨e1, -⟩
        · have := hj d (by omega)
          rw [e3] at this
          simp at this
        · rw [e1]
      · have hk2 : k < 36 := by omega
        rw [if_neg (by rw [li 36, nI_leI (by decide) (by omega)]; omega), hit k]
        simp only [Option.bind_some]
        cases hr : rch f (src f a) k t with
        | true =>
          rw [if_neg (show ¬ (if true = true then (1 : Int32) else 0) = 0 by decide)]
          rcases far_all hfar ht with ⟨d, e1, e2, e3⟩ | ⟨-, e2⟩
          · have h1 : d ≤ k := by rw [e3] at hr; simpa using hr
            have h2 : ¬ d < k := fun g => by
              have := hj d g
              rw [e3] at this
              simp at this
            have h3 : d = k := by omega
            rw [e2, h3]
          · rw [e2] at hr; cases hr
        | false =>
          rw [if_pos (show (if false = true then (1 : Int32) else 0) = 0 by decide), spread_ok (itN_lt (bm_lt _ 36) (bm_lt f 36) k)]
          simp only [Option.bind_some, nI_1]
          exact ih (k + 1) (by omega) hk2 (fun j hj2 => by
            rcases Nat.lt_or_ge j k with g | g
            · exact hj j g
            · have e : j = k := by omega
              rw [e]; exact hr)
  exact main gF 0 (by decide) (by decide) (fun j hj => by omega)
theorem byNum0_b {p : Nat → Bool} : f_X2_byNumber (lN (bm p 36)) 0 = some (fI p 36) := by
  unfold f_X2_byNumber fI
  have := gfirst (fun n k => L_X2_byNumber_5 (fun x5_25 => some x5_25) (fun x5_37 => some (-9 : Int32)) (lN (bm p 36)) n 0 (nI k)) (fun i => some (nI i)) (some (-9)) 36 p (fun n => by
    show L_X2_byNumber_5 _ _ _ (n + 1) 0 (nI 36) = _
    rw [L_X2_byNumber_5.eq_2, if_pos (by decide)]) (fun n k hk => by
    show L_X2_byNumber_5 _ _ _ (n + 1) 0 (nI k) = _
    rw [L_X2_byNumber_5.eq_2, if_neg (by rw [li 36, nI_leI (by decide) (by omega)]; omega), has_b hk]
    simp only [Option.bind_some, nI_1]
    cases p k with
    | true => simp
    | false => simp) gF 0 (by decide) (by decide) (fun j hj => by omega)
  refine this.trans ?_
  cases fst1 p 36 <;> rfl
/-- the i-th of the cells, of those from k on -/
def nth (p : Nat → Bool) (i : Nat) (c : Nat) : Bool := p c && decide (cnt p c = i)
theorem byNum_b {p : Nat → Bool} {i : Nat} (hi : i < 2 ^ 31) : f_X2_byNumber (lN (bm p 36)) (nI i) = some (fI (nth p i) 36) := by
  unfold f_X2_byNumber fI
  have main : ∀ n k j, 36 - k < n → k ≤ 36 → cnt p k + j = i → L_X2_byNumber_5 (fun x5_25 => some x5_25) (fun x5_37 => some (-9 : Int32)) (lN (bm p 36)) n (nI j) (nI k) = (match fst1 (nth p i) 36 with
      | some i => some (nI i)
      | none => some (-9)) := by
    intro n
    induction n with
    | zero => intro k j h; omega
    | succ n ih =>
      intro k j h hk hc
      rw [L_X2_byNumber_5.eq_2]
      have hno : ∀ q, q < k → nth p i q = false := fun q hq => by
        unfold nth
        cases hp : p q with
        | false => rfl
        | true =>
          have h1 : cnt p (q + 1) = cnt p q + 1 := by show cnt p q + (if p q then 1 else 0) = _; rw [hp]; rfl
          have h2 : cnt p (q + 1) ≤ cnt p k := by rw [cnt_ct, cnt_ct]; exact fb_ct_mono p hq
          have h3 : ¬ cnt p q = i := by omega
          simp [h3]
      by_cases h36 : k = 36
      · subst h36
        rw [if_pos (by decide)]
        simp [fst1_no hno]
      · have hk2 : k < 36 := by omega
        rw [if_neg (by rw [li 36, nI_leI (by decide) (by omega)]; omega), has_b hk2]
        simp only [Option.bind_some, nI_1]
        have hs : cnt p (k + 1) = cnt p k + (if p k then 1 else 0) := rfl
        cases hp : p k with
        | false =>
          rw [hp] at hs
          rw [if_pos (show (if false = true then (1 : Int32) else 0) = 0 by decide)]
          exact ih (k + 1) j (by omega) hk2 (by rw [hs]; simpa using hc)
        | true =>
          rw [hp] at hs
          rw [if_neg (show ¬ (if true = true then (1 : Int32) else 0) = 0 by decide)]
          by_cases hj : j = 0
          · subst hj
            have hfi := fst1_is (p := nth p i) hk2 (by unfold nth; rw [hp]; simp; omega) hno
            rw [if_pos nI_0]
            simp [hfi]
          · rw [if_neg (nI_ne0 (by omega) (by omega)), nI_m1 (by omega)]
            exact ih (k + 1) (j - 1) (by omega) hk2 (by rw [hs]; simp; omega)
  refine (main gF 0 i (by decide) (by decide) (by simp [cnt])).trans ?_
  cases fst1 (nth p i) 36 <;> rfl
