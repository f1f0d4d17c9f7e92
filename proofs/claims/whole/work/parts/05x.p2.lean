/-! THE REFERENCE'S STEPS: breadth first -/
def bsI (c w : Nat) : Int32 := match bsd c w with
  | some d => nI d
  | none => -9
theorem beside_ok : ∀ c, c < 36 → ∀ w, w < 4 → f_X12_beside (nI c) (nI w) = some (bsI c w) := by decide +kernel
theorem upd_s {f : Nat → Int32} {k : Nat} {x : Int32} : upd f k x k = x := by simp [upd]
theorem upd_n {f : Nat → Int32} {k j : Nat} {x : Int32} (h : j ≠ k) : upd f k x j = f j := by simp [upd, h]
theorem reaches_no {far sh qu : Nat → Int32} {q v : Int32} : f_X12_reaches far sh qu q (-9) v = some (far, qu, q) := by
  unfold f_X12_reaches
  rw [if_pos (by decide)]
theorem reaches_ok {far sh qu : Nat → Int32} {q c : Nat} {v : Int32} (hc : c < 36) (hq : sh c ≠ 1 → far c < 0 → q < 36) : f_X12_reaches far sh qu (nI q) (nI c) v = if sh c = 1 then some (far, qu, nI q) else if far c < 0 then some (upd far c v, upd qu q (nI c), nI (q + 1)) else some (far, qu, nI q) := by
  unfold f_X12_reaches
  rw [if_neg (nI_pos (by omega)), gix_ok hc (by decide), nI_clamp (by omega)]
  by_cases h1 : sh c = 1
  · rw [if_pos h1, if_pos h1]
  · rw [if_neg h1, if_neg h1, gix_ok hc (by decide)]
    by_cases h2 : far c < 0
    · have h3 := hq h1 h2
      rw [if_pos h2, if_pos h2, gix_ok hc (by decide), gix_ok h3 (by decide), nI_clamp (by omega), nI_1]
    · rw [if_neg h2, if_neg h2]
/-- cells that start: the one told, if it is free -/
def src (f : Nat → Bool) (a : Nat) : Nat → Bool := fun c => decide (c = a) && f c
/-- the queue Q of q cells, their distances dd, and the rows far and qu -/
def BI (f : Nat → Bool) (a : Nat) (far qu : Nat → Int32) (q : Nat) (Q dd : Nat → Nat) : Prop :=
  (∀ i, i < q → Q i < 36 ∧ qu i = nI (Q i) ∧ f (Q i) = true ∧ rch f (src f a) (dd (Q i)) (Q i) = true ∧ dd (Q i) ≤ i) ∧
  (∀ i j, i ≤ j → j < q → dd (Q i) ≤ dd (Q j)) ∧
  (∀ c, c < 36 → (far c = -9 ∧ ∀ i, i < q → Q i ≠ c) ∨ (far c = nI (dd c) ∧ ∃ i, i < q ∧ Q i = c)) ∧
  q = cnt (fun c => decide (far c ≠ -9)) 36
theorem BI.lt {f : Nat → Bool} {a : Nat} {far qu : Nat → Int32} {q : Nat} {Q dd : Nat → Nat} (h : BI f a far qu q Q dd) : q ≤ 36 := by
  rw [h.2.2.2]
  exact cnt_le _ _
theorem far_neg {d : Nat} (h : d < 2 ^ 31) : ¬ (nI d) = -9 := by
  intro h7
  have h8 : ¬ nI d < 0 := nI_pos h
  rw [h7] at h8
  exact h8 (by decide)
/-- a cell is new: it comes behind the others -/
theorem BI.add {f : Nat → Bool} {a : Nat} {far qu : Nat → Int32} {q : Nat} {Q dd : Nat → Nat} (h : BI f a far qu q Q dd) {c e : Nat} (hc : c < 36) (hf : far c = -9) (hfc : f c = true) (hr : rch f (src f a) e c = true) (he : e ≤ q) (hb : ∀ i, i < q → dd (Q i) ≤ e) : q < 36 ∧ BI f a (upd far c (nI e)) (upd qu q (nI c)) (q + 1) (fun i => if i = q then c else Q i) (fun x => if x = c then e else dd x) := by
  obtain ⟨h1, h2, h3, h4⟩ := h
  have hq : q < 36 := by
    rw [h4]
    exact cnt_lt hc (by simp [hf])
  have hno : ∀ i, i < q → Q i ≠ c := by
    rcases h3 c hc with ⟨-, h5⟩ | ⟨h5, i, hi, hic⟩
    · exact h5
    · intro j hj hjc
      have h6 := (h1 i hi).2.2.2.2
      rw [hic] at h6
      exact absurd (hf.symm.trans h5).symm (far_neg (by omega))
  refine ⟨hq, ?_, ?_, ?_, ?_⟩
  · intro i hi
    by_cases hiq : i = q
    · subst hiq
      simp only [if_true]
      exact ⟨hc, upd_s, hfc, hr, he⟩
    · have hi2 : i < q := by omega
      obtain ⟨g1, g2, g3, g4, g5⟩ := h1 i hi2
      simp only [hiq, if_false, hno i hi2]
      exact ⟨g1, by rw [upd_n hiq]; exact g2, g3, g4, g5⟩
  · intro i j hij hj
    by_cases hjq : j = q
    · subst hjq
      simp only [if_true]
      by_cases hiq : i = j
      · subst hiq; simp
      · have hi2 : i < j := by omega
        simp only [hiq, if_false, hno i hi2]
        exact hb i hi2
    · have hj2 : j < q := by omega
      have hiq : ¬ i = q := by omega
      simp only [hjq, hiq, if_false, hno i (by omega), hno j hj2]
      exact h2 i j hij hj2
  · intro x hx
    by_cases hxc : x = c
    · subst hxc
      exact Or.inr ⟨by rw [upd_s]; simp, q, by omega, by simp⟩
    · rcases h3 x hx with ⟨g1, g2⟩ | ⟨g1, i, g2, g3⟩
      · refine Or.inl ⟨by rw [upd_n hxc]; exact g1, fun i hi => ?_⟩
        by_cases hiq : i = q
        · simp only [hiq, if_true]; exact fun h => hxc h.symm
        · simp only [hiq, if_false]; exact g2 i (by omega)
      · refine Or.inr ⟨by rw [upd_n hxc]; simp only [hxc, if_false]; exact g1, i, by omega, ?_⟩
        have hiq : ¬ i = q := by omega
        simp only [hiq, if_false]
        exact g3
  · have h5 : cnt (fun x => decide (upd far c (nI e) x ≠ -9)) 36 = cnt (fun x => if x = c then true else decide (far x ≠ -9)) 36 := by
      refine cnt_cong (fun k hk => ?_)
      by_cases hkc : k = c
      · subst hkc
        rw [upd_s]
        have : (nI e) ≠ -9 := by
          intro h7
          have h8 : ¬ nI e < 0 := nI_pos (by omega)
          rw [h7] at h8
          exact h8 (by decide)
        simp [this]
      · rw [upd_n hkc]
        simp [hkc]
    rw [h5, cnt_upd (p := fun x => decide (far x ≠ -9)) (by simp [hf]) hc, ← h4]
/-- what holds while the k-th cell of the queue is looked at -/
def BK (f : Nat → Bool) (a k x e : Nat) (far qu : Nat → Int32) (q : Nat) (Q dd : Nat → Nat) : Prop :=
  BI f a far qu q Q dd ∧ k < q ∧ Q k = x ∧ dd x = e ∧ (∀ j, j < q → dd (Q j) ≤ e + 1) ∧ (f a = true → ∃ i, i < q ∧ Q i = a ∧ dd a = 0) ∧
  (∀ i, i < k → ∀ v d, v < 4 → bsd (Q i) v = some d → f d = true → (∃ j, j < q ∧ Q j = d) ∧ dd d ≤ dd (Q i) + 1)
/-- the loop over the four ways from the k-th cell -/
theorem ways_ok {α : Type} {K : ((Nat → Int32) × (Nat → Int32) × Int32) → Option α} {sh : Nat → Int32} {f : Nat → Bool} (hf : ∀ c, c < 36 → f c = decide (sh c ≠ 1)) {a k x e : Nat} {far qu : Nat → Int32} {q : Nat} {Q dd : Nat → Nat} (h : BK f a k x e far qu q Q dd) : ∃ far' qu' q' Q' dd', L_X12_findFar_45 K sh (nI k) gF 0 far qu (nI q) = K (far', qu', nI q') ∧ BK f a k x e far' qu' q' Q' dd' ∧ (∀ v d, v < 4 → bsd x v = some d → f d = true → (∃ j, j < q' ∧ Q' j = d) ∧ dd' d ≤ e + 1) ∧ (∀ i, i < q → Q' i = Q i) ∧ q ≤ q' := by
  have main := gloop (σ := (Nat → Int32) × (Nat → Int32) × Int32) (ρ := Option α) (fun n w s => L_X12_findFar_45 K sh (nI k) n (nI w) s.1 s.2.1 s.2.2) 4
    (fun w s => ∃ q' Q' dd', s.2.2 = nI q' ∧ BK f a k x e s.1 s.2.1 q' Q' dd' ∧ (∀ v d, v < w → bsd x v = some d → f d = true → (∃ j, j < q' ∧ Q' j = d) ∧ dd' d ≤ e + 1) ∧ (∀ i, i < q → Q' i = Q i) ∧ q ≤ q')
    (fun r => ∃ far' qu' q' Q' dd', r = K (far', qu', nI q') ∧ BK f a k x e far' qu' q' Q' dd' ∧ (∀ v d, v < 4 → bsd x v = some d → f d = true → (∃ j, j < q' ∧ Q' j = d) ∧ dd' d ≤ e + 1) ∧ (∀ i, i < q → Q' i = Q i) ∧ q ≤ q')
    ?_ ?_ gF 0 (far, qu, nI q) (by decide) (by decide) ⟨q, Q, dd, rfl, h, fun v d hv => by omega, fun i hi => rfl, Nat.le_refl _⟩
  · exact main
  · intro n s hI
    obtain ⟨q', Q', dd', h1, h2, h3, h4⟩ := hI
    refine ⟨s.1, s.2.1, q', Q', dd', ?_, h2, h3, h4⟩
    show L_X12_findFar_45 K sh (nI k) (n + 1) (nI 4) s.1 s.2.1 s.2.2 = _
    rw [L_X12_findFar_45.eq_2, if_pos (by decide), h1]
  · intro n w s hw hI
    obtain ⟨q', Q', dd', h1, h2, h3, h4, h5⟩ := hI
    right
    obtain ⟨far1, qu1, q1⟩ := s
    dsimp only at h1 h2 h3
    subst h1
    obtain ⟨hBI, hkq, hQk, hdx, hbd, hsrc, hcl⟩ := id h2
    have hx36 : x < 36 := by rw [← hQk]; exact (hBI.1 k hkq).1
    have hq36 := hBI.lt
    have hw0 : ¬ (4 : Int32) ≤ nI w := by rw [li 4, nI_leI (by decide) (by omega)]; omega
    have hquk : qu1 k = nI x := by rw [(hBI.1 k hkq).2.1, hQk]
    have hfx : far1 x = nI e := by
      rcases hBI.2.2.1 x hx36 with ⟨-, g2⟩ | ⟨g1, -⟩
      · exact absurd hQk (g2 k hkq)
      · rw [g1, hdx]
    have hstep : ∀ r : (Nat → Int32) × (Nat → Int32) × Int32, f_X12_reaches far1 sh qu1 (nI q') (bsI x w) (nI (e + 1)) = some r → L_X12_findFar_45 K sh (nI k) (n + 1) (nI w) far1 qu1 (nI q') = L_X12_findFar_45 K sh (nI k) n (nI (w + 1)) r.1 r.2.1 r.2.2 := by
      intro r hr
      rw [L_X12_findFar_45.eq_2, if_neg hw0, gix_ok (by omega) (by decide), nI_clamp (by omega), hquk, beside_ok x hx36 w hw]
      simp only [Option.bind_some]
      rw [gix_ok (by omega) (by decide), gix_ok hx36 (by decide), nI_clamp (by omega), hfx, nI_1, hr]
      simp only [Option.bind_some, nI_1]
    cases hb : bsd x w with
    | none =>
      have hr : f_X12_reaches far1 sh qu1 (nI q') (bsI x w) (nI (e + 1)) = some (far1, qu1, nI q') := by
        unfold bsI; rw [hb]; exact reaches_no
      refine ⟨(far1, qu1, nI q'), hstep _ hr, q', Q', dd', rfl, h2, fun v d hv hd hfd => ?_, h4, h5⟩
      by_cases hvw : v = w
      · subst hvw; rw [hb] at hd; cases hd
      · exact h3 v d (by omega) hd hfd
    | some d =>
      have hd36 := bsd_lt hx36 hb
      have hbs : bsI x w = nI d := by unfold bsI; rw [hb]
      by_cases hsh : sh d = 1
      · have hr : f_X12_reaches far1 sh qu1 (nI q') (bsI x w) (nI (e + 1)) = some (far1, qu1, nI q') := by
          rw [hbs, reaches_ok hd36 (fun h => absurd hsh h), if_pos hsh]
        refine ⟨(far1, qu1, nI q'), hstep _ hr, q', Q', dd', rfl, h2, fun v d' hv hd' hfd' => ?_, h4, h5⟩
        by_cases hvw : v = w
        · subst hvw
          rw [hb] at hd'
          cases hd'
          rw [hf d hd36] at hfd'
          simp [hsh] at hfd'
        · exact h3 v d' (by omega) hd' hfd'
      · have hfd : f d = true := by rw [hf d hd36]; simp [hsh]
        rcases hBI.2.2.1 d hd36 with ⟨g1, g2⟩ | ⟨g1, j, g2, g3⟩
        · -- new
          have hde : far1 d < 0 := by rw [g1]; decide
          have hrx : rch f (src f a) e x = true := by have := (hBI.1 k hkq).2.2.2.1; rw [hQk, hdx] at this; exact this
          have hfxx : f x = true := by have := (hBI.1 k hkq).2.2.1; rw [hQk] at this; exact this
          obtain ⟨v', hv', hbx⟩ := bsd_sym hx36 hw hb
          have hke : e ≤ k := by have := (hBI.1 k hkq).2.2.2.2; rw [hQk, hdx] at this; exact this
          obtain ⟨hq, hB'⟩ := hBI.add (c := d) (e := e + 1) hd36 g1 hfd (rch_step hv' hbx hrx hfxx hfd) (by omega) hbd
          have hr : f_X12_reaches far1 sh qu1 (nI q') (bsI x w) (nI (e + 1)) = some (upd far1 d (nI (e + 1)), upd qu1 q' (nI d), nI (q' + 1)) := by
            rw [hbs, reaches_ok hd36 (fun _ _ => hq), if_neg hsh, if_pos hde]
          have hxd : x ≠ d := fun hxd => by subst hxd; exact g2 k hkq hQk
          have hne : ∀ i, i < q' → (if i = q' then d else Q' i) = Q' i := fun i hi => if_neg (by omega)
          have hdn : ∀ i, i < q' → ¬ Q' i = d := fun i hi => g2 i hi
          refine ⟨_, hstep _ hr, q' + 1, _, _, rfl, ⟨hB', by omega, ?_, ?_, ?_, ?_, ?_⟩, ?_, ?_, by omega⟩
          · rw [hne k hkq]; exact hQk
          · simp only [hxd, if_false]; exact hdx
          · intro j hj
            by_cases hjq : j = q'
            · subst hjq; simp
            · have hj2 : j < q' := by omega
              simp only [hjq, if_false, hdn j hj2]
              exact hbd j hj2
          · intro hfa
            obtain ⟨i, gi, ge, gd⟩ := hsrc hfa
            have hid : ¬ a = d := fun h => hdn i gi (ge.trans h)
            exact ⟨i, by omega, by rw [hne i gi]; exact ge, by simp only [hid, if_false]; exact gd⟩
          · intro i hi v d' hv hd' hfd'
            rw [hne i (by omega)] at hd' ⊢
            obtain ⟨⟨j, gj, ge⟩, gd⟩ := hcl i hi v d' hv hd' hfd'
            have hdd : ¬ d' = d := fun h => hdn j gj (ge.trans h)
            refine ⟨⟨j, by omega, by rw [hne j gj]; exact ge⟩, ?_⟩
            simp only [hdd, if_false, hdn i (by omega)]
            exact gd
          · intro v d' hv hd' hfd'
            by_cases hvw : v = w
            · subst hvw
              rw [hb] at hd'
              cases hd'
              exact ⟨⟨q', by omega, by simp⟩, by simp⟩
            · obtain ⟨⟨j, gj, ge⟩, gd⟩ := h3 v d' (by omega) hd' hfd'
              have hdd : ¬ d' = d := fun h => hdn j gj (ge.trans h)
              exact ⟨⟨j, by omega, by rw [hne j gj]; exact ge⟩, by simp only [hdd, if_false]; exact gd⟩
          · intro i hi
            rw [hne i (by omega)]
            exact h4 i hi
        · have hnn : ¬ far1 d < 0 := by
            rw [g1]
            have := (hBI.1 j g2).2.2.2.2
            rw [g3] at this
            exact nI_pos (by omega)
          have hr : f_X12_reaches far1 sh qu1 (nI q') (bsI x w) (nI (e + 1)) = some (far1, qu1, nI q') := by
            rw [hbs, reaches_ok hd36 (fun _ h => absurd h hnn), if_neg hsh, if_neg hnn]
          refine ⟨(far1, qu1, nI q'), hstep _ hr, q', Q', dd', rfl, h2, fun v d' hv hd' hfd' => ?_, h4, h5⟩
          by_cases hvw : v = w
          · subst hvw
            rw [hb] at hd'
            cases hd'
            refine ⟨⟨j, g2, g3⟩, ?_⟩
            have := hbd j g2
            rw [g3] at this
            exact this
          · exact h3 v d' (by omega) hd' hfd'
/-- what a row of far ones says -/
def FarOK (f : Nat → Bool) (a : Nat) (far : Nat → Int32) : Prop := ∀ c, c < 36 → (∃ d, d ≤ 35 ∧ far c = nI d ∧ rch f (src f a) d c = true ∧ ∀ m, m < d → rch f (src f a) m c = false) ∨ (far c = -9 ∧ ∀ m, rch f (src f a) m c = false)
theorem rch_f {f : Nat → Bool} {a n c : Nat} (h : rch f (src f a) n c = true) : f c = true := by
  induction n with
  | zero =>
    have h1 : (decide (c = a) && f c) = true := h
    simp only [Bool.and_eq_true] at h1
    exact h1.2
  | succ n ih =>
    have h1 : (rch f (src f a) n c || (f c && nbs (fun d => rch f (src f a) n d && f d) c)) = true := h
    simp only [Bool.or_eq_true, Bool.and_eq_true] at h1
    rcases h1 with h1 | h1
    · exact ih h1
    · exact h1.1
theorem bfs_all {f : Nat → Bool} (hf36 : ∀ c, f c = true → c < 36) {a : Nat} {far qu : Nat → Int32} {q : Nat} {Q dd : Nat → Nat} (h : BI f a far qu q Q dd) (hsrc : f a = true → ∃ i, i < q ∧ Q i = a ∧ dd a = 0) (hcl : ∀ i, i < q → ∀ v d, v < 4 → bsd (Q i) v = some d → f d = true → (∃ j, j < q ∧ Q j = d) ∧ dd d ≤ dd (Q i) + 1) : FarOK f a far := by
  have all : ∀ n c, rch f (src f a) n c = true → ∃ j, j < q ∧ Q j = c ∧ dd c ≤ n := by
    intro n
    induction n with
    | zero =>
      intro c hc
      have h1 : (decide (c = a) && f c) = true := hc
      simp only [Bool.and_eq_true, decide_eq_true_eq] at h1
      obtain ⟨rfl, h2⟩ := h1
      obtain ⟨i, g1, g2, g3⟩ := hsrc h2
      exact ⟨i, g1, g2, by omega⟩
    | succ n ih =>
      intro c hc
      have h1 : (rch f (src f a) n c || (f c && nbs (fun d => rch f (src f a) n d && f d) c)) = true := hc
      simp only [Bool.or_eq_true, Bool.and_eq_true] at h1
      rcases h1 with h1 | ⟨h1, h2⟩
      · obtain ⟨j, g1, g2, g3⟩ := ih c h1
        exact ⟨j, g1, g2, by omega⟩
      · obtain ⟨w, d, g1, g2, g3⟩ := nbs_iff.mp h2
        simp only [Bool.and_eq_true] at g3
        obtain ⟨j, k1, k2, k3⟩ := ih d g3.1
        obtain ⟨v, e1, e2⟩ := bsd_sym (hf36 c h1) g1 g2
        obtain ⟨⟨j2, l1, l2⟩, l3⟩ := hcl j k1 v c e1 (by rw [k2]; exact e2) h1
        rw [k2] at l3
        exact ⟨j2, l1, l2, by omega⟩
  intro c hc
  rcases h.2.2.1 c hc with ⟨g1, g2⟩ | ⟨g1, i, g2, g3⟩
  · refine Or.inr ⟨g1, fun m => ?_⟩
    cases hm : rch f (src f a) m c with
    | false => rfl
    | true =>
      obtain ⟨j, k1, k2, -⟩ := all m c hm
      exact absurd k2 (g2 j k1)
  · have h5 := h.1 i g2
    have hq := h.lt
    rw [g3] at h5
    refine Or.inl ⟨dd c, by omega, g1, h5.2.2.2.1, fun m hm => ?_⟩
    cases hmm : rch f (src f a) m c with
    | false => rfl
    | true =>
      obtain ⟨j, k1, k2, k3⟩ := all m c hmm
      omega
theorem queue_ok {α : Type} {K : ((Nat → Int32) × (Nat → Int32) × Int32) → Option α} {sh : Nat → Int32} {f : Nat → Bool} (hf : ∀ c, c < 36 → f c = decide (sh c ≠ 1)) (hf36 : ∀ c, f c = true → c < 36) {a : Nat} : ∀ (n k : Nat) (far qu : Nat → Int32) (q : Nat) (Q dd : Nat → Nat), 36 - k < n → BI f a far qu q Q dd → k ≤ q → (k < q → ∀ j, j < q → dd (Q j) ≤ dd (Q k) + 1) → (f a = true → ∃ i, i < q ∧ Q i = a ∧ dd a = 0) → (∀ i, i < k → ∀ v d, v < 4 → bsd (Q i) v = some d → f d = true → (∃ j, j < q ∧ Q j = d) ∧ dd d ≤ dd (Q i) + 1) → ∃ far' qu' q', L_X12_findFar_35 K sh n (nI k) far qu (nI q) = K (far', qu', q') ∧ FarOK f a far' := by
  intro n
  induction n with
  | zero => intro k far qu q Q dd h; omega
  | succ n ih =>
    intro k far qu q Q dd hn hB hkq hbd hsrc hcl
    have hq := hB.lt
    rw [L_X12_findFar_35.eq_2]
    by_cases h : q ≤ k
    · have e : k = q := by omega
      subst e
      rw [if_pos (by rw [nI_leI (by omega) (by omega)]; omega)]
      exact ⟨far, qu, nI k, rfl, bfs_all hf36 hB hsrc hcl⟩
    · have hk : k < q := by omega
      rw [if_neg (by rw [nI_leI (by omega) (by omega)]; omega)]
      obtain ⟨far1, qu1, q1, Q1, dd1, e1, hK, hall, hQ, hqq⟩ := ways_ok (K := fun x45_83 => L_X12_findFar_35 K sh n (nI k + 1) x45_83.1 x45_83.2.1 x45_83.2.2) hf (x := Q k) (e := dd (Q k)) ⟨hB, hk, rfl, rfl, hbd hk, hsrc, hcl⟩
      obtain ⟨hB1, hk1, hQk, hdx, hbd1, hsrc1, hcl1⟩ := hK
      rw [e1]
      show ∃ far' qu' q', L_X12_findFar_35 K sh n (nI k + 1) far1 qu1 (nI q1) = K (far', qu', q') ∧ FarOK f a far'
      rw [nI_1]
      refine ih (k + 1) far1 qu1 q1 Q1 dd1 (by omega) hB1 (by omega) (fun hk2 j hj => ?_) hsrc1 (fun i hi v d hv hd hfd => ?_)
      · have h1 := hbd1 j hj
        have h2 := hB1.2.1 k (k + 1) (by omega) hk2
        rw [hQk, hdx] at h2
        omega
      · by_cases hik : i = k
        · subst hik
          rw [hQk] at hd ⊢
          rw [hdx]
          exact hall v d hv hd hfd
        · exact hcl1 i (by omega) v d hv hd hfd
theorem ff2_ok {α : Type} {K : (Nat → Int32) → Option α} {v1 : Int32} {far : Nat → Int32} : ∃ far', L_X12_findFar_2 K v1 gF 0 far = K far' ∧ ∀ c, c < 36 → far' c = -9 := by
  refine gloop (σ := Nat → Int32) (ρ := Option α) (fun n k s => L_X12_findFar_2 K v1 n (nI k) s) 36 (fun k s => ∀ c, c < k → s c = -9) (fun r => ∃ far', r = K far' ∧ ∀ c, c < 36 → far' c = -9) ?_ ?_ gF 0 far (by decide) (by decide) (fun c hc => by omega)
  · intro n s hI
    refine ⟨s, ?_, hI⟩
    show L_X12_findFar_2 K v1 (n + 1) (nI 36) s = _
    rw [L_X12_findFar_2.eq_2, if_pos (by decide)]
  · intro n k s hk hI
    right
    refine ⟨upd s k (-9), ?_, fun c hc => ?_⟩
    · show L_X12_findFar_2 K v1 (n + 1) (nI k) s = L_X12_findFar_2 K v1 n (nI (k + 1)) _
      rw [L_X12_findFar_2.eq_2, if_neg (by rw [li 36, nI_leI (by decide) (by omega)]; omega), gix_ok hk (by decide), nI_clamp (by omega), nI_1]
    · by_cases hck : c = k
      · subst hck; exact upd_s
      · rw [upd_n hck]; exact hI c (by omega)
theorem findFar_ok {far sh qu : Nat → Int32} {q0 : Int32} {f : Nat → Bool} (hf : ∀ c, c < 36 → f c = decide (sh c ≠ 1)) (hf36 : ∀ c, f c = true → c < 36) {a : Nat} (ha : a < 36) : ∃ far' qu' q', f_X12_findFar far sh qu q0 (nI a) = some (far', qu', q') ∧ FarOK f a far' := by
  unfold f_X12_findFar
  obtain ⟨far1, e1, h1⟩ := ff2_ok (K := fun x2_22 => (f_X12_reaches x2_22 sh qu 0 (nI a) 0).bind fun o30 => L_X12_findFar_35 (fun x35_89 => some (x35_89.1, x35_89.2.1, x35_89.2.2)) sh gF 0 o30.1 o30.2.1 o30.2.2) (v1 := nI a) (far := far)
  rw [e1]
  have h0 : f_X12_reaches far1 sh qu 0 (nI a) 0 = if sh a = 1 then some (far1, qu, nI 0) else if far1 a < 0 then some (upd far1 a 0, upd qu 0 (nI a), nI (0 + 1)) else some (far1, qu, nI 0) := reaches_ok (q := 0) ha (fun _ _ => by decide)
  rw [h0]
  have hB0 : BI f a far1 qu 0 (fun _ => 0) (fun _ => 0) := ⟨fun i hi => by omega, fun i j h1 h2 => by omega, fun c hc => Or.inl ⟨h1 c hc, fun i hi => by omega⟩, by
    have : cnt (fun c => decide (far1 c ≠ -9)) 36 = cnt (fun _ => false) 36 := cnt_cong (fun k hk => by simp [h1 k hk])
    rw [this]; rfl⟩
  by_cases hsh : sh a = 1
  · rw [if_pos hsh]
    simp only [Option.bind_some]
    obtain ⟨far', qu', q', e2, h2⟩ := queue_ok (K := fun x35_89 => some (x35_89.1, x35_89.2.1, x35_89.2.2)) (sh := sh) hf hf36 gF 0 far1 qu 0 (fun _ => 0) (fun _ => 0) (by decide) hB0 (Nat.le_refl _) (fun h => by omega) (fun hfa => by rw [hf a ha] at hfa; simp [hsh] at hfa) (fun i hi => by omega)
    exact ⟨far', qu', q', e2, h2⟩
  · have hfa : f a = true := by rw [hf a ha]; simp [hsh]
    rw [if_neg hsh, if_pos (by rw [h1 a ha]; decide)]
    simp only [Option.bind_some]
    have hr0 : rch f (src f a) 0 a = true := by show (decide (a = a) && f a) = true; simp [hfa]
    obtain ⟨-, hB1⟩ := hB0.add (c := a) (e := 0) ha (h1 a ha) hfa hr0 (Nat.le_refl _) (fun i hi => by omega)
    obtain ⟨far', qu', q', e2, h2⟩ := queue_ok (K := fun x35_89 => some (x35_89.1, x35_89.2.1, x35_89.2.2)) (sh := sh) hf hf36 gF 0 _ _ 1 _ _ (by decide) hB1 (by decide) (fun _ j hj => by
      have e : j = 0 := by omega
      subst e
      simp) (fun _ => ⟨0, by decide, by simp, by simp⟩) (fun i hi => by omega)
    exact ⟨far', qu', q', e2, h2⟩
theorem shuts_ok {wa sh : Nat → Int32} : ∃ sh', f_X12_shutsWalls wa sh = some sh' ∧ ∀ c, c < 36 → sh' c = wa c := by
  unfold f_X12_shutsWalls
  refine gloop (σ := Nat → Int32) (ρ := Option (Nat → Int32)) (fun n k s => L_X12_shutsWalls_2 (fun x2_26 => some x2_26) wa n (nI k) s) 36 (fun k s => ∀ c, c < k → s c = wa c) (fun r => ∃ sh', r = some sh' ∧ ∀ c, c < 36 → sh' c = wa c) ?_ ?_ gF 0 sh (by decide) (by decide) (fun c hc => by omega)
  · intro n s hI
    refine ⟨s, ?_, hI⟩
    show L_X12_shutsWalls_2 _ wa (n + 1) (nI 36) s = _
    rw [L_X12_shutsWalls_2.eq_2, if_pos (by decide)]
  · intro n k s hk hI
    right
    refine ⟨upd s k (wa k), ?_, fun c hc => ?_⟩
    · show L_X12_shutsWalls_2 _ wa (n + 1) (nI k) s = L_X12_shutsWalls_2 _ wa n (nI (k + 1)) _
      rw [L_X12_shutsWalls_2.eq_2, if_neg (by rw [li 36, nI_leI (by decide) (by omega)]; omega), gix_ok hk (by decide), gix_ok hk (by decide), nI_clamp (by omega), nI_1]
    · by_cases hck : c = k
      · subst hck; exact upd_s
      · rw [upd_n hck]; exact hI c (by omega)
