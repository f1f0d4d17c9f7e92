section
variable {gv : Nat → GV} {M hx : Nat} {ow : Nat → Nat} {S : SS} {re wa ka la ra li sa wh ce mi st ta ke ro : Nat → Int32} {hi : Int32} {fa sh qu lb may : Nat → Int32} {q : Int32} {tl1 le1 lt1 : Nat → Int32} {at1 ss1 ik1 cu1 : Int32}
/-! one statement read by the reference -/
theorem ko_256 : ∀ x, x < 256 → f_X12_kindOf (nI x) = some (if knB1 x = true then nI (kdN x) else -1) := by decide +kernel
theorem dig_lt {n q : Nat} {L : Nat → Nat} (h : dgB (tcN n L q) = true) : q < n ∧ dgN (tcN n L) q ≤ 9 := by
  have hd2 : 48 ≤ tcN n L q ∧ tcN n L q ≤ 57 := by
    unfold dgB at h
    simpa using h
  refine ⟨?_, by unfold dgN; omega⟩
  rcases Nat.lt_or_ge q n with g | g
  · exact g
  · have : tcN n L q = 300 := by unfold tcN; rw [if_neg (by omega)]
    omega
/-- what the reference keeps of a statement that is told at p -/
def TD (c : Nat → Nat) (p : Nat) (to : Nat → Int32) (k : Nat) : Prop := (c p = 108 → to (3 * k) = nI (kdN (c (p + 1))) ∧ to (3 * k + 1) = nI (celN c (p + 2)) ∧ to (3 * k + 2) = nI (dgN c (p + 4))) ∧ ((c p = 112 ∨ c p = 119) → to (3 * k) = nI (celN c (p + 1))) ∧ (c p = 103 → to (3 * k) = nI (dgN c (p + 1)) ∧ to (3 * k + 1) = nI (celN c (p + 2))) ∧ ((c p = 98 ∨ c p = 115) → to (3 * k) = nI (dgN c (p + 1)))
theorem fst1_2 {p : Nat → Bool} : fst1 p 2 = if p 0 = true then some 0 else if p 1 = true then some 1 else none := by
  unfold fst1 fst1 fst1
  cases p 0 <;> cases p 1 <;> rfl
theorem fst1_3 {p : Nat → Bool} : fst1 p 3 = if p 0 = true then some 0 else if p 1 = true then some 1 else if p 2 = true then some 2 else none := by
  unfold fst1
  rw [fst1_2]
  cases p 0 <;> cases p 1 <;> cases p 2 <;> rfl
theorem fst1_4 {p : Nat → Bool} : fst1 p 4 = if p 0 = true then some 0 else if p 1 = true then some 1 else if p 2 = true then some 2 else if p 3 = true then some 3 else none := by
  unfold fst1
  rw [fst1_3]
  cases p 0 <;> cases p 1 <;> cases p 2 <;> cases p 3 <;> rfl
theorem fst1_5 {p : Nat → Bool} : fst1 p 5 = if p 0 = true then some 0 else if p 1 = true then some 1 else if p 2 = true then some 2 else if p 3 = true then some 3 else if p 4 = true then some 4 else none := by
  unfold fst1
  rw [fst1_4]
  cases p 0 <;> cases p 1 <;> cases p 2 <;> cases p 3 <;> cases p 4 <;> rfl
/-- the readers' parts of a row of told numbers -/
def Oth (to to' : Nat → Int32) (s : Nat) : Prop := ∀ j, (j < 3 * s ∨ 3 * s + 3 ≤ j) → to' j = to j
theorem Oth.rf {to : Nat → Int32} {s : Nat} : Oth to to s := fun _ _ => rfl
theorem Oth.up {to t1 : Nat → Int32} {s i : Nat} {x : Int32} (h : Oth to t1 s) (hi : i < 3) : Oth to (upd t1 (3 * s + i) x) s := fun j hj => (upd_n (by omega)).trans (h j hj)
theorem Oth.up0 {to t1 : Nat → Int32} {s : Nat} {x : Int32} (h : Oth to t1 s) : Oth to (upd t1 (3 * s) x) s := fun j hj => (upd_n (by omega)).trans (h j hj)
section
variable {c : Nat → Nat} {p : Nat}
theorem bad_w (h : fmI (c p) = 2) : badP c p = if dgB (c (p + 1)) = true then (if dgB (c (p + 2)) = true then (if c (p + 3) = 59 then none else some (p + 3)) else some (p + 2)) else some (p + 1) := by
  unfold badP
  rw [h, if_neg (by decide), show fmL 2 = 3 from rfl, fst1_3]
  have e0 : fitB (fmC 2 0) (c (p + 1 + 0)) = dgB (c (p + 1)) := rfl
  have e1 : fitB (fmC 2 1) (c (p + 1 + 1)) = dgB (c (p + 2)) := rfl
  have e2 : fitB (fmC 2 2) (c (p + 1 + 2)) = decide (c (p + 3) = 59) := rfl
  simp only [e0, e1, e2]
  cases dgB (c (p + 1)) <;> cases dgB (c (p + 2)) <;> by_cases e : c (p + 3) = 59 <;> simp [e]
theorem bad_s (h : fmI (c p) = 3) : badP c p = if dgB (c (p + 1)) = true then (if c (p + 2) = 59 then none else some (p + 2)) else some (p + 1) := by
  unfold badP
  rw [h, if_neg (by decide), show fmL 3 = 2 from rfl, fst1_2]
  have e0 : fitB (fmC 3 0) (c (p + 1 + 0)) = dgB (c (p + 1)) := rfl
  have e1 : fitB (fmC 3 1) (c (p + 1 + 1)) = decide (c (p + 2) = 59) := rfl
  simp only [e0, e1]
  cases dgB (c (p + 1)) <;> by_cases e : c (p + 2) = 59 <;> simp [e]
theorem bad_g (h : fmI (c p) = 1) : badP c p = if dgB (c (p + 1)) = true then (if dgB (c (p + 2)) = true then (if dgB (c (p + 3)) = true then (if c (p + 4) = 59 then none else some (p + 4)) else some (p + 3)) else some (p + 2)) else some (p + 1) := by
  unfold badP
  rw [h, if_neg (by decide), show fmL 1 = 4 from rfl, fst1_4]
  have e0 : fitB (fmC 1 0) (c (p + 1 + 0)) = dgB (c (p + 1)) := rfl
  have e1 : fitB (fmC 1 1) (c (p + 1 + 1)) = dgB (c (p + 2)) := rfl
  have e2 : fitB (fmC 1 2) (c (p + 1 + 2)) = dgB (c (p + 3)) := rfl
  have e3 : fitB (fmC 1 3) (c (p + 1 + 3)) = decide (c (p + 4) = 59) := rfl
  simp only [e0, e1, e2, e3]
  cases dgB (c (p + 1)) <;> cases dgB (c (p + 2)) <;> cases dgB (c (p + 3)) <;> by_cases e : c (p + 4) = 59 <;> simp [e]
theorem bad_l (h : fmI (c p) = 0) : badP c p = if knB1 (c (p + 1)) = true then (if dgB (c (p + 2)) = true then (if dgB (c (p + 3)) = true then (if dgB (c (p + 4)) = true then (if c (p + 5) = 59 then none else some (p + 5)) else some (p + 4)) else some (p + 3)) else some (p + 2)) else some (p + 1) := by
  unfold badP
  rw [h, if_neg (by decide), show fmL 0 = 5 from rfl, fst1_5]
  have e0 : fitB (fmC 0 0) (c (p + 1 + 0)) = knB1 (c (p + 1)) := rfl
  have e1 : fitB (fmC 0 1) (c (p + 1 + 1)) = dgB (c (p + 2)) := rfl
  have e2 : fitB (fmC 0 2) (c (p + 1 + 2)) = dgB (c (p + 3)) := rfl
  have e3 : fitB (fmC 0 3) (c (p + 1 + 3)) = dgB (c (p + 4)) := rfl
  have e4 : fitB (fmC 0 4) (c (p + 1 + 4)) = decide (c (p + 5) = 59) := rfl
  simp only [e0, e1, e2, e3, e4]
  cases knB1 (c (p + 1)) <;> cases dgB (c (p + 2)) <;> cases dgB (c (p + 3)) <;> cases dgB (c (p + 4)) <;> by_cases e : c (p + 5) = 59 <;> simp [e]
end
def stmE (ta le lt : Nat → Int32) (n p s : Nat) (R : Option (Int32 × (Nat → Int32) × Int32)) (o1 : Int32) : Option (Int32 × (Nat → Int32) × (Nat → Int32) × (Nat → Int32) × Int32) := R.bind fun o84 => if o84.1 = 0 then some (0, upd le s o1, upd lt s (nI p), o84.2.1, o84.2.2) else (f_X12_signAt ta (nI n) o84.2.2).bind fun o91 => if o91 = 59 then some (1, upd le s o1, upd lt s (nI p), o84.2.1, o84.2.2 + 1) else some (0, upd le s o1, upd lt s (nI p), o84.2.1, o84.2.2)
theorem stm_x {n p s : Nat} {L : Nat → Nat} {to le lt : Nat → Int32} (hta : ∀ k, k < n → ta k = nI (L k)) (hn : n ≤ 96) (hp : p < 100) (hL : ∀ k, tcN n L k < 256 ∨ (tcN n L k = 300 ∧ n ≤ k)) (hs : s < 48) : ∃ le' lt' to' : Nat → Int32, (∀ b, badP (tcN n L) p = some b → f_X12_statement ta le lt to (nI n) (nI p) (nI s) = some (0, le', lt', to', nI b)) ∧ (badP (tcN n L) p = none → f_X12_statement ta le lt to (nI n) (nI p) (nI s) = some (1, le', lt', to', nI (nxP (tcN n L) p)) ∧ le' s = nI (tcN n L p) ∧ lt' s = nI p ∧ TD (tcN n L) p to' s) ∧ (∀ j, j ≠ s → le' j = le j ∧ lt' j = lt j) ∧ Oth to to' s := by
  have n1 : ¬ (1 : Int32) = 0 := by decide
  obtain ⟨c, hc⟩ : ∃ c, c = tcN n L := ⟨_, rfl⟩
  have sg : ∀ q, q < 2 ^ 31 → f_X12_signAt ta (nI n) (nI q) = some (if q < n then nI (c q) else -1) := fun q hq => by rw [hc]; exact sg_ok hta hn hq
  have r1 : ∀ q j (t0 : Nat → Int32), q < 200 → j < 144 → f_X12_readsDigits ta t0 (nI n) (nI q) (nI j) 1 = some (if dgB (c q) = true then (1, upd t0 j (nI (dgN c q)), nI (q + 1)) else (0, t0, nI q)) := fun q j t0 hq hj => by rw [hc]; exact rd1 hta hn hq hL hj
  have r2 : ∀ q j (t0 : Nat → Int32), q < 200 → j < 144 → f_X12_readsDigits ta t0 (nI n) (nI q) (nI j) 2 = some (if dgB (c q) = true then (if dgB (c (q + 1)) = true then (1, upd t0 j (nI (celN c q)), nI (q + 2)) else (0, t0, nI (q + 1))) else (0, t0, nI q)) := fun q j t0 hq hj => by rw [hc]; exact rd2 hta hn hq hL hj
  have lt300 : ∀ q, c q ≠ 300 → q < n := by
    intro q hq
    rcases Nat.lt_or_ge q n with g | g
    · exact g
    · exact absurd (by rw [hc]; unfold tcN; rw [if_neg (by omega)]) hq
  have small : ∀ q, c q < 2 ^ 31 := fun q => by rw [hc]; rcases hL q with h | h <;> omega
  have semi : ∀ q, q < 2 ^ 31 → ((if q < n then nI (c q) else -1 : Int32) = 59 ↔ c q = 59) := by
    intro q hq
    by_cases e : q < n
    · rw [if_pos e, show (59 : Int32) = nI 59 from rfl, nI_eq (small q) (by decide)]
    · rw [if_neg e]
      constructor
      · intro h; exact absurd h (by decide)
      · intro h; exact absurd (lt300 q (by omega)) e
  have e0 : ∀ {t' : Nat → Int32} {b : Nat} {o1 : Int32} {R : Option (Int32 × (Nat → Int32) × Int32)}, R = some (0, t', nI b) → stmE ta le lt n p s R o1 = some (0, upd le s o1, upd lt s (nI p), t', nI b) := by
    intro t' b o1 R h
    rw [h]
    unfold stmE
    simp only [obs, if_true]
  have e1 : ∀ {t' : Nat → Int32} {q : Nat} {o1 : Int32} {R : Option (Int32 × (Nat → Int32) × Int32)}, q < 2 ^ 31 → R = some (1, t', nI q) → c q = 59 → stmE ta le lt n p s R o1 = some (1, upd le s o1, upd lt s (nI p), t', nI (q + 1)) := by
    intro t' q o1 R hq h h59
    rw [h]
    unfold stmE
    simp only [obs, n1, if_false]
    rw [sg q hq]
    simp only [obs]
    rw [if_pos ((semi q hq).mpr h59), nI_1]
  have e2 : ∀ {t' : Nat → Int32} {q : Nat} {o1 : Int32} {R : Option (Int32 × (Nat → Int32) × Int32)}, q < 2 ^ 31 → R = some (1, t', nI q) → ¬ c q = 59 → stmE ta le lt n p s R o1 = some (0, upd le s o1, upd lt s (nI p), t', nI q) := by
    intro t' q o1 R hq h h59
    rw [h]
    unfold stmE
    simp only [obs, n1, if_false]
    rw [sg q hq]
    simp only [obs]
    rw [if_neg (fun g => h59 ((semi q hq).mp g))]
  have main : ∀ x, c p = x → fmI x ≠ 4 → f_X12_statement ta le lt to (nI n) (nI p) (nI s) = stmE ta le lt n p s (f_X12_readsAll ta to (nI n) (nI (p + 1)) (nI x) (nI (3 * s))) (nI x) := by
    intro x hx hf
    have hpn := lt300 p (by intro e; rw [e] at hx; rw [← hx] at hf; exact hf rfl)
    unfold f_X12_statement stmE
    rw [sg p (by omega), if_pos hpn, hx, i3, nI_1]
    simp only [obs, gix_ok hs (show 48 < 2 ^ 31 by decide), nI_clamp (show s < 2 ^ 31 by omega)]
    rcases fmI_l x with h4 | ⟨-, h⟩ | ⟨-, h⟩ | ⟨-, h | h⟩ | ⟨-, h | h⟩
    · exact absurd h4 hf
    · subst h
      rw [if_pos (by decide)]
    · subst h
      rw [if_neg (by decide), if_neg (by decide), if_neg (by decide), if_pos (by decide)]
    · subst h
      rw [if_neg (by decide), if_neg (by decide), if_pos (by decide)]
    · subst h
      rw [if_neg (by decide), if_pos (by decide)]
    · subst h
      rw [if_neg (by decide), if_neg (by decide), if_neg (by decide), if_neg (by decide), if_neg (by decide), if_pos (by decide)]
    · subst h
      rw [if_neg (by decide), if_neg (by decide), if_neg (by decide), if_neg (by decide), if_pos (by decide)]
  have oth2 : ∀ x j, j ≠ s → upd le s (nI x) j = le j ∧ upd lt s (nI p) j = lt j := fun x j hj => ⟨upd_n hj, upd_n hj⟩
  rw [← hc]
  rcases fmI_l (c p) with h4 | ⟨h5, hx⟩ | ⟨h5, hx⟩ | ⟨h5, hx⟩ | ⟨h5, hx⟩
  · have hb : badP c p = some p := by unfold badP; rw [if_pos h4]
    have ne : ∀ x, x < 2 ^ 31 → fmI x ≠ 4 → ¬ (if p < n then nI (c p) else -1 : Int32) = nI x := by
      intro x g hx
      by_cases e : p < n
      · rw [if_pos e, nI_eq (small p) g]
        intro e2
        rw [e2] at h4
        exact hx h4
      · rw [if_neg e]
        intro e2
        have : (-1 : Int32) < 0 := by decide
        rw [e2] at this
        exact nI_pos g this
    have k1 : ¬ (if p < n then nI (c p) else -1 : Int32) = 108 := ne 108 (by decide) (by decide)
    have k2 : ¬ (if p < n then nI (c p) else -1 : Int32) = 119 := ne 119 (by decide) (by decide)
    have k3 : ¬ (if p < n then nI (c p) else -1 : Int32) = 112 := ne 112 (by decide) (by decide)
    have k4 : ¬ (if p < n then nI (c p) else -1 : Int32) = 103 := ne 103 (by decide) (by decide)
    have k5 : ¬ (if p < n then nI (c p) else -1 : Int32) = 115 := ne 115 (by decide) (by decide)
    have k6 : ¬ (if p < n then nI (c p) else -1 : Int32) = 98 := ne 98 (by decide) (by decide)
    refine ⟨le, lt, to, fun b hb2 => ?_, fun h => (by rw [hb] at h; cases h), fun _ _ => ⟨rfl, rfl⟩, Oth.rf⟩
    rw [hb] at hb2
    cases hb2
    unfold f_X12_statement
    rw [sg p (by omega)]
    simp only [obs, k1, k2, k3, k4, k5, k6, if_false]
  · -- a lamp
    have hb := bad_l (c := c) (p := p) (by rw [hx]; rfl)
    have hm := main 108 hx (by decide)
    have nx : nxP c p = p + 6 := by unfold nxP; rw [hx]; rfl
    have hko : f_X12_kindOf (if p + 1 < n then nI (c (p + 1)) else -1) = some (if knB1 (c (p + 1)) = true then nI (kdN (c (p + 1))) else -1) := by
      by_cases e : p + 1 < n
      · rw [if_pos e]
        have := hL (p + 1)
        rw [← hc] at this
        exact ko_256 _ (this.resolve_right (by omega))
      · have e3 : c (p + 1) = 300 := by rw [hc]; unfold tcN; rw [if_neg e]
        rw [if_neg e, e3]
        rfl
    have ra : f_X12_readsAll ta to (nI n) (nI (p + 1)) (nI 108) (nI (3 * s)) = (f_X12_readsLamp ta to (nI n) (nI (p + 1)) (nI (3 * s))).bind fun o46 => gzb o46.1 (some (o46.1, o46.2.1, o46.2.2)) := by
      unfold f_X12_readsAll
      rw [if_neg (by decide), if_pos (by decide)]
    cases k1 : knB1 (c (p + 1)) with
    | false =>
      have R : f_X12_readsAll ta to (nI n) (nI (p + 1)) (nI 108) (nI (3 * s)) = some (0, upd to (3 * s) (-1), nI (p + 1)) := by
        rw [ra]
        unfold f_X12_readsLamp
        rw [sg (p + 1) (by omega)]
        simp only [obs]
        rw [hko, k1, if_neg (by decide)]
        simp only [obs]
        rw [gix_ok (show 3 * s < 144 by omega) (by decide), gix_ok (show 3 * s < 144 by omega) (by decide), nI_clamp (show 3 * s < 2 ^ 31 by omega), upd_s, if_neg (by decide)]
        simp only [obs]
        rw [gzb_0]
      rw [k1, if_neg (by decide)] at hb
      refine ⟨upd le s (nI 108), upd lt s (nI p), upd to (3 * s) (-1), fun b hb2 => ?_, fun h => (by rw [hb] at h; cases h), oth2 108, Oth.rf.up0⟩
      rw [hb] at hb2
      cases hb2
      rw [hm, e0 R]
    | true =>
      have R0 : f_X12_readsAll ta to (nI n) (nI (p + 1)) (nI 108) (nI (3 * s)) = some (if dgB (c (p + 2)) = true then (if dgB (c (p + 3)) = true then (if dgB (c (p + 4)) = true then (1, upd (upd (upd to (3 * s) (nI (kdN (c (p + 1))))) (3 * s + 1) (nI (celN c (p + 2)))) (3 * s + 2) (nI (dgN c (p + 4))), nI (p + 5)) else (0, upd (upd to (3 * s) (nI (kdN (c (p + 1))))) (3 * s + 1) (nI (celN c (p + 2))), nI (p + 4))) else (0, upd to (3 * s) (nI (kdN (c (p + 1)))), nI (p + 3))) else (0, upd to (3 * s) (nI (kdN (c (p + 1)))), nI (p + 2))) := by
        have k7n : kdN (c (p + 1)) < 2 ^ 31 := by
          unfold kdN
          repeat' split
          all_goals decide
        rw [ra]
        unfold f_X12_readsLamp
        rw [sg (p + 1) (by omega)]
        simp only [obs]
        rw [hko, k1, if_pos rfl]
        simp only [obs]
        rw [gix_ok (show 3 * s < 144 by omega) (by decide), gix_ok (show 3 * s < 144 by omega) (by decide), nI_clamp (show 3 * s < 2 ^ 31 by omega), upd_s, if_pos (nI_pos' k7n), nI_1, nI_1, r2 (p + 1 + 1) (3 * s + 1) _ (by omega) (by omega)]
        simp only [obs]
        rw [show p + 1 + 1 = p + 2 by omega]
        cases d1 : dgB (c (p + 2)) with
        | false =>
          simp only [obs, Bool.false_eq_true, eq_self, if_false, if_true, gzb_0]
        | true =>
          rw [if_pos rfl, if_pos rfl, show p + 2 + 1 = p + 3 by omega]
          cases d2 : dgB (c (p + 3)) with
          | false =>
            simp only [obs, Bool.false_eq_true, eq_self, if_false, if_true, gzb_0]
          | true =>
            rw [if_pos rfl, if_pos rfl, if_neg n1, show (2 : Int32) = nI 2 from rfl, nI_add, r1 (p + 2 + 2) (3 * s + 2) _ (by omega) (by omega)]
            simp only [obs]
            rw [show p + 2 + 2 = p + 4 by omega]
            cases d3 : dgB (c (p + 4)) with
            | false =>
              simp only [obs, Bool.false_eq_true, eq_self, if_false, if_true, gzb_0]
            | true =>
              simp only [obs, eq_self, if_true, n1, if_false, gzb_1]
      rw [k1, if_pos rfl] at hb
      cases d1 : dgB (c (p + 2)) with
      | false =>
        rw [d1, if_neg (by decide)] at hb R0
        refine ⟨upd le s (nI 108), upd lt s (nI p), upd to (3 * s) (nI (kdN (c (p + 1)))), fun b hb2 => ?_, fun h => (by rw [hb] at h; cases h), oth2 108, Oth.rf.up0⟩
        rw [hb] at hb2
        cases hb2
        rw [hm, e0 R0]
      | true =>
        rw [d1, if_pos rfl] at hb R0
        cases d2 : dgB (c (p + 3)) with
        | false =>
          rw [d2, if_neg (by decide)] at hb R0
          refine ⟨upd le s (nI 108), upd lt s (nI p), upd to (3 * s) (nI (kdN (c (p + 1)))), fun b hb2 => ?_, fun h => (by rw [hb] at h; cases h), oth2 108, Oth.rf.up0⟩
          rw [hb] at hb2
          cases hb2
          rw [hm, e0 R0]
        | true =>
          rw [d2, if_pos rfl] at hb R0
          cases d3 : dgB (c (p + 4)) with
          | false =>
            rw [d3, if_neg (by decide)] at hb R0
            refine ⟨upd le s (nI 108), upd lt s (nI p), upd (upd to (3 * s) (nI (kdN (c (p + 1))))) (3 * s + 1) (nI (celN c (p + 2))), fun b hb2 => ?_, fun h => (by rw [hb] at h; cases h), oth2 108, Oth.rf.up0.up (by decide)⟩
            rw [hb] at hb2
            cases hb2
            rw [hm, e0 R0]
          | true =>
            rw [d3, if_pos rfl] at hb R0
            by_cases d4 : c (p + 5) = 59
            · rw [if_pos d4] at hb
              refine ⟨upd le s (nI 108), upd lt s (nI p), upd (upd (upd to (3 * s) (nI (kdN (c (p + 1))))) (3 * s + 1) (nI (celN c (p + 2)))) (3 * s + 2) (nI (dgN c (p + 4))), fun b hb2 => (by rw [hb] at hb2; cases hb2), fun _ => ⟨?_, ?_, upd_s, ⟨fun _ => ⟨?_, ?_, upd_s⟩, fun h => by omega, fun h => by omega, fun h => by omega⟩⟩, oth2 108, (Oth.rf.up0.up (by decide)).up (by decide)⟩
              · rw [hm, e1 (by omega) R0 d4, nx]
              · rw [upd_s, hx]
              · rw [upd_n (by omega), upd_n (by omega), upd_s]
              · rw [upd_n (by omega), upd_s]
            · rw [if_neg d4] at hb
              refine ⟨upd le s (nI 108), upd lt s (nI p), upd (upd (upd to (3 * s) (nI (kdN (c (p + 1))))) (3 * s + 1) (nI (celN c (p + 2)))) (3 * s + 2) (nI (dgN c (p + 4))), fun b hb2 => ?_, fun h => (by rw [hb] at h; cases h), oth2 108, (Oth.rf.up0.up (by decide)).up (by decide)⟩
              rw [hb] at hb2
              cases hb2
              rw [hm, e2 (by omega) R0 d4]
  · -- one goes
    have hb := bad_g (c := c) (p := p) (by rw [hx]; rfl)
    have hm := main 103 hx (by decide)
    have nx : nxP c p = p + 5 := by unfold nxP; rw [hx]; rfl
    have R0 : f_X12_readsAll ta to (nI n) (nI (p + 1)) (nI 103) (nI (3 * s)) = some (if dgB (c (p + 1)) = true then (if dgB (c (p + 2)) = true then (if dgB (c (p + 3)) = true then (1, upd (upd to (3 * s) (nI (dgN c (p + 1)))) (3 * s + 1) (nI (celN c (p + 2))), nI (p + 4)) else (0, upd to (3 * s) (nI (dgN c (p + 1))), nI (p + 3))) else (0, upd to (3 * s) (nI (dgN c (p + 1))), nI (p + 2))) else (0, to, nI (p + 1))) := by
      unfold f_X12_readsAll
      rw [if_pos (by decide), r1 (p + 1) (3 * s) _ (by omega) (by omega)]
      simp only [obs]
      cases d1 : dgB (c (p + 1)) with
      | false =>
        simp only [obs, Bool.false_eq_true, eq_self, if_false, if_true, gzb_0]
      | true =>
        rw [if_pos rfl, if_pos rfl, if_neg n1, nI_1, r2 (p + 1 + 1) (3 * s + 1) _ (by omega) (by omega)]
        simp only [obs]
        rw [show p + 1 + 1 = p + 2 by omega, show p + 2 + 1 = p + 3 by omega]
        cases d2 : dgB (c (p + 2)) with
        | false =>
          simp only [obs, Bool.false_eq_true, eq_self, if_false, if_true, gzb_0]
        | true =>
          simp only [eq_self, if_true]
          cases d3 : dgB (c (p + 3)) with
          | false =>
            simp only [obs, Bool.false_eq_true, eq_self, if_false, if_true, gzb_0]
          | true =>
            simp only [obs, eq_self, if_true, n1, if_false, gzb_1]
    cases d1 : dgB (c (p + 1)) with
    | false =>
      rw [d1, if_neg (by decide)] at hb R0
      refine ⟨upd le s (nI 103), upd lt s (nI p), to, fun b hb2 => ?_, fun h => (by rw [hb] at h; cases h), oth2 103, Oth.rf⟩
      rw [hb] at hb2
      cases hb2
      rw [hm, e0 R0]
    | true =>
      rw [d1, if_pos rfl] at hb R0
      cases d2 : dgB (c (p + 2)) with
      | false =>
        rw [d2, if_neg (by decide)] at hb R0
        refine ⟨upd le s (nI 103), upd lt s (nI p), upd to (3 * s) (nI (dgN c (p + 1))), fun b hb2 => ?_, fun h => (by rw [hb] at h; cases h), oth2 103, Oth.rf.up0⟩
        rw [hb] at hb2
        cases hb2
        rw [hm, e0 R0]
      | true =>
        rw [d2, if_pos rfl] at hb R0
        cases d3 : dgB (c (p + 3)) with
        | false =>
          rw [d3, if_neg (by decide)] at hb R0
          refine ⟨upd le s (nI 103), upd lt s (nI p), upd to (3 * s) (nI (dgN c (p + 1))), fun b hb2 => ?_, fun h => (by rw [hb] at h; cases h), oth2 103, Oth.rf.up0⟩
          rw [hb] at hb2
          cases hb2
          rw [hm, e0 R0]
        | true =>
          rw [d3, if_pos rfl] at hb R0
          by_cases d4 : c (p + 4) = 59
          · rw [if_pos d4] at hb
            refine ⟨upd le s (nI 103), upd lt s (nI p), upd (upd to (3 * s) (nI (dgN c (p + 1)))) (3 * s + 1) (nI (celN c (p + 2))), fun b hb2 => (by rw [hb] at hb2; cases hb2), fun _ => ⟨?_, ?_, upd_s, ⟨fun h => by omega, fun h => by omega, fun _ => ⟨?_, upd_s⟩, fun h => by omega⟩⟩, oth2 103, Oth.rf.up0.up (by decide)⟩
            · rw [hm, e1 (by omega) R0 d4, nx]
            · rw [upd_s, hx]
            · rw [upd_n (by omega), upd_s]
          · rw [if_neg d4] at hb
            refine ⟨upd le s (nI 103), upd lt s (nI p), upd (upd to (3 * s) (nI (dgN c (p + 1)))) (3 * s + 1) (nI (celN c (p + 2))), fun b hb2 => ?_, fun h => (by rw [hb] at h; cases h), oth2 103, Oth.rf.up0.up (by decide)⟩
            rw [hb] at hb2
            cases hb2
            rw [hm, e2 (by omega) R0 d4]
  · -- a wall, a person
    have hb := bad_w (c := c) (p := p) (by rcases hx with e | e <;> rw [e] <;> rfl)
    have hm := main (c p) rfl (by rcases hx with e | e <;> rw [e] <;> decide)
    have nx : nxP c p = p + 4 := by unfold nxP; rcases hx with e | e <;> rw [e] <;> rfl
    have R0 : f_X12_readsAll ta to (nI n) (nI (p + 1)) (nI (c p)) (nI (3 * s)) = some (if dgB (c (p + 1)) = true then (if dgB (c (p + 2)) = true then (1, upd to (3 * s) (nI (celN c (p + 1))), nI (p + 3)) else (0, to, nI (p + 2))) else (0, to, nI (p + 1))) := by
      have rr : f_X12_readsAll ta to (nI n) (nI (p + 1)) (nI (c p)) (nI (3 * s)) = (f_X12_readsDigits ta to (nI n) (nI (p + 1)) (nI (3 * s)) 2).bind fun o53 => gzb o53.1 (some (o53.1, o53.2.1, o53.2.2)) := by
        unfold f_X12_readsAll
        rcases hx with e | e
        · rw [e, if_neg (by decide), if_neg (by decide), if_pos (by decide)]
        · rw [e, if_neg (by decide), if_neg (by decide), if_neg (by decide), if_pos (by decide)]
      rw [rr, r2 (p + 1) (3 * s) _ (by omega) (by omega)]
      simp only [obs]
      rw [show p + 1 + 1 = p + 2 by omega, show p + 1 + 2 = p + 3 by omega]
      cases d1 : dgB (c (p + 1)) with
      | false =>
        simp only [obs, Bool.false_eq_true, eq_self, if_false, if_true, gzb_0]
      | true =>
        simp only [eq_self, if_true]
        cases d2 : dgB (c (p + 2)) with
        | false =>
          simp only [obs, Bool.false_eq_true, eq_self, if_false, if_true, gzb_0]
        | true =>
          simp only [obs, eq_self, if_true, n1, if_false, gzb_1]
    cases d1 : dgB (c (p + 1)) with
    | false =>
      rw [d1, if_neg (by decide)] at hb R0
      refine ⟨upd le s (nI (c p)), upd lt s (nI p), to, fun b hb2 => ?_, fun h => (by rw [hb] at h; cases h), oth2 (c p), Oth.rf⟩
      rw [hb] at hb2
      cases hb2
      rw [hm, e0 R0]
    | true =>
      rw [d1, if_pos rfl] at hb R0
      cases d2 : dgB (c (p + 2)) with
      | false =>
        rw [d2, if_neg (by decide)] at hb R0
        refine ⟨upd le s (nI (c p)), upd lt s (nI p), to, fun b hb2 => ?_, fun h => (by rw [hb] at h; cases h), oth2 (c p), Oth.rf⟩
        rw [hb] at hb2
        cases hb2
        rw [hm, e0 R0]
      | true =>
        rw [d2, if_pos rfl] at hb R0
        by_cases d4 : c (p + 3) = 59
        · rw [if_pos d4] at hb
          refine ⟨upd le s (nI (c p)), upd lt s (nI p), upd to (3 * s) (nI (celN c (p + 1))), fun b hb2 => (by rw [hb] at hb2; cases hb2), fun _ => ⟨?_, upd_s, upd_s, ⟨fun h => by omega, fun _ => upd_s, fun h => by omega, fun h => by omega⟩⟩, oth2 (c p), Oth.rf.up0⟩
          rw [hm, e1 (by omega) R0 d4, nx]
        · rw [if_neg d4] at hb
          refine ⟨upd le s (nI (c p)), upd lt s (nI p), upd to (3 * s) (nI (celN c (p + 1))), fun b hb2 => ?_, fun h => (by rw [hb] at h; cases h), oth2 (c p), Oth.rf.up0⟩
          rw [hb] at hb2
          cases hb2
          rw [hm, e2 (by omega) R0 d4]
  · -- lit or no more, broken
    have hb := bad_s (c := c) (p := p) (by rcases hx with e | e <;> rw [e] <;> rfl)
    have hm := main (c p) rfl (by rcases hx with e | e <;> rw [e] <;> decide)
    have nx : nxP c p = p + 3 := by unfold nxP; rcases hx with e | e <;> rw [e] <;> rfl
    have R0 : f_X12_readsAll ta to (nI n) (nI (p + 1)) (nI (c p)) (nI (3 * s)) = some (if dgB (c (p + 1)) = true then (1, upd to (3 * s) (nI (dgN c (p + 1))), nI (p + 2)) else (0, to, nI (p + 1))) := by
      have rr : f_X12_readsAll ta to (nI n) (nI (p + 1)) (nI (c p)) (nI (3 * s)) = (f_X12_readsDigits ta to (nI n) (nI (p + 1)) (nI (3 * s)) 1).bind fun o86 => gzb o86.1 (some (o86.1, o86.2.1, o86.2.2)) := by
        unfold f_X12_readsAll
        rcases hx with e | e
        · rw [e, if_neg (by decide), if_neg (by decide), if_neg (by decide), if_neg (by decide)]
        · rw [e, if_neg (by decide), if_neg (by decide), if_neg (by decide), if_neg (by decide)]
      rw [rr, r1 (p + 1) (3 * s) _ (by omega) (by omega)]
      simp only [obs]
      rw [show p + 1 + 1 = p + 2 by omega]
      cases d1 : dgB (c (p + 1)) with
      | false =>
        simp only [obs, Bool.false_eq_true, eq_self, if_false, if_true, gzb_0]
      | true =>
        simp only [obs, eq_self, if_true, n1, if_false, gzb_1]
    cases d1 : dgB (c (p + 1)) with
    | false =>
      rw [d1, if_neg (by decide)] at hb R0
      refine ⟨upd le s (nI (c p)), upd lt s (nI p), to, fun b hb2 => ?_, fun h => (by rw [hb] at h; cases h), oth2 (c p), Oth.rf⟩
      rw [hb] at hb2
      cases hb2
      rw [hm, e0 R0]
    | true =>
      rw [d1, if_pos rfl] at hb R0
      by_cases d4 : c (p + 2) = 59
      · rw [if_pos d4] at hb
        refine ⟨upd le s (nI (c p)), upd lt s (nI p), upd to (3 * s) (nI (dgN c (p + 1))), fun b hb2 => (by rw [hb] at hb2; cases hb2), fun _ => ⟨?_, upd_s, upd_s, ⟨fun h => by omega, fun h => by omega, fun h => by omega, fun _ => upd_s⟩⟩, oth2 (c p), Oth.rf.up0⟩
        rw [hm, e1 (by omega) R0 d4, nx]
      · rw [if_neg d4] at hb
        refine ⟨upd le s (nI (c p)), upd lt s (nI p), upd to (3 * s) (nI (dgN c (p + 1))), fun b hb2 => ?_, fun h => (by rw [hb] at h; cases h), oth2 (c p), Oth.rf.up0⟩
        rw [hb] at hb2
        cases hb2
        rw [hm, e2 (by omega) R0 d4]
end
