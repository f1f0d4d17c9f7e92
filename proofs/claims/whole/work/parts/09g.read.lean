section
variable {gv : Nat → GV} {M hx : Nat} {ow : Nat → Nat} {S : SS} {re wa ka la ra li sa wh ce mi st ta ke ro : Nat → Int32} {hi : Int32} {fa sh qu lb may : Nat → Int32} {q : Int32} {tl1 le1 lt1 : Nat → Int32} {at1 ss1 ik1 cu1 : Int32}
/-! THE LETTERS READ: both sides go through them alike -/
def PR (c : Nat → Nat) (n s : Nat) (le lt to : Nat → Int32) : Prop := ∀ k, k < s → badP c (posF c k) = none ∧ posF c k < n ∧ le k = nI (c (posF c k)) ∧ lt k = nI (posF c k) ∧ TD c (posF c k) to k
theorem TD.fr {c : Nat → Nat} {p k s : Nat} {to to' : Nat → Int32} (h : TD c p to k) (hk : k < s) (ho : Oth to to' s) : TD c p to' k := by
  have e0 := ho (3 * k) (by omega)
  have e1 := ho (3 * k + 1) (by omega)
  have e2 := ho (3 * k + 2) (by omega)
  unfold TD at h ⊢
  rw [e0, e1, e2]
  exact h
theorem tcN_lt {n q : Nat} {L : Nat → Nat} (h : tcN n L q ≠ 300) : q < n := by
  rcases Nat.lt_or_ge q n with g | g
  · exact g
  · exact absurd (by unfold tcN; rw [if_neg (by omega)]) h
theorem good_lt {n p : Nat} {L : Nat → Nat} (h : badP (tcN n L) p = none) : p < n ∧ nxP (tcN n L) p ≤ n ∧ p + 3 ≤ nxP (tcN n L) p := by
  obtain ⟨h4, hf⟩ := badP_none h
  have hl := fmI_l (tcN n L p)
  have hl2 : 2 ≤ fmL (fmI (tcN n L p)) := by omega
  have h59 := hf (fmL (fmI (tcN n L p)) - 1) (by omega)
  have e : fmC (fmI (tcN n L p)) (fmL (fmI (tcN n L p)) - 1) = 59 := by
    unfold fmC
    rw [if_pos (by omega)]
  rw [e] at h59
  have h59 : tcN n L (p + 1 + (fmL (fmI (tcN n L p)) - 1)) = 59 := by
    unfold fitB at h59
    rw [if_neg (by decide), if_neg (by decide)] at h59
    simpa using h59
  have := tcN_lt (n := n) (L := L) (q := p + 1 + (fmL (fmI (tcN n L p)) - 1)) (by rw [h59]; decide)
  unfold nxP
  omega
theorem PR.three {n s : Nat} {L : Nat → Nat} {le lt to : Nat → Int32} (h : PR (tcN n L) n s le lt to) : ∀ k, k ≤ s → 3 * k ≤ posF (tcN n L) k ∧ posF (tcN n L) k ≤ n := by
  intro k
  induction k with
  | zero => exact fun _ => ⟨Nat.zero_le _, Nat.zero_le _⟩
  | succ k ih =>
    intro hk
    have a1 := ih (by omega)
    have a2 := good_lt (h k (by omega)).1
    show 3 * (k + 1) ≤ nxP (tcN n L) (posF (tcN n L) k) ∧ nxP (tcN n L) (posF (tcN n L) k) ≤ n
    omega
def PO (n : Nat) (L : Nat → Nat) (cl : Option Int32) (rf : ∀ α : Type, ((Int32 × (Nat → Int32) × (Nat → Int32) × (Nat → Int32) × Int32 × Int32) → Option α) → Option α) : Prop := (∃ b le' lt' to' s', cl = some (nI b) ∧ b < 1000 ∧ ∀ α K, rf α K = K (0, le', lt', to', nI b, s')) ∨ ∃ N le' lt' to', cl = some (-9) ∧ (∀ α K, rf α K = K (1, le', lt', to', nI n, nI N)) ∧ PR (tcN n L) n N le' lt' to' ∧ posF (tcN n L) N = n ∧ 0 < N
theorem PO.to {n : Nat} {L : Nat → Nat} {cl : Option Int32} {rf rf' : ∀ α : Type, ((Int32 × (Nat → Int32) × (Nat → Int32) × (Nat → Int32) × Int32 × Int32) → Option α) → Option α} (h : PO n L cl rf') (e : ∀ α K, rf α K = rf' α K) : PO n L cl rf := by
  rcases h with ⟨b, le', lt', to', s', h1, h2, h3⟩ | ⟨N, le', lt', to', h1, h2, h3⟩
  · exact Or.inl ⟨b, le', lt', to', s', h1, h2, fun α K => (e α K).trans (h3 α K)⟩
  · exact Or.inr ⟨N, le', lt', to', h1, fun α K => (e α K).trans (h2 α K), h3⟩
theorem badP_lt {c : Nat → Nat} {p b : Nat} (h : badP c p = some b) : b ≤ p + 6 := by
  have hl := fmL_le (fmI (c p))
  unfold badP at h
  by_cases e : fmI (c p) = 4
  · rw [if_pos e] at h
    cases h
    omega
  · rw [if_neg e] at h
    cases hq : fst1 (fun i => !fitB (fmC (fmI (c p)) i) (c (p + 1 + i))) (fmL (fmI (c p))) with
    | none => rw [hq] at h; cases h
    | some i =>
      rw [hq] at h
      have := (fst1_some hq).1
      cases h
      omega
theorem parse_ok {l n : Nat} {L : Nat → Nat} (hta : ∀ k, k < n → ta k = nI (L k)) (hg : LT gv l n L) (le lt to : Nat → Int32) : PO n L (f_X6_misplaced gv l) (fun α K60 => L_X12_town_12 K60 ta (nI n) gF 1 le lt to 0 0) := by
  have hn := hg.n96
  have hL := hg.tc
  have n1 : ¬ (1 : Int32) = 0 := by decide
  have main : ∀ d s (le lt to : Nat → Int32) m1 m2, n < posF (tcN n L) s + d → (posF (tcN n L) s < n ∨ s = 0) → PR (tcN n L) n s le lt to → d + 2 ≤ m1 → d + 2 ≤ m2 → PO n L (L_X6_misplaced_2 (fun x2_18 => some x2_18) (fun x2_49 => some x2_49) (fun _ => some (-9 : Int32)) gv l m1 (nI (posF (tcN n L) s))) (fun α K60 => L_X12_town_12 K60 ta (nI n) m2 1 le lt to (nI (posF (tcN n L) s)) (nI s)) := by
    intro d
    induction d with
    | zero =>
      intro s le lt to m1 m2 hd h0 hP
      have := hP.three s (Nat.le_refl _)
      omega
    | succ d ih =>
      intro s le lt to m1 m2 hd h0 hP h1 h2
      obtain ⟨k1, rfl⟩ : ∃ k, m1 = k + 1 := ⟨m1 - 1, by omega⟩
      obtain ⟨k2, rfl⟩ : ∃ k, m2 = k + 1 + 1 := ⟨m2 - 2, by omega⟩
      obtain ⟨p3, pn⟩ := hP.three s (Nat.le_refl _)
      obtain ⟨le', lt', to', q1, q2, q3, q4⟩ := stm_x (p := posF (tcN n L) s) (s := s) (to := to) (le := le) (lt := lt) hta hn (by omega) hL (by omega)
      have hst : ∀ (α : Type) (K60 : (Int32 × (Nat → Int32) × (Nat → Int32) × (Nat → Int32) × Int32 × Int32) → Option α), L_X12_town_12 K60 ta (nI n) (k2 + 1 + 1) 1 le lt to (nI (posF (tcN n L) s)) (nI s) = (f_X12_statement ta le lt to (nI n) (nI (posF (tcN n L) s)) (nI s)).bind fun o35 => L_X12_town_12 K60 ta (nI n) (k2 + 1) o35.1 o35.2.1 o35.2.2.1 o35.2.2.2.1 o35.2.2.2.2 (nI s + (if o35.1 = 0 then 0 else 1)) := by
        intro α K60
        rw [L_X12_town_12.eq_2, if_neg n1]
        by_cases e : posF (tcN n L) s < n
        · rw [if_pos (nI_lt e (by omega))]
        · rw [if_neg (by rw [nI_ltI (by omega) (by omega)]; exact e), if_pos (by rw [h0.resolve_left e]; rfl)]
      rw [mis2 hg (by omega)]
      cases hb : badP (tcN n L) (posF (tcN n L) s) with
      | some b =>
        have hb6 := badP_lt hb
        refine Or.inl ⟨b, le', lt', to', nI s + 0, ?_, by omega, fun α K60 => ?_⟩
        · simp only [ite_self]
        · show L_X12_town_12 K60 ta (nI n) (k2 + 1 + 1) 1 le lt to (nI (posF (tcN n L) s)) (nI s) = _
          rw [hst, q1 b hb]
          simp only [obs, if_true]
          rw [L_X12_town_12.eq_2, if_pos rfl]
      | none =>
        obtain ⟨r1, r2, r3, r4⟩ := q2 hb
        have g := good_lt hb
        have hs2 : ∀ (α : Type) (K60 : (Int32 × (Nat → Int32) × (Nat → Int32) × (Nat → Int32) × Int32 × Int32) → Option α), L_X12_town_12 K60 ta (nI n) (k2 + 1 + 1) 1 le lt to (nI (posF (tcN n L) s)) (nI s) = L_X12_town_12 K60 ta (nI n) (k2 + 1) 1 le' lt' to' (nI (nxP (tcN n L) (posF (tcN n L) s))) (nI (s + 1)) := by
          intro α K60
          rw [hst, r1]
          simp only [obs, n1, if_false]
          rw [nI_1]
        have hP' : PR (tcN n L) n (s + 1) le' lt' to' := by
          intro k hk
          by_cases e : k = s
          · rw [e]
            exact ⟨hb, g.1, r2, r3, r4⟩
          · obtain ⟨u1, u2, u3, u4, u5⟩ := hP k (by omega)
            obtain ⟨v1, v2⟩ := q3 k e
            exact ⟨u1, u2, v1.trans u3, v2.trans u4, u5.fr (s := s) (by omega) q4⟩
        have en : posF (tcN n L) (s + 1) = nxP (tcN n L) (posF (tcN n L) s) := rfl
        by_cases e : nxP (tcN n L) (posF (tcN n L) s) < n
        · rw [if_pos e]
          have := ih (s + 1) le' lt' to' k1 (k2 + 1) (by rw [en]; omega) (Or.inl (by rw [en]; exact e)) hP' (by omega) (by omega)
          rw [en] at this
          exact this.to (fun α K60 => hs2 α K60)
        · rw [if_neg e]
          have e2 : nxP (tcN n L) (posF (tcN n L) s) = n := by omega
          refine Or.inr ⟨s + 1, le', lt', to', rfl, fun α K60 => ?_, hP', by rw [en, e2], by omega⟩
          show L_X12_town_12 K60 ta (nI n) (k2 + 1 + 1) 1 le lt to (nI (posF (tcN n L) s)) (nI s) = _
          rw [hs2, L_X12_town_12.eq_2, if_neg n1, e2, if_neg (by rw [nI_ltI (by omega) (by omega)]; omega), if_neg (fun g => by rw [show (0 : Int32) = nI 0 from rfl, nI_eq (by omega) (by decide)] at g; omega)]
  have := main 200 0 le lt to gF gF (by omega) (Or.inr rfl) (fun k hk => by omega) (by unfold gF; omega) (by unfold gF; omega)
  have e : f_X6_misplaced gv l = L_X6_misplaced_2 (fun x2_18 => some x2_18) (fun x2_49 => some x2_49) (fun _ => some (-9 : Int32)) gv l gF (nI (posF (tcN n L) 0)) := rfl
  have e2 : nI (posF (tcN n L) 0) = 0 := rfl
  have e3 : nI 0 = 0 := rfl
  rw [← e, e2, e3] at this
  exact this
end
