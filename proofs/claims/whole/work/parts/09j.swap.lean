section
variable {gv : Nat → GV} {M hx : Nat} {ow : Nat → Nat} {S : SS} {re wa ka la ra li sa wh ce mi st ta ke ro : Nat → Int32} {hi : Int32} {fa sh qu lb may : Nat → Int32} {q : Int32} {tl1 le1 lt1 : Nat → Int32} {at1 ss1 ik1 cu1 : Int32}
/-! THE LETTERS TOLD, statement by statement -/
def LO (gv : Nat → GV) (ow : Nat → Nat) (l n : Nat) (L : Nat → Nat) : Prop := ∃ tx tf, gv l = .inl (5, [.ref tx, .int (nI n)]) ∧ gv tx = .inr (.inl (96, tf)) ∧ (∀ k, k < n → tf k = nI (L k)) ∧ (n ≤ 96 ∧ ∀ k, k < n → L k < 256) ∧ ow l = 102 ∧ ow tx = 103
theorem LO.lt {l n : Nat} {L : Nat → Nat} (h : LO gv ow l n L) : LT gv l n L := by
  obtain ⟨tx, tf, h1, h2, h3, ⟨h4, h5⟩, -⟩ := h
  exact ⟨tx, tf, h1, h2, h3, h4, h5⟩
theorem LO.fr {gv' : Nat → GV} {ow' : Nat → Nat} {l n t : Nat} {L : Nat → Nat} (h : LO gv ow l n L) (hf : Fr gv gv' ow ow' t) (ht : t ≤ 2) : LO gv' ow' l n L := by
  obtain ⟨tx, tf, h1, h2, h3, h4, h5, h6⟩ := h
  have a1 := hf l (by omega) (by omega)
  have a2 := hf tx (by omega) (by omega)
  exact ⟨tx, tf, a1.1.trans h1, a2.1.trans h2, h3, h4, a1.2.trans h5, a2.2.trans h6⟩
theorem tell_ok {l n N t a : Nat} {L : Nat → Nat} {le lt to : Nat → Int32} (ht : t ≤ 2) (hP : PR (tcN n L) n N le lt to) (hN : posF (tcN n L) N = n) (hN48 : N < 48) (h96 : n ≤ 96) : ∀ d k (gv : Nat → GV) (ow : Nat → Nat) (M : Nat) (T : TS) (wa ka la ra li sa wh ce mi st fa sh qu lb : Nat → Int32) (q : Int32) (m1 m2 : Nat), k + d = N → TH gv ow t a T → TOK T → RT T wa ka la ra li sa wh ce mi st → (∀ q, M ≤ q → ow q = 0) → LO gv ow l n L → d + 1 ≤ m1 → d + 1 ≤ m2 → (∃ k' gv' ow' M' T' wa' ka' la' ra' li' sa' wh' ce' mi' st' fa' sh' qu' q' lb', k' < N ∧ (∀ (α : Type) (K43 K75 : (Int32 × (Nat → GV) × Nat) → Option α), L_X6_tellTo_20 K43 K75 l (some a) m1 (nI k) (nI (posF (tcN n L) k)) gv M = K43 (nI (posF (tcN n L) k'), gv', M')) ∧ (∀ (β : Type) (K105 : (Int32 × (Nat → Int32) × (Nat → Int32) × (Nat → Int32) × (Nat → Int32) × (Nat → Int32) × (Nat → Int32) × (Nat → Int32) × (Nat → Int32) × (Nat → Int32) × (Nat → Int32) × Int32 × Int32 × Int32 × (Nat → Int32) × (Nat → Int32) × (Nat → Int32) × Int32 × (Nat → Int32)) → Option β) (K128 : ((Nat → Int32) × (Nat → Int32) × (Nat → Int32) × (Nat → Int32) × (Nat → Int32) × (Nat → Int32) × (Nat → Int32) × (Nat → Int32) × (Nat → Int32) × (Nat → Int32) × Int32 × Int32 × Int32 × (Nat → Int32) × (Nat → Int32) × (Nat → Int32) × Int32 × (Nat → Int32)) → Option β), L_X12_town_86 K105 K128 le to (nI N) m2 (nI k) wa ka la ra li sa wh ce mi st (nI (tn T)) (nI (tp T)) (nI (tM T)) fa sh qu q lb = K105 (nI k', wa', ka', la', ra', li', sa', wh', ce', mi', st', nI (tn T'), nI (tp T'), nI (tM T'), fa', sh', qu', q', lb')) ∧ TH gv' ow' t a T' ∧ (∀ q, M' ≤ q → ow' q = 0) ∧ Fr gv gv' ow ow' t) ∨ ∃ gv' ow' M' T' wa' ka' la' ra' li' sa' wh' ce' mi' st' fa' sh' qu' q' lb', (∀ (α : Type) (K43 K75 : (Int32 × (Nat → GV) × Nat) → Option α), L_X6_tellTo_20 K43 K75 l (some a) m1 (nI k) (nI (posF (tcN n L) k)) gv M = K75 (nI N, gv', M')) ∧ (∀ (β : Type) (K105 : (Int32 × (Nat → Int32) × (Nat → Int32) × (Nat → Int32) × (Nat → Int32) × (Nat → Int32) × (Nat → Int32) × (Nat → Int32) × (Nat → Int32) × (Nat → Int32) × (Nat → Int32) × Int32 × Int32 × Int32 × (Nat → Int32) × (Nat → Int32) × (Nat → Int32) × Int32 × (Nat → Int32)) → Option β) (K128 : ((Nat → Int32) × (Nat → Int32) × (Nat → Int32) × (Nat → Int32) × (Nat → Int32) × (Nat → Int32) × (Nat → Int32) × (Nat → Int32) × (Nat → Int32) × (Nat → Int32) × Int32 × Int32 × Int32 × (Nat → Int32) × (Nat → Int32) × (Nat → Int32) × Int32 × (Nat → Int32)) → Option β), L_X12_town_86 K105 K128 le to (nI N) m2 (nI k) wa ka la ra li sa wh ce mi st (nI (tn T)) (nI (tp T)) (nI (tM T)) fa sh qu q lb = K128 (wa', ka', la', ra', li', sa', wh', ce', mi', st', nI (tn T'), nI (tp T'), nI (tM T'), fa', sh', qu', q', lb')) ∧ TH gv' ow' t a T' ∧ TOK T' ∧ RT T' wa' ka' la' ra' li' sa' wh' ce' mi' st' ∧ (∀ q, M' ≤ q → ow' q = 0) ∧ Fr gv gv' ow ow' t := by
  have n1 : ¬ (1 : Int32) = 0 := by decide
  intro d
  induction d with
  | zero =>
    intro k gv ow M T wa ka la ra li sa wh ce mi st fa sh qu lb q m1 m2 hk hH hT hR hM hg h1 h2
    obtain ⟨j1, rfl⟩ : ∃ j, m1 = j + 1 := ⟨m1 - 1, by omega⟩
    obtain ⟨j2, rfl⟩ : ∃ j, m2 = j + 1 := ⟨m2 - 1, by omega⟩
    have hk : k = N := by omega
    rw [hk, hN]
    refine Or.inr ⟨gv, ow, M, T, wa, ka, la, ra, li, sa, wh, ce, mi, st, fa, sh, qu, q, lb, ?_, ?_, hH, hT, hR, hM, Fr.rf⟩
    · intro α K43 K75
      rw [L_X6_tellTo_20.eq_3, hg.lt.len]
      simp only [obs]
      rw [if_pos (nI_le (Nat.le_refl _) (by omega))]
    · intro β K105 K128
      rw [L_X12_town_86.eq_2, if_pos (nI_le (Nat.le_refl _) (by omega))]
  | succ d ih =>
    intro k gv ow M T wa ka la ra li sa wh ce mi st fa sh qu lb q m1 m2 hk hH hT hR hM hg h1 h2
    obtain ⟨j1, rfl⟩ : ∃ j, m1 = j + 1 := ⟨m1 - 1, by omega⟩
    obtain ⟨j2, rfl⟩ : ∃ j, m2 = j + 1 := ⟨m2 - 1, by omega⟩
    obtain ⟨u1, u2, u3, u4, u5⟩ := hP k (by omega)
    obtain ⟨o, ho⟩ := hg.lt.o
    have c0 : ¬ nI n ≤ nI (posF (tcN n L) k) := by rw [nI_leI (by omega) (by omega)]; omega
    have c1 : ¬ nI N ≤ nI k := by rw [nI_leI (by omega) (by omega)]; omega
    rcases j_stm (fa := fa) (sh := sh) (qu := qu) (q := q) (lb := lb) hH hT hR hM hg.lt (show k < 48 by omega) u1 u3 u5 with ⟨r, fa', sh', qu', q', r0, r1, r2⟩ | ⟨r, gv', M', ow', T', wa', ka', la', ra', li', sa', wh', ce', mi', st', fa', sh', qu', q', lb', r0, r1, r2, r3, r4, r5, r6, r7⟩
    · refine Or.inl ⟨k, gv, ow, M, T, wa, ka, la, ra, li, sa, wh, ce, mi, st, fa', sh', qu', q', lb, by omega, ?_, ?_, hH, hM, Fr.rf⟩
      · intro α K43 K75
        rw [L_X6_tellTo_20.eq_3, hg.lt.len]
        simp only [obs]
        rw [if_neg c0, ho]
        simp only [obs]
        rw [r1]
        simp only [obs]
        rw [if_neg r0]
      · intro β K105 K128
        rw [L_X12_town_86.eq_2, if_neg c1, r2]
        simp only [obs, if_true]
    · have hg' := hg.fr r7 ht
      obtain ⟨o', ho'⟩ := hg'.lt.o
      have hf := fmI_le (tcN n L (posF (tcN n L) k))
      have e4 : nI (posF (tcN n L) k) + (1 + nI (fmL (fmI (tcN n L (posF (tcN n L) k))))) = nI (posF (tcN n L) (k + 1)) := by
        rw [show (1 : Int32) = nI 1 from rfl, nI_add, nI_add]
        show _ = nI (nxP (tcN n L) (posF (tcN n L) k))
        unfold nxP
        rw [Nat.add_assoc]
      have s1 : ∀ (α : Type) (K43 K75 : (Int32 × (Nat → GV) × Nat) → Option α), L_X6_tellTo_20 K43 K75 l (some a) (j1 + 1) (nI k) (nI (posF (tcN n L) k)) gv M = L_X6_tellTo_20 K43 K75 l (some a) j1 (nI (k + 1)) (nI (posF (tcN n L) (k + 1))) gv' M' := by
        intro α K43 K75
        rw [L_X6_tellTo_20.eq_3, hg.lt.len]
        simp only [obs]
        rw [if_neg c0, ho]
        simp only [obs]
        rw [r1]
        simp only [obs]
        rw [if_pos r0, ho']
        simp only [obs]
        rw [hg'.lt.at (by omega)]
        simp only [obs]
        rw [fm_at (hg'.lt.tc _)]
        simp only [obs]
        rw [gsi_ok (by omega), len_ok _ (by omega)]
        simp only [obs]
        rw [e4, nI_1]
      have s2 : ∀ (β : Type) (K105 : (Int32 × (Nat → Int32) × (Nat → Int32) × (Nat → Int32) × (Nat → Int32) × (Nat → Int32) × (Nat → Int32) × (Nat → Int32) × (Nat → Int32) × (Nat → Int32) × (Nat → Int32) × Int32 × Int32 × Int32 × (Nat → Int32) × (Nat → Int32) × (Nat → Int32) × Int32 × (Nat → Int32)) → Option β) (K128 : ((Nat → Int32) × (Nat → Int32) × (Nat → Int32) × (Nat → Int32) × (Nat → Int32) × (Nat → Int32) × (Nat → Int32) × (Nat → Int32) × (Nat → Int32) × (Nat → Int32) × Int32 × Int32 × Int32 × (Nat → Int32) × (Nat → Int32) × (Nat → Int32) × Int32 × (Nat → Int32)) → Option β), L_X12_town_86 K105 K128 le to (nI N) (j2 + 1) (nI k) wa ka la ra li sa wh ce mi st (nI (tn T)) (nI (tp T)) (nI (tM T)) fa sh qu q lb = L_X12_town_86 K105 K128 le to (nI N) j2 (nI (k + 1)) wa' ka' la' ra' li' sa' wh' ce' mi' st' (nI (tn T')) (nI (tp T')) (nI (tM T')) fa' sh' qu' q' lb' := by
        intro β K105 K128
        rw [L_X12_town_86.eq_2, if_neg c1, r2]
        simp only [obs]
        rw [if_neg n1, nI_1]
      rcases ih (k + 1) gv' ow' M' T' wa' ka' la' ra' li' sa' wh' ce' mi' st' fa' sh' qu' lb' q' j1 j2 (by omega) r3 r4 r5 r6 hg' (by omega) (by omega) with ⟨k2, gv2, ow2, M2, T2, wa2, ka2, la2, ra2, li2, sa2, wh2, ce2, mi2, st2, fa2, sh2, qu2, q2, lb2, t0, t1, t2, t3, t4, t5⟩ | ⟨gv2, ow2, M2, T2, wa2, ka2, la2, ra2, li2, sa2, wh2, ce2, mi2, st2, fa2, sh2, qu2, q2, lb2, t1, t2, t3, t4, t5, t6, t7⟩
      · exact Or.inl ⟨k2, gv2, ow2, M2, T2, wa2, ka2, la2, ra2, li2, sa2, wh2, ce2, mi2, st2, fa2, sh2, qu2, q2, lb2, t0, fun α K43 K75 => (s1 α K43 K75).trans (t1 α K43 K75), fun β K105 K128 => (s2 β K105 K128).trans (t2 β K105 K128), t3, t4, r7.tr t5⟩
      · exact Or.inr ⟨gv2, ow2, M2, T2, wa2, ka2, la2, ra2, li2, sa2, wh2, ce2, mi2, st2, fa2, sh2, qu2, q2, lb2, fun α K43 K75 => (s1 α K43 K75).trans (t1 α K43 K75), fun β K105 K128 => (s2 β K105 K128).trans (t2 β K105 K128), t3, t4, t5, t6, r7.tr t7⟩
end
