section
variable {gv : Nat → GV} {M hx : Nat} {ow : Nat → Nat} {S : SS} {re wa ka la ra li sa wh ce mi st ta ke ro : Nat → Int32} {hi : Int32} {fa sh qu lb may : Nat → Int32} {q : Int32} {tl1 le1 lt1 : Nat → Int32} {at1 ss1 ik1 cu1 : Int32}
/-! LAMPS MADE -/
theorem mk5 {gs : Nat → GV} {x y ci : Nat} {r0 : Value} (hci : ci ∈ gLC) (hx : gs x = .inl (ci, [.int 0, .int 0, .int 0, .int 0, r0])) (hne : x ≠ y) : ∃ gt, f_X5_init gs y x = some (gt, y + 1) ∧ gt x = .inl (ci, [.int 0, .int 0, .int 1, .int 0, .ref y]) ∧ gt y = .inr (.inl (9, fun _ => 0)) ∧ ∀ z, z ≠ x → z ≠ y → gt z = gs z := by
  unfold f_X5_init
  obtain ⟨g1, hg1⟩ : ∃ g1, g1 = va_up gs x (.inl (ci, [.int 0, .int 0, .int 1, .int 0, r0])) := ⟨_, rfl⟩
  have a1 : gpu gs x gLC 2 (.int 1) = some g1 := by
    rw [hg1]
    exact gpu_of hx hci (by show 2 < 5; decide)
  obtain ⟨g2, hg2⟩ : ∃ g2, g2 = va_up g1 y (.inr (.inl (9, fun _ => 0))) := ⟨_, rfl⟩
  have d2 : g2 x = .inl (ci, [.int 0, .int 0, .int 1, .int 0, r0]) := by rw [hg2, va_ne hne, hg1, va_up_self]
  obtain ⟨g3, hg3⟩ : ∃ g3, g3 = va_up g2 x (.inl (ci, [.int 0, .int 0, .int 1, .int 0, .ref y])) := ⟨_, rfl⟩
  have a3 : gpu g2 x gLC 4 (.ref y) = some g3 := by
    rw [hg3]
    exact gpu_of d2 hci (by show 4 < 5; decide)
  refine ⟨g3, ?_, by rw [hg3, va_up_self], by rw [hg3, va_ne (Ne.symm hne), hg2, va_up_self], fun z z1 z2 => by rw [hg3, va_ne z1, hg2, va_ne z2, hg1, va_ne z1]⟩
  rw [a1]
  simp only [obs]
  rw [← hg2, a3]
  simp only [obs]
theorem ofKind_ok {N kd : Nat} (hk : kd < 7) : ∃ gt, f_X5_ofKind gv N (nI kd) = some (some N, gt, N + 2) ∧ Lp gt N (N + 1) kd 0 0 true 0 (fun _ => 0) ∧ ∀ z, z ≠ N → z ≠ N + 1 → gt z = gv z := by
  have mk : ∃ gt, f_X5_init (va_up gv N (.inl (kc kd, [.int 0, .int 0, .int 0, .int 0, .null]))) (N + 1) N = some (gt, N + 2) ∧ Lp gt N (N + 1) kd 0 0 true 0 (fun _ => 0) ∧ ∀ z, z ≠ N → z ≠ N + 1 → gt z = gv z := by
    obtain ⟨gt, a1, a2, a3, a4⟩ := mk5 (gs := va_up gv N (.inl (kc kd, [.int 0, .int 0, .int 0, .int 0, .null]))) (x := N) (y := N + 1) (kc_in kd) (va_up_self _ _ _) (by omega)
    exact ⟨gt, a1, ⟨a2, a3⟩, fun z z1 z2 => (a4 z z1 z2).trans (va_ne z1)⟩
  obtain ⟨gt, a1, a2, a3⟩ := mk
  refine ⟨gt, ?_, a2, a3⟩
  unfold f_X5_ofKind f_X3_init f_X7_init f_X1_init f_X0_init f_X8_init f_X4_init f_X3_init f_X8_init
  rcases k7 hk with rfl | rfl | rfl | rfl | rfl | rfl | rfl
  · have a1 : f_X5_init (va_up gv N (.inl (4, [.int 0, .int 0, .int 0, .int 0, .null]))) (N + 1) N = some (gt, N + 2) := a1
    rw [if_neg (by decide), if_neg (by decide), if_neg (by decide), if_neg (by decide), if_neg (by decide), if_neg (by decide), a1]
    simp only [obs]
  · have a1 : f_X5_init (va_up gv N (.inl (2, [.int 0, .int 0, .int 0, .int 0, .null]))) (N + 1) N = some (gt, N + 2) := a1
    rw [if_pos (by decide), a1]
    simp only [obs]
  · have a1 : f_X5_init (va_up gv N (.inl (6, [.int 0, .int 0, .int 0, .int 0, .null]))) (N + 1) N = some (gt, N + 2) := a1
    rw [if_neg (by decide), if_pos (by decide), a1]
    simp only [obs]
  · have a1 : f_X5_init (va_up gv N (.inl (1, [.int 0, .int 0, .int 0, .int 0, .null]))) (N + 1) N = some (gt, N + 2) := a1
    rw [if_neg (by decide), if_neg (by decide), if_pos (by decide), a1]
    simp only [obs]
  · have a1 : f_X5_init (va_up gv N (.inl (0, [.int 0, .int 0, .int 0, .int 0, .null]))) (N + 1) N = some (gt, N + 2) := a1
    rw [if_neg (by decide), if_neg (by decide), if_neg (by decide), if_pos (by decide), a1]
    simp only [obs]
  · have a1 : f_X5_init (va_up gv N (.inl (7, [.int 0, .int 0, .int 0, .int 0, .null]))) (N + 1) N = some (gt, N + 2) := a1
    rw [if_neg (by decide), if_neg (by decide), if_neg (by decide), if_neg (by decide), if_pos (by decide), a1]
    simp only [obs]
  · have a1 : f_X5_init (va_up gv N (.inl (3, [.int 0, .int 0, .int 0, .int 0, .null]))) (N + 1) N = some (gt, N + 2) := a1
    rw [if_neg (by decide), if_neg (by decide), if_neg (by decide), if_neg (by decide), if_neg (by decide), if_pos (by decide), a1]
    simp only [obs]
theorem Lp.setR {x q1 k c r s : Nat} {l : Bool} {f : Nat → Int32} (h : Lp gv x q1 k c r l s f) (r' : Nat) : ∃ gv', gpu gv x gLC 1 (.int (nI r')) = some gv' ∧ Lp gv' x q1 k c r' l s f ∧ ∀ y, y ≠ x → gv' y = gv y :=
  ⟨_, gpu_of h.1 (kc_in k) (by show 1 < 5; decide), ⟨va_up_self _ _ _, (va_ne h.ne).trans h.2⟩, fun _ hy => va_ne hy⟩
/-- a lamp's twin -/
theorem twin_ok {x q1 kd c r s N : Nat} {l : Bool} {f : Nat → Int32} (h : Lp gv x q1 kd c r l s f) (hk : kd < 7) (hx : x < N) (hq : q1 < N) : ∃ gt f', fv_X5_twin gv N x = some (some N, gt, N + 2) ∧ Lp gt N (N + 1) kd c r l s f' ∧ (∀ k, k < 9 → f' k = f k) ∧ ∀ z, z ≠ N → z ≠ N + 1 → gt z = gv z := by
  unfold fv_X5_twin
  rw [h.fO]
  simp only [obs]
  unfold f_X5_twin
  rw [h.kind hk]
  simp only [obs]
  obtain ⟨g0, a1, a2, a3⟩ := ofKind_ok (gv := gv) (N := N) hk
  rw [a1]
  simp only [obs]
  have keep : ∀ gs : Nat → GV, (∀ z, z ≠ N → z ≠ N + 1 → gs z = gv z) → Lp gs x q1 kd c r l s f := fun gs e => ⟨(e x (by omega) (by omega)).trans h.1, (e q1 (by omega) (by omega)).trans h.2⟩
  have h0 := keep g0 a3
  obtain ⟨g1, b1, b2, b3⟩ := a2.setC c
  have e1 : ∀ z, z ≠ N → z ≠ N + 1 → g1 z = gv z := fun z z1 z2 => (b3 z z1).trans (a3 z z1 z2)
  have h1 := keep g1 e1
  obtain ⟨g2, c1, c2, c3⟩ := b2.setR r
  have e2 : ∀ z, z ≠ N → z ≠ N + 1 → g2 z = gv z := fun z z1 z2 => (c3 z z1).trans (e1 z z1 z2)
  have h2 := keep g2 e2
  obtain ⟨g3, d1, d2, d3⟩ := c2.setL l
  have e3 : ∀ z, z ≠ N → z ≠ N + 1 → g3 z = gv z := fun z z1 z2 => (d3 z z1).trans (e2 z z1 z2)
  have h3 := keep g3 e3
  obtain ⟨g4, k1, k2, k3⟩ := d2.setS s
  have e4 : ∀ z, z ≠ N → z ≠ N + 1 → g4 z = gv z := fun z z1 z2 => (k3 z z1).trans (e3 z z1 z2)
  simp only [h0.f0, b1, h1.f1, c1, h2.f2, d1, h3.f3, k1, obs]
  rw [gzb_if]
  have main : ∀ {α : Type} (K : (Nat → GV) → Option α), ∃ gt f', L_X5_twin_42 K x N gF 0 g4 = K gt ∧ Lp gt N (N + 1) kd c r l s f' ∧ (∀ k, k < 9 → f' k = f k) ∧ ∀ z, z ≠ N → z ≠ N + 1 → gt z = gv z := by
    intro α K
    refine gloop (σ := Nat → GV) (ρ := Option α) (fun n k g => L_X5_twin_42 K x N n (nI k) g) 9 (fun k g => ∃ f', Lp g N (N + 1) kd c r l s f' ∧ (∀ j, j < k → f' j = f j) ∧ ∀ z, z ≠ N → z ≠ N + 1 → g z = gv z) (fun res => ∃ gt f', res = K gt ∧ Lp gt N (N + 1) kd c r l s f' ∧ (∀ k, k < 9 → f' k = f k) ∧ ∀ z, z ≠ N → z ≠ N + 1 → gt z = gv z) ?_ ?_ gF 0 g4 (by decide) (by decide) ⟨_, k2, fun j hj => by omega, e4⟩
    · rintro n g ⟨f', u1, u2, u3⟩
      refine ⟨g, f', ?_, u1, u2, u3⟩
      have hg := keep g u3
      show L_X5_twin_42 K x N (n + 1) (nI 9) g = _
      rw [L_X5_twin_42.eq_2, hg.f4]
      simp only [obs, gal_of hg.2]
      rw [if_pos (nI_le (Nat.le_refl _) (by decide))]
    · rintro n k g hk9 ⟨f', u1, u2, u3⟩
      right
      have hg := keep g u3
      refine ⟨va_up g (N + 1) (.inr (.inl (9, upd f' k (f k)))), ?_, upd f' k (f k), ⟨(va_ne (by omega)).trans u1.1, va_up_self _ _ _⟩, fun j hj => ?_, fun z z1 z2 => (va_ne z2).trans (u3 z z1 z2)⟩
      · show L_X5_twin_42 K x N (n + 1) (nI k) g = L_X5_twin_42 K x N n (nI (k + 1)) _
        rw [L_X5_twin_42.eq_2, hg.f4]
        simp only [obs, gal_of hg.2]
        rw [if_neg (by rw [nI_leI (by decide) (by omega)]; omega), u1.f4]
        simp only [obs, gal_of u1.2]
        rw [if_neg (by rw [nI_leI (by decide) (by omega)]; omega)]
        simp only [obs, gai_of hg.2 hk9 (show 9 < 2 ^ 31 by decide), gas_of u1.2 hk9 (show 9 < 2 ^ 31 by decide), nI_1]
      · by_cases e : j = k
        · rw [e, upd_s]
        · rw [upd_n e]
          exact u2 j (by omega)
  obtain ⟨gt, f', m1, m2, m3, m4⟩ := main (fun x42_78 => some (some N, x42_78, N + 2))
  exact ⟨gt, f', m1, m2, m3, m4⟩
end
