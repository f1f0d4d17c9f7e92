section
variable {gv : Nat → GV} {M hx : Nat} {ow : Nat → Nat} {S : SS} {re wa ka la ra li sa wh ce mi st ta ke ro : Nat → Int32} {hi : Int32} {fa sh qu lb may : Nat → Int32} {q : Int32} {tl1 le1 lt1 : Nat → Int32} {at1 ss1 ik1 cu1 : Int32}
/-! SCENES: a lamp's row of them, how one is taken out, how one is kept -/
abbrev ScL : Type := Nat × (Nat → Nat) × (Nat → Nat) × (Nat → Nat)
def dropF (f : Nat → Nat) (i : Nat) : Nat → Nat := fun k => if k < i then f k else f (k + 1)
def dropL (L : ScL) (i : Nat) : ScL := (L.1 - 1, dropF L.2.1 i, dropF L.2.2.1 i, dropF L.2.2.2 i)
def dpL (kd c : Nat) (L : ScL) : ScL := if 5 ≤ kd then (match fst1 (fun i => decide (L.2.2.1 i = c)) L.1 with
  | some i => dropL L i
  | none => L) else L
def d0L (kd : Nat) (L : ScL) : ScL := if L.1 = keepN kd then dropL L 0 else L
def adL (kd p c m : Nat) (L : ScL) : ScL := (L.1 + 1, (fun k => if k = L.1 then (if kd = 1 ∨ kd = 4 then 9 else p) else L.2.1 k), (fun k => if k = L.1 then c else L.2.2.1 k), (fun k => if k = L.1 then m else L.2.2.2 k))
def kpL (kd p c m : Nat) (L : ScL) : ScL := if kd = 2 then L else adL kd p c m (d0L kd (dpL kd c L))
def LOK (kd m : Nat) (L : ScL) : Prop := L.1 ≤ keepN kd ∧ (∀ k, k < L.1 → L.2.1 k < 10 ∧ L.2.2.1 k < 36 ∧ L.2.2.2 k ≤ m) ∧ ∀ i j, i < j → j < L.1 → L.2.2.2 i < L.2.2.2 j
theorem LOK.drop {kd m i : Nat} {L : ScL} (h : LOK kd m L) (hi : i < L.1) : LOK kd m (dropL L i) := by
  obtain ⟨h1, h2, h3⟩ := h
  refine ⟨by show L.1 - 1 ≤ _; omega, fun k hk => ?_, fun a b hab hb => ?_⟩
  · have hk : k < L.1 - 1 := hk
    show (if k < i then L.2.1 k else L.2.1 (k + 1)) < 10 ∧ (if k < i then L.2.2.1 k else L.2.2.1 (k + 1)) < 36 ∧ (if k < i then L.2.2.2 k else L.2.2.2 (k + 1)) ≤ m
    by_cases e : k < i
    · rw [if_pos e, if_pos e, if_pos e]; exact h2 k (by omega)
    · rw [if_neg e, if_neg e, if_neg e]; exact h2 (k + 1) (by omega)
  · have hb : b < L.1 - 1 := hb
    show (if a < i then L.2.2.2 a else L.2.2.2 (a + 1)) < (if b < i then L.2.2.2 b else L.2.2.2 (b + 1))
    by_cases e : a < i
    · by_cases e2 : b < i
      · rw [if_pos e, if_pos e2]; exact h3 a b hab (by omega)
      · rw [if_pos e, if_neg e2]; exact h3 a (b + 1) (by omega) (by omega)
    · rw [if_neg e, if_neg (show ¬ b < i by omega)]; exact h3 (a + 1) (b + 1) (by omega) (by omega)
theorem LOK.dp {kd m c : Nat} {L : ScL} (h : LOK kd m L) : LOK kd m (dpL kd c L) := by
  unfold dpL
  by_cases e : 5 ≤ kd
  · rw [if_pos e]
    cases hq : fst1 (fun i => decide (L.2.2.1 i = c)) L.1 with
    | none => exact h
    | some i => exact h.drop (fst1_some hq).1
  · rw [if_neg e]; exact h
theorem LOK.d0 {kd m : Nat} {L : ScL} (h : LOK kd m L) (hk : kd ≠ 2) : LOK kd m (d0L kd L) ∧ (d0L kd L).1 < keepN kd := by
  have hp : 0 < keepN kd := by
    unfold keepN
    rw [if_neg hk]
    split <;> omega
  unfold d0L
  by_cases e : L.1 = keepN kd
  · rw [if_pos e]
    exact ⟨h.drop (by omega), by show L.1 - 1 < _; omega⟩
  · rw [if_neg e]
    exact ⟨h, by have := h.1; omega⟩
theorem LOK.mono {kd m n : Nat} {L : ScL} (h : LOK kd m L) (hmn : m ≤ n) : LOK kd n L := ⟨h.1, fun k hk => ⟨(h.2.1 k hk).1, (h.2.1 k hk).2.1, by have := (h.2.1 k hk).2.2; omega⟩, h.2.2⟩
theorem LOK.kp {kd m p c : Nat} {L : ScL} (h : LOK kd m L) (hp : p < 10) (hc : c < 36) : LOK kd (m + 1) (kpL kd p c (m + 1) L) := by
  unfold kpL
  by_cases e : kd = 2
  · rw [if_pos e]; exact h.mono (by omega)
  · rw [if_neg e]
    obtain ⟨⟨g1, g2, g3⟩, g4⟩ := (h.dp (c := c)).d0 e
    refine ⟨g4, fun k hk => ?_, fun a b hab hb => ?_⟩
    · have hk : k < (d0L kd (dpL kd c L)).1 + 1 := hk
      show (if k = (d0L kd (dpL kd c L)).1 then (if kd = 1 ∨ kd = 4 then 9 else p) else (d0L kd (dpL kd c L)).2.1 k) < 10 ∧ (if k = (d0L kd (dpL kd c L)).1 then c else (d0L kd (dpL kd c L)).2.2.1 k) < 36 ∧ (if k = (d0L kd (dpL kd c L)).1 then m + 1 else (d0L kd (dpL kd c L)).2.2.2 k) ≤ m + 1
      by_cases e2 : k = (d0L kd (dpL kd c L)).1
      · rw [if_pos e2, if_pos e2, if_pos e2]
        exact ⟨by split <;> omega, hc, Nat.le_refl _⟩
      · rw [if_neg e2, if_neg e2, if_neg e2]
        have := g2 k (by omega)
        exact ⟨this.1, this.2.1, by omega⟩
    · have hb : b < (d0L kd (dpL kd c L)).1 + 1 := hb
      show (if a = (d0L kd (dpL kd c L)).1 then m + 1 else (d0L kd (dpL kd c L)).2.2.2 a) < (if b = (d0L kd (dpL kd c L)).1 then m + 1 else (d0L kd (dpL kd c L)).2.2.2 b)
      rw [if_neg (show ¬ a = (d0L kd (dpL kd c L)).1 by omega)]
      by_cases e2 : b = (d0L kd (dpL kd c L)).1
      · rw [if_pos e2]
        have := (g2 a (by omega)).2.2
        omega
      · rw [if_neg e2]
        exact g3 a b hab (by omega)
/-- the class's row holds them -/
def encL (f : Nat → Int32) (L : ScL) : Prop := ∀ k, k < L.1 → f k = nI (L.2.2.2 k * 1000 + L.2.2.1 k * 10 + L.2.1 k)
theorem take_c {x q1 kd c0 r : Nat} {b : Bool} {L : ScL} {f : Nat → Int32} (h : Lp gv x q1 kd c0 r b L.1 f) (he : encL f L) (h9 : L.1 ≤ 9) {i : Nat} (hi2 : i < L.1) : ∃ gv' f', f_X5_takeOut gv x (nI i) = some gv' ∧ Lp gv' x q1 kd c0 r b (dropL L i).1 f' ∧ encL f' (dropL L i) ∧ ∀ y, y ≠ x → y ≠ q1 → gv' y = gv y := by
  unfold f_X5_takeOut
  rw [if_neg (nI_pos (by omega)), h.f3]
  simp only [obs]
  rw [if_pos (nI_lt hi2 (by omega))]
  have main : ∀ K : (Nat → GV) → Option (Nat → GV), ∃ g fj, L_X5_takeOut_15 K x gF (nI i) gv = K g ∧ Lp g x q1 kd c0 r b L.1 fj ∧ (∀ k, fj k = if i ≤ k ∧ k < L.1 - 1 then f (k + 1) else f k) ∧ ∀ y, y ≠ x → y ≠ q1 → g y = gv y := by
    intro K
    have lp := gloop (σ := Nat → GV) (ρ := Option (Nat → GV)) (fun n k s => L_X5_takeOut_15 K x n (nI k) s) (L.1 - 1) (fun j g => i ≤ j ∧ ∃ fj, Lp g x q1 kd c0 r b L.1 fj ∧ (∀ k, fj k = if i ≤ k ∧ k < j then f (k + 1) else f k) ∧ ∀ y, y ≠ x → y ≠ q1 → g y = gv y) (fun res => ∃ g fj, res = K g ∧ Lp g x q1 kd c0 r b L.1 fj ∧ (∀ k, fj k = if i ≤ k ∧ k < L.1 - 1 then f (k + 1) else f k) ∧ ∀ y, y ≠ x → y ≠ q1 → g y = gv y) ?_ ?_ gF i gv (by unfold gF; omega) (by omega) ⟨Nat.le_refl _, f, h, fun k => by rw [if_neg (by omega)], fun _ _ _ => rfl⟩
    · exact lp
    · rintro n s ⟨-, fj, a1, a2, a3⟩
      refine ⟨s, fj, ?_, a1, a2, a3⟩
      show L_X5_takeOut_15 K x (n + 1) (nI (L.1 - 1)) s = K s
      rw [L_X5_takeOut_15.eq_2, a1.f3]
      simp only [obs]
      rw [nI_1, if_pos (nI_le (by omega) (by omega))]
    · rintro n j s hj ⟨hij, fj, a1, a2, a3⟩
      right
      refine ⟨va_up s q1 (.inr (.inl (9, upd fj j (fj (j + 1))))), ?_, by omega, upd fj j (fj (j + 1)), ⟨(va_ne (Ne.symm a1.ne)).trans a1.1, va_up_self _ _ _⟩, fun k => ?_, fun y y1 y2 => (va_ne y2).trans (a3 y y1 y2)⟩
      · show L_X5_takeOut_15 K x (n + 1) (nI j) s = L_X5_takeOut_15 K x n (nI (j + 1)) _
        rw [L_X5_takeOut_15.eq_2, a1.f3]
        simp only [obs]
        rw [nI_1, if_neg (by rw [nI_leI (by omega) (by omega)]; omega), a1.f4]
        simp only [obs, gal_of a1.2]
        rw [if_neg (by rw [nI_leI (by omega) (by omega)]; omega)]
        simp only [obs, gai_of a1.2 (show j + 1 < 9 by omega) (by decide), gas_of a1.2 (show j < 9 by omega) (by decide)]
      · by_cases e : k = j
        · rw [e, upd_s, if_pos ⟨hij, by omega⟩, a2, if_neg (by omega)]
        · rw [upd_n e, a2]
          by_cases e2 : i ≤ k ∧ k < j
          · rw [if_pos e2, if_pos ⟨e2.1, by omega⟩]
          · rw [if_neg e2, if_neg (by omega)]
  obtain ⟨g, fj, b1, b2, b3, b4⟩ := main (fun x15_56 => (gfI x15_56 x gLC 3).bind fun t58 => (gpu x15_56 x gLC 3 (.int (t58 - 1))).bind fun g63 => some g63)
  obtain ⟨g2, c1, c2, c3⟩ := b2.setS (L.1 - 1)
  refine ⟨g2, fj, ?_, c2, fun k hk => ?_, fun y y1 y2 => (c3 y y1).trans (b4 y y1 y2)⟩
  · rw [b1, b2.f3]
    simp only [obs]
    rw [nI_s1 (by omega), c1]
    simp only [obs]
  · have hk : k < L.1 - 1 := hk
    rw [b3]
    show _ = nI ((if k < i then L.2.2.2 k else L.2.2.2 (k + 1)) * 1000 + (if k < i then L.2.2.1 k else L.2.2.1 (k + 1)) * 10 + (if k < i then L.2.1 k else L.2.1 (k + 1)))
    by_cases e : k < i
    · rw [if_neg (by omega), if_pos e, if_pos e, if_pos e]; exact he k (by omega)
    · rw [if_pos ⟨by omega, hk⟩, if_neg e, if_neg e, if_neg e]; exact he (k + 1) (by omega)
theorem tak_v {x q1 kd c0 r s : Nat} {b : Bool} {f : Nat → Int32} (h : Lp gv x q1 kd c0 r b s f) (v : Int32) : fv_X5_takeOut gv x v = f_X5_takeOut gv x v := by
  unfold fv_X5_takeOut
  rw [h.fO]
  rfl
theorem giv_v {x q1 kd c0 r : Nat} {b : Bool} {L : ScL} {f : Nat → Int32} (h : Lp gv x q1 kd c0 r b L.1 f) (hk : kd < 7) {m : Nat} (hL : LOK kd m L) (hm : m ≤ 9999) (he : encL f L) {c : Nat} (hc : c < 36) : fv_X5_placeGivenUpFor gv x (nI c) = some (if 5 ≤ kd then fI (fun i => decide (L.2.2.1 i = c)) L.1 else -9) := by
  have h9 : L.1 ≤ 9 := Nat.le_trans hL.1 (keepN_le kd)
  unfold fv_X5_placeGivenUpFor
  rw [h.fO]
  simp only [obs]
  have own : (kc kd ∈ [3, 7]) → f_X8_placeGivenUpFor gv x (nI c) = some (fI (fun i => decide (L.2.2.1 i = c)) L.1) := by
    intro hkc
    unfold f_X8_placeGivenUpFor fI
    have hsc : ∀ i, i < L.1 → fv_X8_sceneAt gv x (nI i) = some (f i) := by
      intro i hi2
      have := h.sceneAt h9 hi2
      unfold fv_X5_sceneAt at this
      unfold fv_X8_sceneAt
      rw [h.fO] at this
      simp only [obs] at this
      rw [gfO_of h.1 hkc]
      simp only [obs]
      exact this
    have := gfirst (fun n k => L_X8_placeGivenUpFor_2 (fun x2_22 => some x2_22) (fun x2_30 => some (-9 : Int32)) gv x (nI c) n (nI k)) (fun i => some (nI i)) (some (-9)) L.1 (fun i => decide (L.2.2.1 i = c)) (fun n => by
      show L_X8_placeGivenUpFor_2 _ _ gv x (nI c) (n + 1) (nI L.1) = _
      rw [L_X8_placeGivenUpFor_2.eq_2, h.f3]
      simp only [obs]
      rw [if_pos (nI_le (Nat.le_refl _) (by omega))]) (fun n k hk => by
      obtain ⟨d1, d2, d3⟩ := hL.2.1 k hk
      show L_X8_placeGivenUpFor_2 _ _ gv x (nI c) (n + 1) (nI k) = _
      rw [L_X8_placeGivenUpFor_2.eq_2, h.f3]
      simp only [obs]
      rw [if_neg (by rw [nI_leI (by omega) (by omega)]; omega), hsc k hk, he k hk]
      simp only [obs]
      rw [scn_cell d1 (by omega) (by omega), nI_1]
      simp only [obs]
      by_cases e : L.2.2.1 k = c
      · rw [if_pos (by rw [e])]
        simp [e]
      · rw [if_neg (by rw [nI_eq (by omega) (by omega)]; exact e)]
        simp [e]) gF 0 (by unfold gF; omega) (Nat.zero_le _) (fun j hj => by omega)
    refine this.trans ?_
    cases fst1 (fun i => decide (L.2.2.1 i = c)) L.1 <;> rfl
  rcases k7 hk with rfl | rfl | rfl | rfl | rfl | rfl | rfl
  · rfl
  · rfl
  · rfl
  · rfl
  · rfl
  · exact own (by decide)
  · exact own (by decide)
theorem who_v {x q1 kd c0 r s : Nat} {b : Bool} {f : Nat → Int32} (h : Lp gv x q1 kd c0 r b s f) (hk : kd < 7) (v : Int32) : fv_X5_whoKept gv x v = some (if kd = 1 ∨ kd = 4 then 9 else v) := by
  unfold fv_X5_whoKept
  rw [h.fO]
  simp only [obs]
  rcases k7 hk with rfl | rfl | rfl | rfl | rfl | rfl | rfl <;> rfl
/-- what the class keeps -/
theorem keep_c {x q1 kd c0 r : Nat} {b : Bool} {L : ScL} {f : Nat → Int32} (h : Lp gv x q1 kd c0 r b L.1 f) (hk : kd < 7) {m p c : Nat} (hL : LOK kd m L) (hm : m + 1 ≤ 9999) (he : encL f L) (hc : c < 36) (hp : p < 10) : ∃ gv' f', fv_X5_keep gv x (nI p) (nI c) (nI (m + 1)) = some gv' ∧ Lp gv' x q1 kd c0 r b (kpL kd p c (m + 1) L).1 f' ∧ encL f' (kpL kd p c (m + 1) L) ∧ ∀ y, y ≠ x → y ≠ q1 → gv' y = gv y := by
  have k9 := keepN_le kd
  have h9 : L.1 ≤ 9 := Nat.le_trans hL.1 k9
  unfold fv_X5_keep
  rw [h.fO]
  simp only [obs]
  unfold f_X5_keep
  rw [giv_v h hk hL (by omega) he hc]
  simp only [obs]
  have s1 : ∃ g1 f1, fv_X5_takeOut gv x (if 5 ≤ kd then fI (fun i => decide (L.2.2.1 i = c)) L.1 else -9) = some g1 ∧ Lp g1 x q1 kd c0 r b (dpL kd c L).1 f1 ∧ encL f1 (dpL kd c L) ∧ ∀ y, y ≠ x → y ≠ q1 → g1 y = gv y := by
    rw [tak_v h]
    have none9 : f_X5_takeOut gv x (-9) = some gv := by
      unfold f_X5_takeOut
      rw [if_pos (by decide)]
    unfold dpL
    by_cases e : 5 ≤ kd
    · rw [if_pos e, if_pos e]
      rcases fI_cas (fun i => decide (L.2.2.1 i = c)) L.1 with ⟨i, e1, e2, e3, e4⟩ | ⟨e3, e4⟩
      · rw [e3, e4]
        exact take_c h he h9 e1
      · rw [e3, e4, none9]
        exact ⟨gv, f, rfl, h, he, fun _ _ _ => rfl⟩
    · rw [if_neg e, if_neg e, none9]
      exact ⟨gv, f, rfl, h, he, fun _ _ _ => rfl⟩
  obtain ⟨g1, f1, a1, a2, a3, a4⟩ := s1
  have L1 := hL.dp (c := c)
  rw [a1]
  simp only [obs, a2.f3]
  rw [a2.room hk]
  simp only [obs]
  unfold kpL
  by_cases e2 : kd = 2
  · have z : (dpL kd c L).1 = 0 := by
      have h1 := L1.1
      unfold keepN at h1
      rw [if_pos e2] at h1
      omega
    have zL : L.1 = 0 := by
      have h1 := hL.1
      unfold keepN at h1
      rw [if_pos e2] at h1
      omega
    have zk : keepN kd = 0 := by
      unfold keepN
      rw [if_pos e2]
    have none0 : f_X5_takeOut g1 x 0 = some g1 := by
      unfold f_X5_takeOut
      rw [if_neg (by decide), a2.f3]
      simp only [obs]
      rw [z, if_neg (by decide)]
    rw [z, zk, if_neg (show ¬ nI 0 < nI 0 by decide), tak_v a2, none0]
    have f3 := a2.f3
    have room := a2.room hk
    rw [z] at f3
    rw [zk] at room
    simp only [obs, f3, room]
    rw [if_neg (show ¬ nI 0 < 0 by decide), if_pos (show nI 0 ≤ nI 0 by decide), if_pos e2]
    simp only [obs]
    refine ⟨g1, f1, rfl, ?_, fun k hk2 => by omega, a4⟩
    rw [z] at a2
    rw [zL]
    exact a2
  · have s2 : ∃ g2 f2, (if nI (dpL kd c L).1 < nI (keepN kd) then some g1 else (fv_X5_takeOut g1 x 0).bind fun o22 => some o22 : Option (Nat → GV)) = some g2 ∧ Lp g2 x q1 kd c0 r b (d0L kd (dpL kd c L)).1 f2 ∧ encL f2 (d0L kd (dpL kd c L)) ∧ ∀ y, y ≠ x → y ≠ q1 → g2 y = g1 y := by
      have l1 := L1.1
      unfold d0L
      by_cases e : (dpL kd c L).1 = keepN kd
      · have hpos := (L1.d0 e2).2
        have hk0 : 0 < keepN kd := by omega
        rw [if_pos e, if_neg (by rw [nI_ltI (by omega) (by omega)]; omega), tak_v a2]
        obtain ⟨g2, f2, b1, b2, b3, b4⟩ := take_c a2 a3 (by omega) (i := 0) (by omega)
        have b1 : f_X5_takeOut g1 x 0 = some g2 := b1
        exact ⟨g2, f2, by rw [b1]; rfl, b2, b3, b4⟩
      · rw [if_neg e, if_pos (nI_lt (by omega) (by omega))]
        exact ⟨g1, f1, rfl, a2, a3, fun _ _ _ => rfl⟩
    obtain ⟨g2, f2, b1, b2, b3, b4⟩ := s2
    have L2 := (L1.d0 e2).2
    rw [b1]
    simp only [obs, b2.f3]
    rw [if_neg (nI_pos (by omega)), b2.room hk]
    simp only [obs]
    rw [if_neg (by rw [nI_leI (by omega) (by omega)]; omega), b2.f4]
    simp only [obs, gal_of b2.2]
    rw [if_neg (by rw [nI_leI (by omega) (by omega)]; omega), who_v b2 hk]
    simp only [obs]
    unfold f_X9_of
    simp only [obs]
    have hw : (if kd = 1 ∨ kd = 4 then 9 else nI p : Int32) = nI (if kd = 1 ∨ kd = 4 then 9 else p) := by
      by_cases e : kd = 1 ∨ kd = 4
      · rw [if_pos e, if_pos e]; rfl
      · rw [if_neg e, if_neg e]
    rw [hw, scn_ok]
    obtain ⟨n, hn⟩ : ∃ n, n = (d0L kd (dpL kd c L)).1 := ⟨_, rfl⟩
    have hn9 : n < 9 := by omega
    rw [← hn] at b2
    obtain ⟨g3, hg3⟩ : ∃ g3, g3 = va_up g2 q1 (.inr (.inl (9, upd f2 n (nI ((m + 1) * 1000 + c * 10 + (if kd = 1 ∨ kd = 4 then 9 else p)))))) := ⟨_, rfl⟩
    have hs : gas g2 q1 (nI n) (nI ((m + 1) * 1000 + c * 10 + (if kd = 1 ∨ kd = 4 then 9 else p))) = some g3 := by
      rw [hg3]
      exact gas_of b2.2 hn9 (by decide)
    have c2 : Lp g3 x q1 kd c0 r b n (upd f2 n (nI ((m + 1) * 1000 + c * 10 + (if kd = 1 ∨ kd = 4 then 9 else p)))) := by
      rw [hg3]
      exact ⟨(va_ne (Ne.symm b2.ne)).trans b2.1, va_up_self _ _ _⟩
    obtain ⟨g4, d1, d2, d3⟩ := c2.setS (n + 1)
    rw [← hn, hs]
    simp only [obs, c2.f3, nI_1, d1]
    rw [if_neg e2]
    refine ⟨g4, upd f2 n (nI ((m + 1) * 1000 + c * 10 + (if kd = 1 ∨ kd = 4 then 9 else p))), rfl, ?_, fun k hk2 => ?_, fun y y1 y2 => ?_⟩
    · show Lp g4 x q1 kd c0 r b ((d0L kd (dpL kd c L)).1 + 1) _
      rw [← hn]
      exact d2
    · have hk2 : k < (d0L kd (dpL kd c L)).1 + 1 := hk2
      show upd f2 n _ k = nI ((if k = (d0L kd (dpL kd c L)).1 then m + 1 else (d0L kd (dpL kd c L)).2.2.2 k) * 1000 + (if k = (d0L kd (dpL kd c L)).1 then c else (d0L kd (dpL kd c L)).2.2.1 k) * 10 + (if k = (d0L kd (dpL kd c L)).1 then (if kd = 1 ∨ kd = 4 then 9 else p) else (d0L kd (dpL kd c L)).2.1 k))
      rw [← hn]
      by_cases e : k = n
      · rw [e, upd_s, if_pos rfl, if_pos rfl, if_pos rfl]
      · rw [upd_n e, if_neg e, if_neg e, if_neg e]
        exact b3 k (by omega)
    · rw [d3 y y1, hg3, va_ne y2, b4 y y1 y2, a4 y y1 y2]
/-! the same in the reference's rows -/
def encR (wh ce mi : Nat → Int32) (l : Nat) (L : ScL) : Prop := ∀ k, k < L.1 → wh (9 * l + k) = nI (L.2.1 k) ∧ ce (9 * l + k) = nI (L.2.2.1 k) ∧ mi (9 * l + k) = nI (L.2.2.2 k)
theorem take_x {l i : Nat} {L : ScL} (hl : l < 6) (h9 : L.1 ≤ 9) (hi2 : i < L.1) (hsa : sa l = nI L.1) (he : encR wh ce mi l L) : ∃ wh' ce' mi', f_X12_takesOut sa wh ce mi (nI l) (nI i) = some (upd sa l (nI (dropL L i).1), wh', ce', mi') ∧ encR wh' ce' mi' l (dropL L i) ∧ ∀ j, (j < 9 * l ∨ 9 * l + 9 ≤ j) → wh' j = wh j ∧ ce' j = ce j ∧ mi' j = mi j := by
  unfold f_X12_takesOut
  rw [gix_ok hl (by decide), gix_ok hl (by decide), nI_clamp (show l < 2 ^ 31 by omega), hsa, nI_s1 (by omega), i9, nI_add]
  have main := gloop (σ := (Nat → Int32) × (Nat → Int32) × (Nat → Int32)) (ρ := Option ((Nat → Int32) × (Nat → Int32) × (Nat → Int32) × (Nat → Int32))) (fun n k s => L_X12_takesOut_17 (fun x17_80 => some (upd sa l (nI (L.1 - 1)), x17_80.1, x17_80.2.1, x17_80.2.2)) (upd sa l (nI (L.1 - 1))) (nI l) n (nI (9 * l + k)) s.1 s.2.1 s.2.2) (L.1 - 1) (fun j s => i ≤ j ∧ (∀ k, k < 9 → (s.1 (9 * l + k) = if i ≤ k ∧ k < j then wh (9 * l + k + 1) else wh (9 * l + k)) ∧ (s.2.1 (9 * l + k) = if i ≤ k ∧ k < j then ce (9 * l + k + 1) else ce (9 * l + k)) ∧ (s.2.2 (9 * l + k) = if i ≤ k ∧ k < j then mi (9 * l + k + 1) else mi (9 * l + k))) ∧ ∀ j, (j < 9 * l ∨ 9 * l + 9 ≤ j) → s.1 j = wh j ∧ s.2.1 j = ce j ∧ s.2.2 j = mi j) (fun res => ∃ wh' ce' mi', res = some (upd sa l (nI (L.1 - 1)), wh', ce', mi') ∧ (∀ k, k < 9 → (wh' (9 * l + k) = if i ≤ k ∧ k < L.1 - 1 then wh (9 * l + k + 1) else wh (9 * l + k)) ∧ (ce' (9 * l + k) = if i ≤ k ∧ k < L.1 - 1 then ce (9 * l + k + 1) else ce (9 * l + k)) ∧ (mi' (9 * l + k) = if i ≤ k ∧ k < L.1 - 1 then mi (9 * l + k + 1) else mi (9 * l + k))) ∧ ∀ j, (j < 9 * l ∨ 9 * l + 9 ≤ j) → wh' j = wh j ∧ ce' j = ce j ∧ mi' j = mi j) ?_ ?_ gF i (wh, ce, mi) (by unfold gF; omega) (by omega) ⟨Nat.le_refl _, fun k _ => by rw [if_neg (by omega), if_neg (by omega), if_neg (by omega)]; exact ⟨rfl, rfl, rfl⟩, fun _ _ => ⟨rfl, rfl, rfl⟩⟩
  · obtain ⟨wh', ce', mi', e1, e2, e3⟩ := main
    refine ⟨wh', ce', mi', e1, fun k hk => ?_, e3⟩
    have hk : k < L.1 - 1 := hk
    obtain ⟨m1, m2, m3⟩ := e2 k (by omega)
    show wh' (9 * l + k) = nI (if k < i then L.2.1 k else L.2.1 (k + 1)) ∧ ce' (9 * l + k) = nI (if k < i then L.2.2.1 k else L.2.2.1 (k + 1)) ∧ mi' (9 * l + k) = nI (if k < i then L.2.2.2 k else L.2.2.2 (k + 1))
    rw [m1, m2, m3]
    by_cases e : k < i
    · have e2 : ¬ (i ≤ k ∧ k < L.1 - 1) := by omega
      simp only [e, e2, if_true, if_false]
      exact he k (by omega)
    · have e2 : i ≤ k ∧ k < L.1 - 1 := ⟨by omega, hk⟩
      simp only [e, e2, and_self, if_true, if_false]
      exact he (k + 1) (by omega)
  · rintro n s ⟨-, a1, a2⟩
    refine ⟨s.1, s.2.1, s.2.2, ?_, a1, a2⟩
    show L_X12_takesOut_17 _ _ (nI l) (n + 1) (nI (9 * l + (L.1 - 1))) _ _ _ = _
    rw [L_X12_takesOut_17.eq_2, gix_ok hl (by decide), nI_clamp (show l < 2 ^ 31 by omega), upd_s, i9, nI_add, if_pos (nI_le (Nat.le_refl _) (by omega))]
  · rintro n j s hj ⟨hij, a1, a2⟩
    right
    refine ⟨(upd s.1 (9 * l + j) (s.1 (9 * l + j + 1)), upd s.2.1 (9 * l + j) (s.2.1 (9 * l + j + 1)), upd s.2.2 (9 * l + j) (s.2.2 (9 * l + j + 1))), ?_, by omega, fun k hk => ?_, fun y hy => ?_⟩
    · show L_X12_takesOut_17 _ _ (nI l) (n + 1) (nI (9 * l + j)) _ _ _ = L_X12_takesOut_17 _ _ (nI l) n (nI (9 * l + (j + 1))) (upd s.1 (9 * l + j) (s.1 (9 * l + j + 1))) (upd s.2.1 (9 * l + j) (s.2.1 (9 * l + j + 1))) (upd s.2.2 (9 * l + j) (s.2.2 (9 * l + j + 1)))
      rw [L_X12_takesOut_17.eq_2, gix_ok hl (by decide), nI_clamp (show l < 2 ^ 31 by omega), upd_s, i9, nI_add, if_neg (by rw [nI_leI (by omega) (by omega)]; omega), nI_1]
      simp only [gix_ok (show 9 * l + j < 54 by omega) (show 54 < 2 ^ 31 by decide), gix_ok (show 9 * l + j + 1 < 54 by omega) (show 54 < 2 ^ 31 by decide), nI_clamp (show 9 * l + j < 2 ^ 31 by omega), nI_clamp (show 9 * l + j + 1 < 2 ^ 31 by omega)]
      rfl
    · have gen : ∀ (g0 s0 : Nat → Int32), (∀ k, k < 9 → s0 (9 * l + k) = if i ≤ k ∧ k < j then g0 (9 * l + k + 1) else g0 (9 * l + k)) → upd s0 (9 * l + j) (s0 (9 * l + j + 1)) (9 * l + k) = if i ≤ k ∧ k < j + 1 then g0 (9 * l + k + 1) else g0 (9 * l + k) := by
        intro g0 s0 hs0
        by_cases e : k = j
        · have h2 := hs0 (j + 1) (by omega)
          rw [if_neg (by omega), ← Nat.add_assoc] at h2
          rw [e, upd_s, if_pos ⟨hij, by omega⟩, h2]
        · rw [upd_n (by omega), hs0 k hk]
          by_cases e2 : i ≤ k ∧ k < j
          · rw [if_pos e2, if_pos ⟨e2.1, by omega⟩]
          · rw [if_neg e2, if_neg (by omega)]
      exact ⟨gen wh s.1 (fun k hk => (a1 k hk).1), gen ce s.2.1 (fun k hk => (a1 k hk).2.1), gen mi s.2.2 (fun k hk => (a1 k hk).2.2)⟩
    · have := a2 y hy
      exact ⟨(upd_n (by omega)).trans this.1, (upd_n (by omega)).trans this.2.1, (upd_n (by omega)).trans this.2.2⟩
end
