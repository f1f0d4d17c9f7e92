section
variable {gv : Nat → GV} {M hx : Nat} {ow : Nat → Nat} {S : SS} {re wa ka la ra li sa wh ce mi st ta ke ro : Nat → Int32} {hi : Int32} {fa sh qu lb may : Nat → Int32} {q : Int32} {tl1 le1 lt1 : Nat → Int32} {at1 ss1 ik1 cu1 : Int32}
/-! WAYS: steps go both ways -/
theorem rch_shift {f : Nat → Bool} (hf36 : ∀ c, f c = true → c < 36) {b d w : Nat} (hw : w < 4) (hb : bsd b w = some d) (fb : f b = true) (fd : f d = true) : ∀ n c, rch f (src f d) n c = true → rch f (src f b) (n + 1) c = true := by
  intro n
  induction n with
  | zero =>
    intro c hc
    have h1 : (decide (c = d) && f c) = true := hc
    simp only [Bool.and_eq_true, decide_eq_true_eq] at h1
    rw [h1.1]
    obtain ⟨v, v1, v2⟩ := bsd_sym (hf36 b fb) hw hb
    exact rch_step v1 v2 (show (decide (b = b) && f b) = true by simp [fb]) fb fd
  | succ n ih =>
    intro c hc
    have h1 : (rch f (src f d) n c || (f c && nbs (fun e => rch f (src f d) n e && f e) c)) = true := hc
    simp only [Bool.or_eq_true, Bool.and_eq_true] at h1
    rcases h1 with h1 | ⟨h1, h2⟩
    · exact rch_succ (ih c h1)
    · obtain ⟨u, e, u1, u2, u3⟩ := nbs_iff.mp h2
      simp only [Bool.and_eq_true] at u3
      exact rch_step u1 u2 (ih e u3.1) u3.2 h1
theorem rch_sym1 {f : Nat → Bool} (hf36 : ∀ c, f c = true → c < 36) : ∀ n a b, rch f (src f a) n b = true → rch f (src f b) n a = true := by
  intro n
  induction n with
  | zero =>
    intro a b hc
    have h1 : (decide (b = a) && f b) = true := hc
    simp only [Bool.and_eq_true, decide_eq_true_eq] at h1
    show (decide (a = b) && f a) = true
    rw [← h1.1]
    simp [h1.2]
  | succ n ih =>
    intro a b hc
    have h1 : (rch f (src f a) n b || (f b && nbs (fun e => rch f (src f a) n e && f e) b)) = true := hc
    simp only [Bool.or_eq_true, Bool.and_eq_true] at h1
    rcases h1 with h1 | ⟨h1, h2⟩
    · exact rch_succ (ih a b h1)
    · obtain ⟨u, e, u1, u2, u3⟩ := nbs_iff.mp h2
      simp only [Bool.and_eq_true] at u3
      exact rch_shift hf36 u1 u2 h1 u3.2 n a (ih a e u3.1)
theorem rch_sym {f : Nat → Bool} (hf36 : ∀ c, f c = true → c < 36) (n a b : Nat) : rch f (src f a) n b = rch f (src f b) n a := by
  cases h1 : rch f (src f a) n b with
  | true => exact (rch_sym1 hf36 n a b h1).symm
  | false =>
    cases h2 : rch f (src f b) n a with
    | false => rfl
    | true =>
      rw [rch_sym1 hf36 n b a h2] at h1
      cases h1
/-! the next cell of a way -/
def nxB (T : TS) (p to left d : Nat) : Bool := gl1 (tF T) (tP T p) 1 d && gl1 (tF T) to left d
theorem free_p {T : TS} (hT : TOK T) {p : Nat} (hp : p < tp T) : tF T (tP T p) = true := by
  have := hT.2.2.2.2.2.1 p hp
  unfold tF fr
  simp [this.1, this.2]
theorem free_to {f : Nat → Bool} {to c n : Nat} (h : rch f (src f to) n c = true) : f to = true := by
  cases e : f to with
  | true => rfl
  | false =>
    rw [src_no (by simp [e])] at h
    cases h
theorem nx_iff {T : TS} (hT : TOK T) {p to left : Nat} (hp : p < tp T) (hd : ∀ r, rch (tF T) (src (tF T) to) r (tP T p) = decide (left + 1 ≤ r)) {far : Nat → Int32} (hf : FarOK (tF T) to far) {d : Nat} (h36 : d < 36) (hl : left < 2 ^ 31) : nxB T p to left d = true ↔ (∃ w, w < 4 ∧ bsd (tP T p) w = some d) ∧ far d = nI left := by
  have hP := (hT.2.2.2.2.2.1 p hp).1
  have fc := free_p hT hp
  have fto := free_to (f := tF T) (to := to) (c := tP T p) (n := left + 1) (by rw [hd]; simp)
  have hg : gl1 (tF T) to left d = rch (tF T) (src (tF T) to) left d := by unfold gl1; rw [if_pos fto]
  unfold nxB
  rw [gl1_near fc hP h36, hg]
  simp only [Bool.and_eq_true]
  constructor
  · rintro ⟨⟨f1, f2⟩, f3⟩
    unfold nearB at f2
    simp only [Bool.or_eq_true, decide_eq_true_eq] at f2
    rcases f2 with f2 | f2
    · rw [f2, hd] at f3
      simp at f3
      omega
    · obtain ⟨w, w1, w2⟩ := anyB_iff.mp f2
      have w2 : bsd (tP T p) w = some d := by simpa using w2
      refine ⟨⟨w, w1, w2⟩, ?_⟩
      rcases far_all hf h36 with ⟨dd, e1, e2, e3⟩ | ⟨-, e3⟩
      · have a1 : dd ≤ left := by rw [e3] at f3; simpa using f3
        have a2 : rch (tF T) (src (tF T) to) (dd + 1) (tP T p) = true := rch_step w1 w2 (by rw [e3]; simp) f1 fc
        have a3 : left + 1 ≤ dd + 1 := by rw [hd] at a2; simpa using a2
        rw [e2, show dd = left by omega]
      · rw [e3] at f3
        cases f3
  · rintro ⟨⟨w, w1, w2⟩, hfar⟩
    rcases far_all hf h36 with ⟨dd, e1, e2, e3⟩ | ⟨e1, -⟩
    · have e : dd = left := (nI_eq (by omega) hl).mp (e2.symm.trans hfar)
      have r1 : rch (tF T) (src (tF T) to) left d = true := by rw [e3, e]; simp
      refine ⟨⟨rch_f r1, ?_⟩, r1⟩
      unfold nearB
      simp only [Bool.or_eq_true, decide_eq_true_eq]
      exact Or.inr (anyB_iff.mpr ⟨w, w1, by simp [w2]⟩)
    · exact absurd (hfar.symm.trans e1) (far_neg hl)
theorem nx_get {T : TS} (hT : TOK T) {p to left : Nat} (hp : p < tp T) (hto : to < 36) (hd : ∀ r, rch (tF T) (src (tF T) to) r (tP T p) = decide (left + 1 ≤ r)) (hl : left < 2 ^ 31) : ∃ d, fst1 (nxB T p to left) 36 = some d := by
  have hP := (hT.2.2.2.2.2.1 p hp).1
  have fc := free_p hT hp
  obtain ⟨far, hf⟩ := far_ex (f := tF T) fr36 hto
  have h1 : (rch (tF T) (src (tF T) to) left (tP T p) || (tF T (tP T p) && nbs (fun e => rch (tF T) (src (tF T) to) left e && tF T e) (tP T p))) = true := by
    have := hd (left + 1)
    simp only [Nat.le_refl, decide_true] at this
    exact this
  have h2 : rch (tF T) (src (tF T) to) left (tP T p) = false := by rw [hd]; simp
  rw [h2] at h1
  simp only [Bool.false_or, Bool.and_eq_true] at h1
  obtain ⟨w, d, w1, w2, w3⟩ := nbs_iff.mp h1.2
  simp only [Bool.and_eq_true] at w3
  have h36 := bsd_lt hP w2
  have hfar : far d = nI left := by
    rcases far_all hf h36 with ⟨dd, e1, e2, e3⟩ | ⟨-, e3⟩
    · have a1 : dd ≤ left := by have := w3.1; rw [e3] at this; simpa using this
      have a2 : rch (tF T) (src (tF T) to) (dd + 1) (tP T p) = true := rch_step w1 w2 (by rw [e3]; simp) w3.2 fc
      have a3 : left + 1 ≤ dd + 1 := by rw [hd] at a2; simpa using a2
      rw [e2, show dd = left by omega]
    · have := w3.1
      rw [e3] at this
      cases this
  have hb := (nx_iff hT hp hd hf h36 hl).mpr ⟨⟨w, w1, w2⟩, hfar⟩
  cases hq : fst1 (nxB T p to left) 36 with
  | some v => exact ⟨v, rfl⟩
  | none => exact absurd hq (fst1_ne h36 hb)
/-- the least of those told by the ways -/
def mnO (g : Nat → Option Nat) : Nat → Option Nat
  | 0 => none
  | k + 1 => match g k with
    | none => mnO g k
    | some d => match mnO g k with
      | none => some d
      | some e => if e ≤ d then some e else some d
theorem mnO_ok (g : Nat → Option Nat) : ∀ k, (match mnO g k with
    | none => ∀ w, w < k → g w = none
    | some d => (∃ w, w < k ∧ g w = some d) ∧ ∀ w e, w < k → g w = some e → d ≤ e)
  | 0 => by
    show ∀ w, w < 0 → g w = none
    intro w hw
    omega
  | k + 1 => by
    have ih := mnO_ok g k
    unfold mnO
    cases hg : g k with
    | none =>
      cases hm : mnO g k with
      | none =>
        rw [hm] at ih
        intro w hw
        by_cases e : w = k
        · rw [e]; exact hg
        · exact ih w (by omega)
      | some d =>
        rw [hm] at ih
        obtain ⟨⟨w0, a1, a2⟩, a3⟩ := ih
        refine ⟨⟨w0, by omega, a2⟩, fun w e hw he => ?_⟩
        by_cases e2 : w = k
        · rw [e2, hg] at he; cases he
        · exact a3 w e (by omega) he
    | some d =>
      cases hm : mnO g k with
      | none =>
        rw [hm] at ih
        refine ⟨⟨k, by omega, hg⟩, fun w e hw he => ?_⟩
        by_cases e2 : w = k
        · rw [e2, hg] at he; cases he; exact Nat.le_refl _
        · rw [ih w (by omega)] at he; cases he
      | some c =>
        rw [hm] at ih
        obtain ⟨⟨w0, a1, a2⟩, a3⟩ := ih
        show (match (if c ≤ d then some c else some d) with
          | none => ∀ w, w < k + 1 → g w = none
          | some d => (∃ w, w < k + 1 ∧ g w = some d) ∧ ∀ w e, w < k + 1 → g w = some e → d ≤ e)
        by_cases hcd : c ≤ d
        · rw [if_pos hcd]
          refine ⟨⟨w0, by omega, a2⟩, fun w e hw he => ?_⟩
          by_cases e2 : w = k
          · rw [e2, hg] at he; cases he; exact hcd
          · exact a3 w e (by omega) he
        · rw [if_neg hcd]
          refine ⟨⟨k, by omega, hg⟩, fun w e hw he => ?_⟩
          by_cases e2 : w = k
          · rw [e2, hg] at he; cases he; exact Nat.le_refl _
          · have := a3 w e (by omega) he; omega
theorem xnext_ok {T : TS} (hT : TOK T) (hR : RT T wa ka la ra li sa wh ce mi st) {p to left : Nat} (hp : p < tp T) (hto : to < 36) (hd : ∀ r, rch (tF T) (src (tF T) to) r (tP T p) = decide (left + 1 ≤ r)) (hl : left + 1 < 2 ^ 31) {far : Nat → Int32} (hf : FarOK (tF T) to far) {d : Nat} (hq : fst1 (nxB T p to left) 36 = some d) {v2 v3 : Int32} {α : Type} {K : Int32 → Option α} : L_X12_goesTo_28 K st far (nI p) v2 v3 gF (-9) 0 = K (nI d) := by
  have hp4 : tp T ≤ 4 := hT.2.2.2.1
  have hP := (hT.2.2.2.2.2.1 p hp).1
  have hfc : far (tP T p) = nI (left + 1) := by
    rcases far_all hf hP with ⟨dd, e1, e2, e3⟩ | ⟨-, e3⟩
    · have a1 := e3 dd
      rw [hd] at a1
      have a2 := e3 (left + 1)
      rw [hd] at a2
      simp at a1 a2
      rw [e2, show dd = left + 1 by omega]
    · have := hd (left + 1)
      rw [e3] at this
      simp at this
  obtain ⟨g, hg⟩ : ∃ g : Nat → Option Nat, g = fun w => match bsd (tP T p) w with
    | some e => if far e = nI left then some e else none
    | none => none := ⟨_, rfl⟩
  have glt : ∀ w e, g w = some e → e < 36 ∧ bsd (tP T p) w = some e ∧ far e = nI left := by
    intro w e he
    rw [hg] at he
    cases hb : bsd (tP T p) w with
    | none => simp [hb] at he
    | some c =>
      simp only [hb] at he
      by_cases hc : far c = nI left
      · rw [if_pos hc] at he
        cases he
        exact ⟨bsd_lt hP hb, rfl, hc⟩
      · rw [if_neg hc] at he
        cases he
  have fin : mnO g 4 = some d := by
    obtain ⟨q1, q2, q3⟩ := fst1_some hq
    obtain ⟨⟨w, w1, w2⟩, w3⟩ := (nx_iff hT hp hd hf q1 (by omega)).mp q2
    have gw : g w = some d := by
      rw [hg]
      simp only [w2]
      rw [if_pos w3]
    have hm := mnO_ok g 4
    cases he : mnO g 4 with
    | none =>
      rw [he] at hm
      rw [hm w w1] at gw
      cases gw
    | some e =>
      rw [he] at hm
      obtain ⟨⟨u, u1, u2⟩, u3⟩ := hm
      have e1 := u3 w d w1 gw
      obtain ⟨v1, v2, v3⟩ := glt u e u2
      have e2 : nxB T p to left e = true := (nx_iff hT hp hd hf v1 (by omega)).mpr ⟨⟨u, u1, v2⟩, v3⟩
      have e3 : ¬ e < d := fun h => by
        rw [q3 e h] at e2
        cases e2
      rw [show e = d by omega]
  have main := gfold (σ := Int32) (ρ := Option α) (fun n k x => L_X12_goesTo_28 K st far (nI p) v2 v3 n x (nI k)) K 4 (fun k => oI (mnO g k)) ?_ ?_ gF 0 (by decide) (by decide)
  · rw [fin] at main
    exact main
  · intro n
    show L_X12_goesTo_28 K st far _ v2 v3 (n + 1) _ (nI 4) = _
    rw [L_X12_goesTo_28.eq_2, if_pos (by decide)]
  · intro n k hk
    show L_X12_goesTo_28 K st far _ v2 v3 (n + 1) (oI (mnO g k)) (nI k) = L_X12_goesTo_28 K st far _ v2 v3 n (oI (mnO g (k + 1))) (nI (k + 1))
    rw [L_X12_goesTo_28.eq_2, if_neg (by rw [show (4 : Int32) = nI 4 from rfl, nI_leI (by decide) (by omega)]; omega), gix_ok (show p < 4 by omega) (by decide), nI_clamp (show p < 2 ^ 31 by omega), hR.2.1 p hp, beside_ok _ hP k hk, nI_1]
    simp only [obs]
    have hsu : mnO g (k + 1) = match g k with
      | none => mnO g k
      | some d => match mnO g k with
        | none => some d
        | some e => if e ≤ d then some e else some d := rfl
    have hgk : g k = match bsd (tP T p) k with
      | some e => if far e = nI left then some e else none
      | none => none := by rw [hg]
    rw [hsu]
    unfold bsI
    cases hb : bsd (tP T p) k with
    | none =>
      rw [hb] at hgk
      rw [hgk, if_pos (by decide)]
      simp only [obs]
    | some c =>
      have hc := bsd_lt hP hb
      rw [hb] at hgk
      have hgk : g k = if far c = nI left then some c else none := hgk
      show ((if nI c < 0 then some (oI (mnO g k)) else _ : Option Int32).bind _) = _
      rw [if_neg (nI_pos (by omega)), gix_ok hc (by decide), gix_ok (show p < 4 by omega) (by decide), gix_ok hP (by decide), nI_clamp (show c < 2 ^ 31 by omega), nI_clamp (show tP T p < 2 ^ 31 by omega), hfc, nI_s1 (by omega), Nat.add_sub_cancel]
      by_cases hfl : far c = nI left
      · rw [if_pos hfl] at hgk ⊢
        rw [hgk]
        cases hm : mnO g k with
        | none =>
          rw [if_pos (show oI none < 0 by decide)]
          simp only [obs]
          rfl
        | some e =>
          have he : e < 36 := by
            have hmo := mnO_ok g k
            rw [hm] at hmo
            obtain ⟨⟨u, u1, u2⟩, -⟩ := hmo
            exact (glt u e u2).1
          show ((if nI e < 0 then some (nI c) else if nI e ≤ nI c then some (nI e) else some (nI c) : Option Int32).bind _) = L_X12_goesTo_28 K st far _ v2 v3 n (oI (if e ≤ c then some e else some c)) (nI (k + 1))
          rw [if_neg (nI_pos (by omega))]
          by_cases hec : e ≤ c
          · rw [if_pos (nI_le hec (by omega)), if_pos hec]
            simp only [obs]
            rfl
          · rw [if_neg (by rw [nI_leI (by omega) (by omega)]; exact hec), if_neg hec]
            simp only [obs]
            rfl
      · rw [if_neg hfl] at hgk ⊢
        rw [hgk]
        simp only [obs]
/-! one step of one -/
def mvT (T : TS) (p c : Nat) : TS := (T.1, T.2.1, T.2.2.1, T.2.2.2.1, T.2.2.2.2.1, T.2.2.2.2.2.1, T.2.2.2.2.2.2.1, T.2.2.2.2.2.2.2.1, T.2.2.2.2.2.2.2.2.1, (fun k => if k = p then c else tP T k), tn T, tp T, tM T + 1)
def stepT (T : TS) (p c : Nat) : TS := stT (mvT T p c) (kpG (mvT T p c) p c (tn T))
theorem TOK.mv {T : TS} (h : TOK T) {p c : Nat} (hc : c < 36) (hw : tW T c = false) (hM : tM T + 1 ≤ 9999) : TOK (mvT T p c) := by
  obtain ⟨h1, h2, h3, h4, h5, h6, h7⟩ := h
  refine ⟨h1, h2, h3, h4, hM, fun k hk => ?_, fun l hl => ?_⟩
  · show (if k = p then c else tP T k) < 36 ∧ tW T (if k = p then c else tP T k) = false
    by_cases e : k = p
    · rw [if_pos e]; exact ⟨hc, hw⟩
    · rw [if_neg e]; exact h6 k hk
  · obtain ⟨k1, k2, k3, k4, k5, k6⟩ := h7 l hl
    exact ⟨k1, k2, k3, k4, fun k hk => ⟨(k5 k hk).1, (k5 k hk).2.1, Nat.le_succ_of_le (k5 k hk).2.2⟩, k6⟩
theorem TOK.ls {T : TS} (h : TOK T) : ∀ l, l < tn T → LOK (tK T l) (tM T) (lsT T l) := fun l hl => by
  obtain ⟨k1, k2, k3, k4, k5, k6⟩ := h.2.2.2.2.2.2 l hl
  exact ⟨k4, k5, k6⟩
theorem TOK.step {T : TS} (h : TOK T) {p c : Nat} (hp : p < 10) (hc : c < 36) (hw : tW T c = false) (hM : tM T + 1 ≤ 9999) : TOK (stepT T p c) := (h.mv hc hw hM).sct (kpG_ok (T := mvT T p c) hp hc rfl h.ls (tn T))
theorem CT.move {a la1 pa t p c : Nat} {T : TS} {fl : Nat → Option Nat} {pf : Nat → Int32} {LA SA : Nat → Nat} {sf : Nat → Nat → Int32} (h : CT gv a T la1 pa fl pf LA SA sf) (hO : OWN ow t a la1 pa LA SA (tn T)) (hp : p < 4) (hp2 : p < tp T) : ∃ ga gb, gas gv pa (nI p) (nI c) = some ga ∧ gfI ga a [8] 5 = some (nI (tM T)) ∧ gpu ga a [8] 5 (.int (nI (tM T + 1))) = some gb ∧ CT gb a (mvT T p c) la1 pa fl (upd pf p (nI c)) LA SA sf ∧ Off gv gb ow t ∧ gai gb pa (nI p) = some (nI c) := by
  obtain ⟨h1, h2, h3, h4, h5⟩ := h
  obtain ⟨o1, o2, o3, o4⟩ := hO
  have hne : a ≠ pa := fun e => by rw [e] at o1; omega
  obtain ⟨ga, hga⟩ : ∃ ga, ga = va_up gv pa (.inr (.inl (4, upd pf p (nI c)))) := ⟨_, rfl⟩
  have hs : gas gv pa (nI p) (nI c) = some ga := by
    rw [hga]
    exact gas_of h3 hp (by decide)
  have d2 : ga a = .inl (8, [.ref la1, .ref pa, .long (lN (bm (tW T) 36)), .int (nI (tn T)), .int (nI (tp T)), .int (nI (tM T))]) := by
    rw [hga, va_ne hne]
    exact h1
  obtain ⟨gb, hgb⟩ : ∃ gb, gb = va_up ga a (.inl (8, [.ref la1, .ref pa, .long (lN (bm (tW T) 36)), .int (nI (tn T)), .int (nI (tp T)), .int (nI (tM T + 1))])) := ⟨_, rfl⟩
  have hpu : gpu ga a [8] 5 (.int (nI (tM T + 1))) = some gb := by
    rw [hgb]
    exact gpu_of d2 (by decide) (by show 5 < 6; decide)
  have d3 : gb a = .inl (8, [.ref la1, .ref pa, .long (lN (bm (tW T) 36)), .int (nI (tn T)), .int (nI (tp T)), .int (nI (tM T + 1))]) := by rw [hgb, va_up_self]
  have d4 : gb pa = .inr (.inl (4, upd pf p (nI c))) := by rw [hgb, va_ne (Ne.symm hne), hga, va_up_self]
  have fr : ∀ q, ow q ≠ 20 * t + 1 → ow q ≠ 20 * t + 3 → gb q = gv q := fun q q1 q2 => by
    rw [hgb, va_ne (fun e => by rw [e] at q1; exact q1 o1), hga, va_ne (fun e => by rw [e] at q2; exact q2 o3)]
  refine ⟨ga, gb, hs, gfI_of d2 (by decide) rfl, hpu, ⟨d3, (fr la1 (by omega) (by omega)).trans h2, d4, fun k hk => ?_, fun l hl => ?_⟩, fun q hq => fr q (by omega) (by omega), ?_⟩
  · show upd pf p (nI c) k = nI (if k = p then c else tP T k)
    by_cases e : k = p
    · rw [e, upd_s, if_pos rfl]
    · rw [upd_n e, if_neg e]; exact h4 k hk
  · obtain ⟨k1, k2, k3⟩ := h5 l hl
    obtain ⟨p1, p2⟩ := o4 l hl
    exact ⟨k1, ⟨(fr (LA l) (by omega) (by omega)).trans k2.1, (fr (SA l) (by omega) (by omega)).trans k2.2⟩, k3⟩
  · rw [gai_of d4 hp (by decide), upd_s]
theorem RT.mv {T : TS} (hR : RT T wa ka la ra li sa wh ce mi st) {p c : Nat} : RT (mvT T p c) wa ka la ra li sa wh ce mi (upd st p (nI c)) := by
  refine ⟨hR.1, fun k hk => ?_, hR.2.2⟩
  show upd st p (nI c) k = nI (if k = p then c else tP T k)
  by_cases e : k = p
  · rw [e, upd_s, if_pos rfl]
  · rw [upd_n e, if_neg e]; exact hR.2.1 k hk
theorem xstep_ok {T : TS} (hT : TOK T) (hR : RT T wa ka la ra li sa wh ce mi st) {p c : Nat} (hp : p < tp T) (hc : c < 36) (hw : tW T c = false) (hM : tM T + 1 ≤ 9999) {fa sh qu lb : Nat → Int32} {q : Int32} : ∃ sa' wh' ce' mi' fa' sh' qu' q' lb', f_X12_stepsTo wa ka la ra li sa wh ce mi st (nI (tn T)) (nI (tp T)) (nI (tM T)) fa sh qu q lb (nI p) (nI c) = some (sa', wh', ce', mi', upd st p (nI c), nI (tM T + 1), fa', sh', qu', q', lb') ∧ RT (stepT T p c) wa ka la ra li sa' wh' ce' mi' (upd st p (nI c)) := by
  have hp4 : tp T ≤ 4 := hT.2.2.2.1
  have Tm := hT.mv (p := p) hc hw hM
  have Rm := hR.mv (p := p) (c := c)
  obtain ⟨fa', sh', qu', q', lb', x1, x2⟩ := xfindLit_ok Tm Rm (fa := fa) (sh := sh) (qu := qu) (q := q) (lb := lb)
  have x1 : f_X12_findLit wa ka la ra (upd st p (nI c)) (nI (tn T)) (nI (tp T)) fa sh qu q lb = some (fa', sh', qu', q', lb') := x1
  obtain ⟨sa', wh', ce', mi', y1, y2⟩ := xlkeep Tm Rm x2 (p := p) (show p < 10 by omega) hc (m := tM T) rfl hT.ls (K := fun x23_67 => some (x23_67.1, x23_67.2.1, x23_67.2.2.1, x23_67.2.2.2, upd st p (nI c), nI (tM T + 1), fa', sh', qu', q', lb'))
  have y1 : L_X12_stepsTo_23 (fun x23_67 => some (x23_67.1, x23_67.2.1, x23_67.2.2.1, x23_67.2.2.2, upd st p (nI c), nI (tM T + 1), fa', sh', qu', q', lb')) ka li (nI (tn T)) (nI (tM T + 1)) lb' (nI p) (nI c) gF 0 sa wh ce mi = some (sa', wh', ce', mi', upd st p (nI c), nI (tM T + 1), fa', sh', qu', q', lb') := y1
  refine ⟨sa', wh', ce', mi', fa', sh', qu', q', lb', ?_, y2⟩
  unfold f_X12_stepsTo
  rw [gix_ok (show p < 4 by omega) (by decide), nI_clamp (show p < 2 ^ 31 by omega), x1, nI_1]
  simp only [obs]
  exact y1
end
