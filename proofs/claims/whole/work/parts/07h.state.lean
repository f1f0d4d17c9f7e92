/-! THE WHOLE STATE: the town, whether there is an image, its town, the counts of refusals, the letters told, how many, the row, how many -/
abbrev SS : Type := TS × Bool × TS × (Nat → Int32) × (Nat → Nat) × Nat × (Nat → Nat) × Nat
def zT (S : SS) : TS := S.1
def zI (S : SS) : Bool := S.2.1
def zU (S : SS) : TS := S.2.2.1
def zF (S : SS) : Nat → Int32 := S.2.2.2.1
def zL (S : SS) : Nat → Nat := S.2.2.2.2.1
def zl (S : SS) : Nat := S.2.2.2.2.2.1
def zR (S : SS) : Nat → Nat := S.2.2.2.2.2.2.1
def zr (S : SS) : Nat := S.2.2.2.2.2.2.2
def SOK (S : SS) : Prop := TOK (zT S) ∧ (zI S = true → TOK (zU S)) ∧ zl S ≤ 96 ∧ (∀ k, k < zl S → zL S k < 256) ∧ zr S ≤ 12 ∧ ∀ k, k < zr S → zR S k < 100
/-- a call is refused -/
def sNo (S : SS) (k : Nat) : SS := (zT S, zI S, zU S, upd (zF S) k (zF S k + 1), zL S, zl S, zR S, zr S)
theorem SOK.no {S : SS} (h : SOK S) (k : Nat) : SOK (sNo S k) := h
/-! whose cell a cell is -/
def OWN (ow : Nat → Nat) (t a la pa : Nat) (LA SA : Nat → Nat) (n : Nat) : Prop := ow a = 20 * t + 1 ∧ ow la = 20 * t + 2 ∧ ow pa = 20 * t + 3 ∧ ∀ l, l < n → ow (LA l) = 20 * t + 4 + 2 * l ∧ ow (SA l) = 20 * t + 5 + 2 * l
def TH (gv : Nat → GV) (ow : Nat → Nat) (t a : Nat) (T : TS) : Prop := ∃ la pa fl pf LA SA sf, CT gv a T la pa fl pf LA SA sf ∧ OWN ow t a la pa LA SA (tn T)
def TE (gv : Nat → GV) (ow : Nat → Nat) (t a : Nat) : Prop := ∃ la pa w n p m fl pf, gv a = .inl (8, [.ref la, .ref pa, .long w, .int n, .int p, .int m]) ∧ gv la = .inr (.inr (6, fl)) ∧ gv pa = .inr (.inl (4, pf)) ∧ ow a = 20 * t + 1 ∧ ow la = 20 * t + 2 ∧ ow pa = 20 * t + 3
theorem TH.te {gv : Nat → GV} {ow : Nat → Nat} {t a : Nat} {T : TS} (h : TH gv ow t a T) : TE gv ow t a := by
  obtain ⟨la, pa, fl, pf, LA, SA, sf, h1, h2⟩ := h
  exact ⟨la, pa, _, _, _, _, fl, pf, h1.1, h1.2.1, h1.2.2.1, h2.1, h2.2.1, h2.2.2.1⟩
theorem TH.frame {gv gv2 : Nat → GV} {ow ow2 : Nat → Nat} {t a : Nat} {T : TS} (h : TH gv ow t a T) (hn : tn T ≤ 6) (e : ∀ q, 20 * t < ow q → ow q < 20 * t + 20 → gv2 q = gv q ∧ ow2 q = ow q) : TH gv2 ow2 t a T := by
  obtain ⟨la, pa, fl, pf, LA, SA, sf, ⟨h1, h2, h3, h4, h5⟩, o1, o2, o3, o4⟩ := h
  have ea := e a (by omega) (by omega)
  have el := e la (by omega) (by omega)
  have ep := e pa (by omega) (by omega)
  refine ⟨la, pa, fl, pf, LA, SA, sf, ⟨by rw [ea.1]; exact h1, by rw [el.1]; exact h2, by rw [ep.1]; exact h3, h4, fun l hl => ?_⟩, by rw [ea.2]; exact o1, by rw [el.2]; exact o2, by rw [ep.2]; exact o3, fun l hl => ?_⟩
  · obtain ⟨k1, k2, k3⟩ := h5 l hl
    obtain ⟨p1, p2⟩ := o4 l hl
    have eL := e (LA l) (by omega) (by omega)
    have eS := e (SA l) (by omega) (by omega)
    exact ⟨k1, ⟨by rw [eL.1]; exact k2.1, by rw [eS.1]; exact k2.2⟩, k3⟩
  · obtain ⟨p1, p2⟩ := o4 l hl
    have eL := e (LA l) (by omega) (by omega)
    have eS := e (SA l) (by omega) (by omega)
    exact ⟨by rw [eL.2]; exact p1, by rw [eS.2]; exact p2⟩
theorem TE.frame {gv gv2 : Nat → GV} {ow ow2 : Nat → Nat} {t a : Nat} (h : TE gv ow t a) (e : ∀ q, 20 * t < ow q → ow q < 20 * t + 20 → gv2 q = gv q ∧ ow2 q = ow q) : TE gv2 ow2 t a := by
  obtain ⟨la, pa, w, n, p, m, fl, pf, h1, h2, h3, o1, o2, o3⟩ := h
  have ea := e a (by omega) (by omega)
  have el := e la (by omega) (by omega)
  have ep := e pa (by omega) (by omega)
  exact ⟨la, pa, w, n, p, m, fl, pf, by rw [ea.1]; exact h1, by rw [el.1]; exact h2, by rw [ep.1]; exact h3, by rw [ea.2]; exact o1, by rw [el.2]; exact o2, by rw [ep.2]; exact o3⟩
/-- the cells of the class's object: its own, its letters, its rows; where its towns lie -/
def CO (gv : Nat → GV) (ow : Nat → Nat) (hx : Nat) (S : SS) (lt tx ro rf tk he sp : Nat) (tf rof rff : Nat → Int32) : Prop := gv hx = .inl (9, [.ref lt, .ref ro, .ref rf, .ref tk, .ref he, .ref sp, .int (nI (zr S)), .int (if zI S = true then 1 else 0)]) ∧ gv lt = .inl (5, [.ref tx, .int (nI (zl S))]) ∧ gv tx = .inr (.inl (96, tf)) ∧ gv ro = .inr (.inl (12, rof)) ∧ gv rf = .inr (.inl (7, rff)) ∧ (ow hx = 101 ∧ ow lt = 102 ∧ ow tx = 103 ∧ ow ro = 104 ∧ ow rf = 105) ∧ (∀ k, k < zl S → tf k = nI (zL S k)) ∧ (∀ k, k < zr S → rof k = nI (zR S k)) ∧ ∀ k, k < 7 → rff k = zF S k
/-- its towns -/
def CW (gv : Nat → GV) (ow : Nat → Nat) (S : SS) (tk he sp th ts : Nat) : Prop := ((th = 1 ∧ ts = 2) ∨ (th = 2 ∧ ts = 1)) ∧ TH gv ow th he (zT S) ∧ TE gv ow ts sp ∧ TE gv ow 3 tk ∧ (zI S = true → TH gv ow 3 tk (zU S))
def CX (gv : Nat → GV) (M hx : Nat) (ow : Nat → Nat) (S : SS) : Prop := ∃ lt tx ro rf tk he sp th ts tf rof rff, CO gv ow hx S lt tx ro rf tk he sp tf rof rff ∧ CW gv ow S tk he sp th ts ∧ ∀ q, M ≤ q → ow q = 0
/-- what is not the class's stays -/
def Keep (gv gv2 : Nat → GV) (ow ow2 : Nat → Nat) : Prop := ∀ q, 200 ≤ ow q → gv2 q = gv q ∧ ow2 q = ow q
theorem Keep.rf {gv : Nat → GV} {ow : Nat → Nat} : Keep gv gv ow ow := fun q _ => ⟨rfl, rfl⟩
theorem Keep.tr {gv gv2 gv3 : Nat → GV} {ow ow2 ow3 : Nat → Nat} (h : Keep gv gv2 ow ow2) (h2 : Keep gv2 gv3 ow2 ow3) : Keep gv gv3 ow ow3 := fun q hq => by
  obtain ⟨a1, a2⟩ := h q hq
  obtain ⟨b1, b2⟩ := h2 q (by omega)
  exact ⟨b1.trans a1, b2.trans a2⟩
theorem va_ne {gv : Nat → GV} {a q : Nat} {x : GV} (h : q ≠ a) : va_up gv a x q = gv q := va_up_ne _ _ h
theorem CW.frame {gv gv2 : Nat → GV} {ow ow2 : Nat → Nat} {S S2 : SS} {tk he sp th ts : Nat} (hT : SOK S) (h : CW gv ow S tk he sp th ts) (e1 : zT S2 = zT S) (e2 : zI S2 = zI S) (e3 : zU S2 = zU S) (e : ∀ q, 20 < ow q → ow q < 80 → gv2 q = gv q ∧ ow2 q = ow q) : CW gv2 ow2 S2 tk he sp th ts := by
  obtain ⟨h1, h2, h3, h4, h5⟩ := h
  have hth : th ≤ 2 ∧ ts ≤ 2 ∧ 1 ≤ th ∧ 1 ≤ ts := by omega
  refine ⟨h1, ?_, h3.frame (fun q a b => e q (by omega) (by omega)), h4.frame (fun q a b => e q (by omega) (by omega)), fun hi => ?_⟩
  · rw [e1]
    exact h2.frame hT.1.2.2.1 (fun q a b => e q (by omega) (by omega))
  · rw [e3]
    rw [e2] at hi
    exact (h5 hi).frame (hT.2.1 hi).2.2.1 (fun q a b => e q (by omega) (by omega))
theorem CX.refuse {gv : Nat → GV} {M hx k : Nat} {ow : Nat → Nat} {S : SS} (hT : SOK S) (h : CX gv M hx ow S) (hk : 0 < k) (hk7 : k < 7) : ∃ gv', f_X11_refuse gv hx (-nI k) = some (-nI k, gv') ∧ CX gv' M hx ow (sNo S k) ∧ Keep gv gv' ow ow := by
  obtain ⟨lt, tx, ro, rf, tk, he, sp, th, ts, tf, rof, rff, ⟨c1, c2, c3, c4, c5, ⟨o1, o2, o3, o4, o5⟩, c6, c7, c8⟩, hW, hM⟩ := h
  have hneg : ¬ (0 : Int32) ≤ -nI k := by
    rw [show (0 : Int32) = -nI 0 from by decide, sb_nle (by decide) (by omega)]
    omega
  have hle : ¬ -nI k ≤ -nI 7 := by
    rw [sb_nle (by omega) (by decide)]
    omega
  have e2 : gfR gv hx [9] 2 = some (some rf) := gfR_of c1 (by decide) rfl
  refine ⟨va_up gv rf (.inr (.inl (7, upd rff k (rff k + 1)))), ?_, ⟨lt, tx, ro, rf, tk, he, sp, th, ts, tf, rof, upd rff k (rff k + 1), ⟨?_, ?_, ?_, ?_, ?_, ⟨o1, o2, o3, o4, o5⟩, c6, c7, ?_⟩, hW.frame hT rfl rfl rfl (fun q q1 q2 => ⟨va_ne (fun e => by subst e; omega), rfl⟩), hM⟩, fun q hq => ⟨va_ne (fun e => by subst e; omega), rfl⟩⟩
  · unfold f_X11_refuse
    simp only [hneg, e2, gal_of c5, hle, if_false, Option.bind_some, Int32.neg_neg, gai_of c5 hk7 (show 7 < 2 ^ 31 by decide), gas_of c5 hk7 (show 7 < 2 ^ 31 by decide)]
  · rw [va_ne (fun e => by rw [e] at o1; omega)]; exact c1
  · rw [va_ne (fun e => by rw [e] at o2; omega)]; exact c2
  · rw [va_ne (fun e => by rw [e] at o3; omega)]; exact c3
  · rw [va_ne (fun e => by rw [e] at o4; omega)]; exact c4
  · rw [va_up_self]
  · intro j hj
    show upd rff k (rff k + 1) j = upd (zF S) k (zF S k + 1) j
    by_cases e : j = k
    · subst e; rw [upd_s, upd_s, c8 j hj]
    · rw [upd_n e, upd_n e, c8 j hj]
/-- what a call sees first: its own object, the town -/
theorem CX.here {gv : Nat → GV} {M hx : Nat} {ow : Nat → Nat} {S : SS} (h : CX gv M hx ow S) : ∃ he th la pa fl pf LA SA sf, gfR gv hx [9] 4 = some (some he) ∧ (∃ fs, gfO gv hx [9] = some (9, fs)) ∧ CT gv he (zT S) la pa fl pf LA SA sf ∧ OWN ow th he la pa LA SA (tn (zT S)) ∧ 1 ≤ th ∧ th ≤ 2 := by
  obtain ⟨lt, tx, ro, rf, tk, he, sp, th, ts, tf, rof, rff, ⟨c1, -⟩, ⟨w1, ⟨la, pa, fl, pf, LA, SA, sf, t1, t2⟩, -⟩, -⟩ := h
  exact ⟨he, th, la, pa, fl, pf, LA, SA, sf, gfR_of c1 (by decide) rfl, ⟨_, gfO_of c1 (by decide)⟩, t1, t2, by omega, by omega⟩
/-- the reference's side -/
def XR (S : SS) (re wa ka la ra li sa wh ce mi st ta ke ro : Nat → Int32) (lm pe mn tn1 hi rn : Int32) : Prop := (∀ k, k < 7 → re k = zF S k) ∧ RT (zT S) wa ka la ra li sa wh ce mi st ∧ (lm = nI (tn (zT S)) ∧ pe = nI (tp (zT S)) ∧ mn = nI (tM (zT S))) ∧ (tn1 = nI (zl S) ∧ ∀ k, k < zl S → ta k = nI (zL S k)) ∧ (hi = (if zI S = true then 1 else 0) ∧ (zI S = true → RT (zU S) ke (fun k => ke (36 + k)) (fun k => ke (42 + k)) (fun k => ke (48 + k)) (fun k => ke (54 + k)) (fun k => ke (60 + k)) (fun k => ke (66 + k)) (fun k => ke (120 + k)) (fun k => ke (174 + k)) (fun k => ke (228 + k)) ∧ ke 232 = nI (tn (zU S)) ∧ ke 233 = nI (tp (zU S)) ∧ ke 234 = nI (tM (zU S)))) ∧ (rn = nI (zr S) ∧ ∀ k, k < zr S → ro k = nI (zR S k))
/-- a refusal on the reference's side -/
theorem xno_ok {re : Nat → Int32} {k : Nat} (hk : k < 7) : f_X12_no re (-nI k) = some (-nI k, upd re k (re k + 1)) := by
  unfold f_X12_no
  rw [Int32.neg_neg, gix_ok hk (by decide), gix_ok hk (by decide), nI_clamp (show k < 2 ^ 31 by omega)]
theorem XR.no {S : SS} {re wa ka la ra li sa wh ce mi st ta ke ro : Nat → Int32} {lm pe mn tn1 hi rn : Int32} (h : XR S re wa ka la ra li sa wh ce mi st ta ke ro lm pe mn tn1 hi rn) (k : Nat) : XR (sNo S k) (upd re k (re k + 1)) wa ka la ra li sa wh ce mi st ta ke ro lm pe mn tn1 hi rn := by
  refine ⟨fun j hj => ?_, h.2⟩
  show upd re k (re k + 1) j = upd (zF S) k (zF S k + 1) j
  by_cases e : j = k
  · subst e; rw [upd_s, upd_s, h.1 j hj]
  · rw [upd_n e, upd_n e, h.1 j hj]
