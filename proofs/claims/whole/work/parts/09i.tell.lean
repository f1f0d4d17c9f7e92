section
variable {gv : Nat → GV} {M hx : Nat} {ow : Nat → Nat} {S : SS} {re wa ka la ra li sa wh ce mi st ta ke ro : Nat → Int32} {hi : Int32} {fa sh qu lb may : Nat → Int32} {q : Int32} {tl1 le1 lt1 : Nat → Int32} {at1 ss1 ik1 cu1 : Int32}
/-! the class's letters told -/
set_option maxRecDepth 100000 in
theorem kd_256 : ∀ x, x < 256 → knB1 x = true → ((if nI x ≤ 0 then some (-9 : Int32) else gsi 5 ((f_J0_indexOf_0f7a4 5 (((nI x).toUInt32 % 65536).toInt32)).bind fun o14 => some o14) : Option (Int32)).bind fun j7 => some j7) = some (nI (kdN x)) := by decide +kernel
section
variable {l n : Nat} {L : Nat → Nat}
theorem LT.digit (h : LT gv l n L) {q : Nat} (hq : dgB (tcN n L q) = true) : f_X6_digitAt gv l (nI q) = some (nI (dgN (tcN n L) q)) := by
  obtain ⟨o, ho⟩ := h.o
  have hd := hq
  unfold dgB at hd
  have hd : 48 ≤ tcN n L q ∧ tcN n L q ≤ 57 := by simpa using hd
  have hqn := tcN_lt (n := n) (L := L) (q := q) (by omega)
  have h96 := h.n96
  unfold f_X6_digitAt
  rw [ho]
  simp only [obs]
  rw [h.at (by omega), if_pos hqn]
  simp only [obs]
  rw [show (48 : Int32) = nI 48 from rfl, pk_sub (by omega)]
  rfl
theorem LT.cell (h : LT gv l n L) {q : Nat} (hq : dgB (tcN n L q) = true) (hq2 : dgB (tcN n L (q + 1)) = true) : f_X6_cellAt gv l (nI q) = some (nI (celN (tcN n L) q)) := by
  obtain ⟨o, ho⟩ := h.o
  unfold f_X6_cellAt
  rw [ho]
  simp only [obs]
  rw [h.digit hq]
  simp only [obs]
  rw [nI_1, h.digit hq2]
  simp only [obs]
  rw [Int32.mul_comm, i10, nI_add]
  unfold celN
  rw [Nat.mul_comm]
theorem LT.kind (h : LT gv l n L) {q : Nat} (hq : knB1 (tcN n L q) = true) : f_X6_kindAt gv l (nI q) = some (nI (kdN (tcN n L q))) := by
  obtain ⟨o, ho⟩ := h.o
  have hqn := tcN_lt (n := n) (L := L) (q := q) (fun e => by rw [e] at hq; exact absurd hq (by decide))
  have h96 := h.n96
  have h256 := h.tc q
  unfold f_X6_kindAt
  rw [ho]
  simp only [obs]
  rw [h.at (by omega), if_pos hqn]
  simp only [obs]
  exact kd_256 _ (by omega) hq
end
theorem kdN_lt (x : Nat) : kdN x < 7 := by
  unfold kdN
  repeat' split
  all_goals omega
section
variable {c : Nat → Nat} {p : Nat}
theorem ok_l (hx : c p = 108) (h : badP c p = none) : knB1 (c (p + 1)) = true ∧ dgB (c (p + 2)) = true ∧ dgB (c (p + 3)) = true ∧ dgB (c (p + 4)) = true := by
  have hf := (badP_none h).2
  rw [hx] at hf
  exact ⟨hf 0 (by decide), hf 1 (by decide), hf 2 (by decide), hf 3 (by decide)⟩
theorem ok_g (hx : c p = 103) (h : badP c p = none) : dgB (c (p + 1)) = true ∧ dgB (c (p + 2)) = true ∧ dgB (c (p + 3)) = true := by
  have hf := (badP_none h).2
  rw [hx] at hf
  exact ⟨hf 0 (by decide), hf 1 (by decide), hf 2 (by decide)⟩
theorem ok_w (hx : c p = 112 ∨ c p = 119) (h : badP c p = none) : dgB (c (p + 1)) = true ∧ dgB (c (p + 2)) = true := by
  have hf := (badP_none h).2
  rcases hx with hx | hx <;> rw [hx] at hf <;> exact ⟨hf 0 (by decide), hf 1 (by decide)⟩
theorem ok_s (hx : c p = 98 ∨ c p = 115) (h : badP c p = none) : dgB (c (p + 1)) = true := by
  have hf := (badP_none h).2
  rcases hx with hx | hx <;> rw [hx] at hf <;> exact hf 0 (by decide)
theorem dg9 {q : Nat} (h : dgB (c q) = true) : dgN c q ≤ 9 := by
  unfold dgB at h
  have : 48 ≤ c q ∧ c q ≤ 57 := by simpa using h
  unfold dgN
  omega
theorem cel99 {q : Nat} (h : dgB (c q) = true) (h2 : dgB (c (q + 1)) = true) : celN c q ≤ 99 := by
  have := dg9 h
  have := dg9 h2
  unfold celN
  omega
end
/-- one statement that was told, on both sides -/
theorem j_stm {a t M l n k p : Nat} {L : Nat → Nat} {T : TS} {le to fa sh qu lb : Nat → Int32} {q : Int32} (hH : TH gv ow t a T) (hT : TOK T) (hR : RT T wa ka la ra li sa wh ce mi st) (hM : ∀ q, M ≤ q → ow q = 0) (hg : LT gv l n L) (hk : k < 48) (hb : badP (tcN n L) p = none) (hle : le k = nI (tcN n L p)) (htd : TD (tcN n L) p to k) : (∃ r fa' sh' qu' q', ¬ 0 ≤ r ∧ f_X6_obey gv M l (some a) (nI p) = some (r, gv, M) ∧ f_X12_comes wa ka la ra li sa wh ce mi st (nI (tn T)) (nI (tp T)) (nI (tM T)) le to fa sh qu q lb (nI k) = some (0, wa, ka, la, ra, li, sa, wh, ce, mi, st, nI (tn T), nI (tp T), nI (tM T), fa', sh', qu', q', lb)) ∨ ∃ r gv' M' ow' T' wa' ka' la' ra' li' sa' wh' ce' mi' st' fa' sh' qu' q' lb', (0 : Int32) ≤ r ∧ f_X6_obey gv M l (some a) (nI p) = some (r, gv', M') ∧ f_X12_comes wa ka la ra li sa wh ce mi st (nI (tn T)) (nI (tp T)) (nI (tM T)) le to fa sh qu q lb (nI k) = some (1, wa', ka', la', ra', li', sa', wh', ce', mi', st', nI (tn T'), nI (tp T'), nI (tM T'), fa', sh', qu', q', lb') ∧ TH gv' ow' t a T' ∧ TOK T' ∧ RT T' wa' ka' la' ra' li' sa' wh' ce' mi' st' ∧ (∀ q, M' ≤ q → ow' q = 0) ∧ Fr gv gv' ow ow' t := by
  have n1 : ¬ (1 : Int32) = 0 := by decide
  have hn : tn T ≤ 6 := hT.2.2.1
  have hp4 : tp T ≤ 4 := hT.2.2.2.1
  have hpn := (good_lt hb).1
  have h96 := hg.n96
  obtain ⟨o, ho⟩ := hg.o
  have hH' := hH
  obtain ⟨la1, pa, fl, pf, LA, SA, sf, hC, hO⟩ := hH'
  obtain ⟨d1, d2, d3, d4⟩ := htd
  have x1 : nI p + 1 = nI (p + 1) := nI_1 p
  have x2 : nI p + 2 = nI (p + 2) := by rw [show (2 : Int32) = nI 2 from rfl, nI_add]
  have x4 : nI p + 4 = nI (p + 4) := by rw [show (4 : Int32) = nI 4 from rfl, nI_add]
  have y1 : nI (3 * k) + 1 = nI (3 * k + 1) := nI_1 (3 * k)
  have g0 : ∀ {α : Type} {z : Option α}, gix (nI (3 * k)) 144 z = z := gix_ok (by omega) (by decide)
  have g1 : ∀ {α : Type} {z : Option α}, gix (nI (3 * k + 1)) 144 z = z := gix_ok (by omega) (by decide)
  have gk : ∀ {α : Type} {z : Option α}, gix (nI k) 48 z = z := gix_ok (by omega) (by decide)
  have c0 : (nI (3 * k)).toNatClampNeg = 3 * k := nI_clamp (by omega)
  have c1 : (nI (3 * k + 1)).toNatClampNeg = 3 * k + 1 := nI_clamp (by omega)
  have ck : (nI k).toNatClampNeg = k := nI_clamp (by omega)
  have hat : f_X6_at gv l (nI p) = some (nI (tcN n L p)) := by rw [hg.at (by omega), if_pos hpn]
  unfold f_X6_obey f_X12_comes
  simp only [ho, obs, hat, i3, y1, g0, g1, gk, c0, c1, ck, hle]
  rcases fmI_l (tcN n L p) with h4 | ⟨-, hx⟩ | ⟨-, hx⟩ | ⟨-, hx⟩ | ⟨-, hx⟩
  · exact absurd h4 (badP_none hb).1
  · -- a lamp
    obtain ⟨b1, b2, b3, b4⟩ := ok_l hx hb
    obtain ⟨e0, e1, e2⟩ := d1 hx
    have v1 := cel99 b2 b3
    have v2 := dg9 b4
    rw [hx]
    rw [if_neg (by decide), if_neg (by decide), if_pos (by decide), if_neg (by decide), if_pos (by decide), x1, x2, x4, hg.kind b1, hg.cell b2 b3, hg.digit b4]
    simp only [obs, hC.o]
    rcases j_lamp (j := 3 * k) hH hT hR hM (kdN_lt _) (show celN (tcN n L) (p + 2) < 1000 by omega) (show dgN (tcN n L) (p + 4) < 1000 by omega) (by omega) e0 e1 e2 with ⟨m, m0, m7, r1, r2⟩ | ⟨gv', ow', r1, r2, r3, r4, r5, r6, r7⟩
    · refine Or.inl ⟨-nI m, fa, sh, qu, q, (ng_ne m m7 m0).2.2, ?_, ?_⟩
      · rw [r1]
        simp only [obs]
      · rw [r2]
        simp only [obs, gzb_0]
    · refine Or.inr ⟨nI (tn T), gv', M + 2, ow', _, _, _, _, _, _, _, _, _, _, _, fa, sh, qu, q, lb, nI_pos' (by omega), ?_, ?_, r3, r4, r5, r6, r7⟩
      · rw [r1]
        simp only [obs]
      · rw [r2]
        simp only [obs, gzb_1]
        rfl
  · -- one goes
    obtain ⟨b1, b2, b3⟩ := ok_g hx hb
    obtain ⟨e0, e1⟩ := d3 hx
    rw [hx]
    rw [if_neg (by decide), if_pos (by decide), if_pos (by decide), x1, x2, hg.digit b1, hg.cell b2 b3, e0, e1]
    simp only [obs, hC.o]
    rcases j_go (fa := fa) (sh := sh) (qu := qu) (q := q) (lb := lb) hC hO hT hR (nI (dgN (tcN n L) (p + 1))) (nI (celN (tcN n L) (p + 2))) with ⟨m, fa', sh', qu', q', m0, m7, r1, r2⟩ | ⟨d, T', gv', fa1, sh1, qu1, qa, sa', wh', ce', mi', st', fa', sh', qu', q', lb', r0, r1, r2, r3, r4, r5, r6, r7, r8, r9⟩
    · refine Or.inl ⟨-nI m, fa', sh', qu', q', (ng_ne m m7 m0).2.2, ?_, ?_⟩
      · rw [r1]
        simp only [obs]
      · rw [r2]
        simp only [obs]
        rw [if_neg (ng_ne m m7 m0).1]
    · refine Or.inr ⟨nI d, gv', M, ow, T', wa, ka, la, ra, li, sa', wh', ce', mi', st', fa', sh', qu', q', lb', nI_pos' (by omega), ?_, ?_, r4, r6, r7, hM, r5.fr⟩
      · rw [r1]
        simp only [obs]
      · rw [r2]
        simp only [obs, if_true]
        rw [r3]
        simp only [obs]
        rw [r8, r9]
  · rcases hx with hx | hx
    · -- a person
      obtain ⟨b1, b2⟩ := ok_w (Or.inl hx) hb
      have e0 := d2 (Or.inl hx)
      rw [hx]
      rw [if_neg (by decide), if_neg (by decide), if_neg (by decide), if_pos (by decide), if_neg (by decide), if_neg (by decide), if_pos (by decide), x1, hg.cell b1 b2, e0]
      simp only [obs, hC.o]
      rcases j_person hC hO hT hR (nI (celN (tcN n L) (p + 1))) with ⟨m, m0, m7, r1, r2⟩ | ⟨d, gv', r0, re, r00, r1, r2, r3, r4, r5, r6⟩
      · refine Or.inl ⟨-nI m, fa, sh, qu, q, (ng_ne m m7 m0).2.2, ?_, ?_⟩
        · rw [r1]
          simp only [obs]
        · rw [r2]
          simp only [obs]
          rw [if_neg (ng_ne m m7 m0).1]
      · rw [re] at r1 r2 ⊢
        refine Or.inr ⟨nI (tp T), gv', M, ow, xP1 T d, wa, ka, la, ra, li, sa, wh, ce, mi, _, fa, sh, qu, q, lb, nI_pos' (by omega), ?_, ?_, r3, r5, r6, hM, r4.fr⟩
        · rw [r1]
          simp only [obs]
        · rw [r2]
          simp only [obs, if_true, gix_ok r00 (show 4 < 2 ^ 31 by decide), nI_clamp (show tp T < 2 ^ 31 by omega), nI_1]
          rfl
    · -- a wall
      obtain ⟨b1, b2⟩ := ok_w (Or.inr hx) hb
      have e0 := d2 (Or.inr hx)
      rw [hx]
      rw [if_neg (by decide), if_neg (by decide), if_neg (by decide), if_neg (by decide), if_neg (by decide), if_pos (by decide), if_neg (by decide), if_neg (by decide), if_neg (by decide), if_neg (by decide), if_pos (by decide), x1, hg.cell b1 b2, e0]
      simp only [obs, hC.o]
      rcases j_wall hC hO hT hR (nI (celN (tcN n L) (p + 1))) with ⟨m, m0, m7, r1, r2⟩ | ⟨d, gv', r0, re, r1, r2, r3, r4, r5, r6⟩
      · refine Or.inl ⟨-nI m, fa, sh, qu, q, (ng_ne m m7 m0).2.2, ?_, ?_⟩
        · rw [r1]
          simp only [obs]
        · rw [r2]
          simp only [obs]
          rw [if_neg (ng_ne m m7 m0).1]
      · rw [re] at r1 r2 ⊢
        refine Or.inr ⟨if tW T d = true then 0 else 1, gv', M, ow, xW1 T d, _, ka, la, ra, li, sa, wh, ce, mi, st, fa, sh, qu, q, lb, (by cases tW T d <;> decide), ?_, ?_, r3, r5, r6, hM, r4.fr⟩
        · rw [r1]
          simp only [obs]
        · rw [r2]
          simp only [obs, if_true, gix_ok r0 (show 36 < 2 ^ 31 by decide), nI_clamp (show d < 2 ^ 31 by omega)]
          rfl
  · rcases hx with hx | hx
    · -- it breaks
      have b1 := ok_s (Or.inl hx) hb
      have e0 := d4 (Or.inl hx)
      have v9 := dg9 b1
      rw [hx]
      rw [if_pos (by decide), if_neg (by decide), if_neg (by decide), if_neg (by decide), if_neg (by decide), if_neg (by decide), x1, hg.digit b1, e0]
      simp only [obs, hC.o]
      obtain ⟨d, hd⟩ : ∃ d, d = dgN (tcN n L) (p + 1) := ⟨_, rfl⟩
      rw [← hd] at v9 ⊢
      by_cases hdn : d < tn T
      · have hlp := hC.lp hdn
        obtain ⟨gA, s1, s2, s3⟩ := hlp.setS 0
        obtain ⟨gB, u1, u2, u3⟩ := s2.setL false
        have s1 : gpu gv (LA d) gLC 3 (.int 0) = some gA := s1
        have u1 : gpu gA (LA d) gLC 2 (.int 0) = some gB := u1
        have hfr : ∀ z, z ≠ LA d → z ≠ SA d → gB z = gv z := fun z z1 _ => (u3 z z1).trans (s3 z z1)
        have hCT := hC.set (T' := xB1 T d) hO hdn hfr (sf' := sf d) (by
          show Lp gB (LA d) (SA d) (tK T d) (tC T d) (tR T d) (if d = d then false else tL T d) (if d = d then 0 else tS T d) (sf d)
          rw [if_pos rfl, if_pos rfl]
          exact u2) (fun j hj => by
          have hj : j < (if d = d then 0 else tS T d) := hj
          rw [if_pos rfl] at hj
          omega) ⟨rfl, rfl, rfl, rfl, rfl⟩ (fun m hm => ⟨rfl, rfl, rfl, if_neg hm, if_neg hm, rfl, rfl, rfl⟩)
        refine Or.inr ⟨0, gB, M, ow, xB1 T d, wa, ka, la, ra, _, _, wh, ce, mi, st, fa, sh, qu, q, lb, by decide, ?_, ?_, ⟨_, _, _, _, _, _, _, hCT, hO⟩, hT.xB1, hR.xB1, hM, (hO.off hn hdn hfr).fr⟩
        · rw [hC.lampAt hT hdn]
          simp only [obs]
          unfold f_X6_breakLamp fv_X5_breakDown f_X5_breakDown
          simp only [hlp.fO, obs, s1, u1]
        · rw [xil_ok hdn (by omega)]
          simp only [obs, n1, if_false, gix_ok (show d < 6 by omega) (show 6 < 2 ^ 31 by decide), nI_clamp (show d < 2 ^ 31 by omega)]
          rfl
      · have hv : nI d < 0 ∨ nI (tn T) ≤ nI d := Or.inr (nI_le (by omega) (by omega))
        refine Or.inl ⟨-1, fa, sh, qu, q, by decide, ?_, ?_⟩
        · rw [hC.lampNo hv]
          rfl
        · rw [xil_no hv]
          simp only [obs, if_true]
    · -- lit or no more
      have b1 := ok_s (Or.inr hx) hb
      have e0 := d4 (Or.inr hx)
      have v9 := dg9 b1
      rw [hx]
      rw [if_neg (by decide), if_neg (by decide), if_neg (by decide), if_neg (by decide), if_pos (by decide), if_neg (by decide), if_neg (by decide), if_neg (by decide), if_pos (by decide), x1, hg.digit b1, e0]
      simp only [obs, hC.o]
      obtain ⟨d, hd⟩ : ∃ d, d = dgN (tcN n L) (p + 1) := ⟨_, rfl⟩
      rw [← hd] at v9 ⊢
      by_cases hdn : d < tn T
      · have hlp := hC.lp hdn
        have hli := (hR.2.2 d hdn).2.2.2.1
        obtain ⟨gA, sf1, u1, u2, u3, u4⟩ := hC.setL (b := !tL T d) hO hn hdn
        have yes : f_X11_yes (if (!tL T d) = true then 1 else 0) = some (if (!tL T d) = true then 1 else 0) := by
          unfold f_X11_yes
          cases tL T d <;> rfl
        have eq : (if (if tL T d = true then (1 : Int32) else 0) = 0 then (1 : Int32) else 0) = if (!tL T d) = true then 1 else 0 := by cases tL T d <;> rfl
        refine Or.inr ⟨if (!tL T d) = true then 1 else 0, gA, M, ow, xL1 T d (!tL T d), wa, ka, la, ra, upd li d (1 - li d), sa, wh, ce, mi, st, fa, sh, qu, q, lb, (by cases tL T d <;> decide), ?_, ?_, ⟨_, _, _, _, _, _, _, u2, hO⟩, hT.xL1, hR.xL1 (by rw [hli]; cases tL T d <;> rfl), hM, u3.fr⟩
        · rw [hC.lampAt hT hdn]
          simp only [obs]
          unfold f_X6_turnLamp
          simp only [hlp.f2, obs]
          rw [gzb_if, eq, u1]
          simp only [obs, u4]
          rw [yes]
          simp only [obs]
        · rw [xil_ok hdn (by omega)]
          simp only [obs, n1, if_false, gix_ok (show d < 6 by omega) (show 6 < 2 ^ 31 by decide), nI_clamp (show d < 2 ^ 31 by omega)]
          rfl
      · have hv : nI d < 0 ∨ nI (tn T) ≤ nI d := Or.inr (nI_le (by omega) (by omega))
        refine Or.inl ⟨-1, fa, sh, qu, q, by decide, ?_, ?_⟩
        · rw [hC.lampNo hv]
          rfl
        · rw [xil_no hv]
          simp only [obs, if_true]
end
