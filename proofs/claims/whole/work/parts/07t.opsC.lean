section
variable {gv : Nat → GV} {M hx : Nat} {ow : Nat → Nat} {S : SS} {re wa ka la ra li sa wh ce mi st ta ke ro : Nat → Int32} {hi : Int32} {fa sh qu lb may : Nat → Int32} {q : Int32} {tl1 le1 lt1 : Nat → Int32} {at1 ss1 ik1 cu1 : Int32}
/-! fewest -/
def pc6 (s : Nat) : Nat := cnt s.testBit 6
set_option maxRecDepth 100000 in
theorem pc_x : ∀ s, s < 64 → f_X12_bits (nI s) = some (nI (pc6 s)) := by decide +kernel
theorem pc_c : ∀ s, s < 64 → f_J6_bitCount_0f7a4 (nI s) = some (nI (pc6 s)) := by decide +kernel
theorem pc6_le (s : Nat) : pc6 s ≤ 6 := cnt_le _ 6
def oI (o : Option Nat) : Int32 := match o with
  | some j => nI j
  | none => -9
def fwL (o : Option Nat) (k : Nat) : Bool := match o with
  | none => true
  | some j => decide (pc6 k < pc6 j)
def fwO (w : Nat → Bool) : Nat → Option Nat
  | 0 => none
  | k + 1 => if (fwL (fwO w k) k && w k) = true then some k else fwO w k
theorem fwO_lt {w : Nat → Bool} : ∀ {k j : Nat}, fwO w k = some j → j < k
  | 0, j, h => by cases h
  | k + 1, j, h => by
    unfold fwO at h
    by_cases c : (fwL (fwO w k) k && w k) = true
    · rw [if_pos c] at h
      cases h
      omega
    · rw [if_neg c] at h
      have := fwO_lt h
      omega
theorem fw_c {o : Option Nat} {k : Nat} (hk : k < 64) (ho : ∀ j, o = some j → j < 64) : (if oI o < 0 then some 1 else (f_J6_bitCount_0f7a4 (nI k)).bind fun o73 => (f_J6_bitCount_0f7a4 (oI o)).bind fun o77 => if o77 ≤ o73 then some 0 else some 1 : Option Int32) = some (if fwL o k = true then 1 else 0) := by
  cases o with
  | none => rfl
  | some j =>
    have hj := ho j rfl
    have p1 := pc6_le k
    have p2 := pc6_le j
    show (if nI j < 0 then some 1 else (f_J6_bitCount_0f7a4 (nI k)).bind fun o73 => (f_J6_bitCount_0f7a4 (nI j)).bind fun o77 => if o77 ≤ o73 then some 0 else some 1 : Option Int32) = some (if decide (pc6 k < pc6 j) = true then 1 else 0)
    rw [if_neg (nI_pos (by omega)), pc_c k hk, pc_c j hj]
    simp only [obs]
    by_cases c : pc6 k < pc6 j
    · rw [if_neg (by rw [nI_leI (by omega) (by omega)]; omega)]
      simp [c]
    · rw [if_pos (nI_le (by omega) (by omega))]
      simp [c]
theorem fw_x {o : Option Nat} {k : Nat} (hk : k < 64) (ho : ∀ j, o = some j → j < 64) {b : Bool} {La : Option Int32} (hL : La = some (if b = true then 1 else 0)) : (if oI o < 0 then La.bind fun o71 => if o71 = 0 then some (oI o) else some (nI k) else (f_X12_bits (nI k)).bind fun o59 => (f_X12_bits (oI o)).bind fun o63 => if o63 ≤ o59 then some (oI o) else La.bind fun o71 => if o71 = 0 then some (oI o) else some (nI k) : Option Int32) = some (oI (if (fwL o k && b) = true then some k else o)) := by
  have hb : (La.bind fun o71 => if o71 = 0 then some (oI o) else some (nI k) : Option Int32) = some (if b = true then nI k else oI o) := by
    rw [hL]
    simp only [obs]
    cases b with
    | true => rw [if_neg (show ¬ (if true = true then (1 : Int32) else 0) = 0 by decide), if_pos rfl]
    | false => rw [if_pos (show (if false = true then (1 : Int32) else 0) = 0 by decide), if_neg (by decide)]
  rw [hb]
  cases o with
  | none =>
    rw [if_pos (show oI none < 0 by decide)]
    cases b <;> rfl
  | some j =>
    have hj := ho j rfl
    have p1 := pc6_le k
    have p2 := pc6_le j
    have e1 : oI (some j) = nI j := rfl
    have e2 : fwL (some j) k = decide (pc6 k < pc6 j) := rfl
    rw [e1, e2, if_neg (nI_pos (by omega)), pc_x k hk, pc_x j hj]
    simp only [obs]
    by_cases c : pc6 k < pc6 j
    · rw [if_neg (by rw [nI_leI (by omega) (by omega)]; omega)]
      cases b <;> simp [c, oI]
    · rw [if_pos (nI_le (by omega) (by omega))]
      simp [c, oI]
def fwB (S : SS) (s : Nat) : Bool := !anyB (fun k => !gS (zT S) s (zR S k)) (zr S)
theorem xla_ok (hT : SOK S) (hro : ∀ k, k < zr S → ro k = nI (zR S k)) (hlb : LitRow (zT S) lb) (h36 : ∀ k, k < zr S → zR S k < 36) (s : Nat) : f_X12_lightsAll lb ro (nI (zr S)) (nI s) = some (if fwB S s = true then 1 else 0) := by
  have hr12 : zr S ≤ 12 := hT.2.2.2.2.1
  have hn : tn (zT S) ≤ 6 := hT.1.2.2.1
  unfold f_X12_lightsAll
  have hg := gfirst (fun n k => L_X12_lightsAll_2 (fun x2_26 => some 0) (fun x2_34 => some 1) lb ro (nI (zr S)) (nI s) n (nI k)) (fun _ => some (0 : Int32)) (some 1) (zr S) (fun k => !gS (zT S) s (zR S k)) (fun n => by
    show L_X12_lightsAll_2 _ _ lb ro _ _ (n + 1) (nI (zr S)) = _
    rw [L_X12_lightsAll_2.eq_2, if_pos (nI_le (Nat.le_refl _) (by omega))]) (fun n k hk => by
    have h3 := h36 k hk
    have hlt : bm (fun l => tG (zT S) l (zR S k)) (tn (zT S)) &&& s < 2 ^ 31 := Nat.lt_of_le_of_lt Nat.and_le_left (bm_i (by omega))
    have hgs : gS (zT S) s (zR S k) = !decide (bm (fun l => tG (zT S) l (zR S k)) (tn (zT S)) &&& s = 0) := anyB_and
    show L_X12_lightsAll_2 _ _ lb ro _ _ (n + 1) (nI k) = _
    rw [L_X12_lightsAll_2.eq_2, if_neg (by rw [nI_leI (by omega) (by omega)]; omega)]
    simp only [gix_ok (show k < 12 by omega) (show 12 < 2 ^ 31 by decide), nI_clamp (show k < 2 ^ 31 by omega), hro k hk, gix_ok h3 (show 36 < 2 ^ 31 by decide), nI_clamp (show zR S k < 2 ^ 31 by omega), hlb _ h3]
    rw [nx_and, hgs, nI_1]
    by_cases e : bm (fun l => tG (zT S) l (zR S k)) (tn (zT S)) &&& s = 0
    · rw [if_pos (by rw [e]; rfl)]
      simp [e]
    · rw [if_neg (by rw [show (0 : Int32) = nI 0 from rfl, nI_eq hlt (by decide)]; exact e)]
      simp [e]) gF 0 (by unfold gF; omega) (Nat.zero_le _) (fun j hj => by omega)
  refine hg.trans ?_
  unfold fwB
  cases hq : fst1 (fun k => !gS (zT S) s (zR S k)) (zr S) with
  | some i =>
    have := (anyB_iff (q := fun k => !gS (zT S) s (zR S k)) (n := zr S)).mpr ⟨i, (fst1_some hq).1, (fst1_some hq).2.1⟩
    rw [this]
    rfl
  | none =>
    have hno : anyB (fun k => !gS (zT S) s (zR S k)) (zr S) = false := by
      cases hb : anyB (fun k => !gS (zT S) s (zR S k)) (zr S) with
      | false => rfl
      | true =>
        obtain ⟨k, k1, k2⟩ := anyB_iff.mp hb
        exact absurd hq (fst1_ne k1 k2)
    rw [hno]
    rfl
/-- the cells wanted, and whether a set lights them -/
def fwW (S : SS) (n c : Nat) : Bool := anyB (fun k => decide (c = zR S k)) n
theorem fw_cmp (S : SS) (h36 : ∀ k, k < zr S → zR S k < 36) (s : Nat) : lg_cmp (lN (bm (fun c => fwW S (zr S) c && !gS (zT S) s c) 36)) 0 = 0 ↔ fwB S s = true := by
  rw [lg_cmp_0, lN_0_iff (Nat.lt_trans (bm_lt _ 36) (by decide)), bm_zero]
  unfold fwB fwW
  constructor
  · intro g
    cases hb : anyB (fun k => !gS (zT S) s (zR S k)) (zr S) with
    | false => rfl
    | true =>
      obtain ⟨k, k1, k2⟩ := anyB_iff.mp hb
      have := g _ (h36 k k1)
      rw [anyB_iff.mpr ⟨k, k1, by simp⟩, k2] at this
      cases this
  · intro g c hc
    cases hb : anyB (fun k => decide (c = zR S k)) (zr S) with
    | false => rfl
    | true =>
      obtain ⟨k, k1, k2⟩ := anyB_iff.mp hb
      have ec : c = zR S k := by simpa using k2
      cases hg : gS (zT S) s c with
      | true => rfl
      | false =>
        have := (anyB_iff (q := fun k => !gS (zT S) s (zR S k)) (n := zr S)).mpr ⟨k, k1, by rw [← ec, hg]; rfl⟩
        rw [this] at g
        cases g
theorem q_fewest (hT : SOK S) (h : CX gv M hx ow S) (hX : XR S re wa ka la ra li sa wh ce mi st ta ke ro (nI (tn (zT S))) (nI (tp (zT S))) (nI (tM (zT S))) (nI (zl S)) hi (nI (zr S))) : ∃ r S' re' fa' sh' qu' q' lb', CA gv M hx ow (f_X11_fewest gv hx) r S' ∧ f_X12_fewest re wa ka la ra st (nI (tn (zT S))) (nI (tp (zT S))) fa sh qu q lb ro (nI (zr S)) = some (r, re', fa', sh', qu', q', lb') ∧ XR S' re' wa ka la ra li sa wh ce mi st ta ke ro (nI (tn (zT S))) (nI (tp (zT S))) (nI (tM (zT S))) (nI (zl S)) hi (nI (zr S)) ∧ SOK S' := by
  obtain ⟨he, th, la1, pa, fl, pf, LA, SA, sf, e4, ⟨fs, hO⟩, hC, -⟩ := id h.here
  have n1 : ¬ (1 : Int32) = 0 := by decide
  have hn : tn (zT S) ≤ 6 := hT.1.2.2.1
  have hp : tp (zT S) ≤ 4 := hT.1.2.2.2.1
  unfold f_X11_fewest f_X12_fewest
  have hr12 : zr S ≤ 12 := hT.2.2.2.2.1
  have hro := hX.2.2.2.2.2.2
  by_cases hall : ∀ k, k < zr S → zR S k < 36
  · obtain ⟨fa1, sha, qu1, q1, lb1, x1, x2⟩ := xfindLit_ok hT.1 hX.2.1 (fa := fa) (sh := sh) (qu := qu) (q := q) (lb := lb)
    have hp6 : 2 ^ tn (zT S) ≤ 64 := Nat.pow_le_pow_right (by decide) hn
    refine ⟨oI (fwO (fwB S) (2 ^ tn (zT S))), S, re, fa1, sha, qu1, q1, lb1, h.same ?_, ?_, hX, hT⟩
    · have first : ∀ (K1 : Unit → Option (Int32 × (Nat → GV))) (K2 : Int64 → Option (Int32 × (Nat → GV))), L_X11_fewest_4 K1 K2 gv hx gF 0 0 = K2 (lN (bm (fwW S (zr S)) 36)) := by
        intro K1 K2
        have e0 : (0 : Int64) = lN (bm (fwW S 0) 36) := lb_none
        rw [e0]
        refine gfold (σ := Int64) (ρ := Option (Int32 × (Nat → GV))) (fun n k x => L_X11_fewest_4 K1 K2 gv hx n x (nI k)) K2 (zr S) (fun k => lN (bm (fwW S k) 36)) ?_ ?_ gF 0 (by unfold gF; omega) (Nat.zero_le _)
        · intro n
          show L_X11_fewest_4 K1 K2 gv hx (n + 1) _ (nI (zr S)) = _
          rw [L_X11_fewest_4.eq_2, h.inRow]
          simp only [obs]
          rw [if_pos (nI_le (Nat.le_refl _) (by omega))]
        · intro n k hk
          have h3 := hall k hk
          show L_X11_fewest_4 K1 K2 gv hx (n + 1) (lN (bm (fwW S k) 36)) (nI k) = L_X11_fewest_4 K1 K2 gv hx n (lN (bm (fwW S (k + 1)) 36)) (nI (k + 1))
          rw [L_X11_fewest_4.eq_2, h.inRow]
          simp only [obs]
          rw [if_neg (by rw [nI_leI (by omega) (by omega)]; omega), hO]
          simp only [obs, h.rowAt hT hk, cic_ok h3, n1, if_false, only_b h3]
          rw [lb_or, nI_1]
          rfl
      rw [first]
      have main : ∀ (K : Int32 → Option (Int32 × (Nat → GV))), L_X11_fewest_53 K gv hx (lN (bm (fwW S (zr S)) 36)) gF (-9) 0 = K (oI (fwO (fwB S) (2 ^ tn (zT S)))) := by
        intro K
        refine gfold (σ := Int32) (ρ := Option (Int32 × (Nat → GV))) (fun n k x => L_X11_fewest_53 K gv hx (lN (bm (fwW S (zr S)) 36)) n x (nI k)) K (2 ^ tn (zT S)) (fun k => oI (fwO (fwB S) k)) ?_ ?_ gF 0 (by unfold gF; omega) (Nat.zero_le _)
        · intro n
          show L_X11_fewest_53 K gv hx _ (n + 1) _ (nI (2 ^ tn (zT S))) = _
          rw [L_X11_fewest_53.eq_2, e4]
          simp only [obs, hC.f3]
          rw [sh1 (by omega), if_pos (nI_le (Nat.le_refl _) (by omega))]
        · intro n k hk
          show L_X11_fewest_53 K gv hx _ (n + 1) (oI (fwO (fwB S) k)) (nI k) = L_X11_fewest_53 K gv hx _ n (oI (fwO (fwB S) (k + 1))) (nI (k + 1))
          rw [L_X11_fewest_53.eq_2, e4]
          simp only [obs, hC.f3]
          rw [sh1 (by omega), if_neg (by rw [nI_leI (by omega) (by omega)]; omega), fw_c (by omega) (fun j hj => by have := fwO_lt hj; omega), nI_1]
          simp only [obs, hC.o]
          rw [hC.glowOf hT.1 (show k < 2 ^ 31 by omega)]
          simp only [obs]
          rw [lb_andN]
          have hsu : fwO (fwB S) (k + 1) = if (fwL (fwO (fwB S) k) k && fwB S k) = true then some k else fwO (fwB S) k := rfl
          rw [hsu]
          have hcm := fw_cmp S hall k
          cases hl : fwL (fwO (fwB S) k) k with
          | false =>
            rw [if_pos (show (if false = true then (1 : Int32) else 0) = 0 by decide), if_neg (by simp)]
            rfl
          | true =>
            rw [if_neg (show ¬ (if true = true then (1 : Int32) else 0) = 0 by decide)]
            cases hw : fwB S k with
            | true =>
              rw [if_pos (hcm.mpr hw), if_pos (by rfl)]
              rfl
            | false =>
              rw [if_neg (fun e => by rw [hcm.mp e] at hw; cases hw), if_neg (by simp)]
              rfl
      exact main _
    · have first : ∀ (K1 K2 : Unit → Option (Int32 × (Nat → Int32) × (Nat → Int32) × (Nat → Int32) × (Nat → Int32) × Int32 × (Nat → Int32))), L_X12_fewest_2 K1 K2 ro (nI (zr S)) gF 0 = K2 () := by
        intro K1 K2
        refine gfold (σ := Unit) (ρ := Option (Int32 × (Nat → Int32) × (Nat → Int32) × (Nat → Int32) × (Nat → Int32) × Int32 × (Nat → Int32))) (fun n k x => L_X12_fewest_2 K1 K2 ro (nI (zr S)) n (nI k)) K2 (zr S) (fun k => ()) ?_ ?_ gF 0 (by unfold gF; omega) (Nat.zero_le _)
        · intro n
          show L_X12_fewest_2 K1 K2 ro _ (n + 1) (nI (zr S)) = _
          rw [L_X12_fewest_2.eq_2, if_pos (nI_le (Nat.le_refl _) (by omega))]
        · intro n k hk
          have h3 := hall k hk
          show L_X12_fewest_2 K1 K2 ro _ (n + 1) (nI k) = L_X12_fewest_2 K1 K2 ro _ n (nI (k + 1))
          rw [L_X12_fewest_2.eq_2, if_neg (by rw [nI_leI (by omega) (by omega)]; omega)]
          simp only [gix_ok (show k < 12 by omega) (show 12 < 2 ^ 31 by decide), nI_clamp (show k < 2 ^ 31 by omega), hro k hk]
          rw [xic_ok h3, nI_1]
          simp only [obs, n1, if_false]
      rw [first, x1]
      simp only [obs]
      have main : ∀ (K : Int32 → Option (Int32 × (Nat → Int32) × (Nat → Int32) × (Nat → Int32) × (Nat → Int32) × Int32 × (Nat → Int32))), L_X12_fewest_44 K (nI (tn (zT S))) lb1 ro (nI (zr S)) gF (-9) 0 = K (oI (fwO (fwB S) (2 ^ tn (zT S)))) := by
        intro K
        refine gfold (σ := Int32) (ρ := Option (Int32 × (Nat → Int32) × (Nat → Int32) × (Nat → Int32) × (Nat → Int32) × Int32 × (Nat → Int32))) (fun n k x => L_X12_fewest_44 K (nI (tn (zT S))) lb1 ro (nI (zr S)) n x (nI k)) K (2 ^ tn (zT S)) (fun k => oI (fwO (fwB S) k)) ?_ ?_ gF 0 (by unfold gF; omega) (Nat.zero_le _)
        · intro n
          show L_X12_fewest_44 K _ lb1 ro _ (n + 1) _ (nI (2 ^ tn (zT S))) = _
          rw [L_X12_fewest_44.eq_2, sh1 (by omega), if_pos (nI_le (Nat.le_refl _) (by omega))]
        · intro n k hk
          show L_X12_fewest_44 K _ lb1 ro _ (n + 1) (oI (fwO (fwB S) k)) (nI k) = L_X12_fewest_44 K _ lb1 ro _ n (oI (fwO (fwB S) (k + 1))) (nI (k + 1))
          have hsu : fwO (fwB S) (k + 1) = if (fwL (fwO (fwB S) k) k && fwB S k) = true then some k else fwO (fwB S) k := rfl
          rw [L_X12_fewest_44.eq_2, sh1 (by omega), if_neg (by rw [nI_leI (by omega) (by omega)]; omega), fw_x (by omega) (fun j hj => by have := fwO_lt hj; omega) (xla_ok hT hro x2 hall k), nI_1, hsu]
          rfl
      exact main _
  · have hex : ∃ k, k < zr S ∧ ¬ zR S k < 36 ∧ ∀ j, j < k → zR S j < 36 := by
      obtain ⟨i, hi2⟩ : ∃ i, fst1 (fun k => !decide (zR S k < 36)) (zr S) = some i := by
        cases hq : fst1 (fun k => !decide (zR S k < 36)) (zr S) with
        | some i => exact ⟨i, rfl⟩
        | none =>
          refine absurd (fun k hk => ?_) hall
          rcases Nat.lt_or_ge (zR S k) 36 with g | g
          · exact g
          · exact absurd hq (fst1_ne hk (by simp; omega))
      obtain ⟨a1, a2, a3⟩ := fst1_some hi2
      exact ⟨i, a1, by simpa using a2, fun j hj => by simpa using a3 j hj⟩
    obtain ⟨i, i1, i2, i3⟩ := hex
    have h100 := hT.2.2.2.2.2 i i1
    have hb : nI (zR S i) < 0 ∨ nI 36 ≤ nI (zR S i) := Or.inr (nI_le (by omega) (by omega))
    refine ⟨-3, sNo S 3, upd re 3 (re 3 + 1), fa, sh, qu, q, lb, ?_, ?_, hX.no 3, hT.no 3⟩
    · have first : ∀ n k x (K1 : Unit → Option (Int32 × (Nat → GV))) (K2 : Int64 → Option (Int32 × (Nat → GV))), i - k < n → k ≤ i → L_X11_fewest_4 K1 K2 gv hx n x (nI k) = K1 () := by
        intro n
        induction n with
        | zero => intro k x K1 K2 g; omega
        | succ n ih =>
          intro k x K1 K2 g hk
          rw [L_X11_fewest_4.eq_2, h.inRow]
          simp only [obs]
          rw [if_neg (by rw [nI_leI (by omega) (by omega)]; omega), hO]
          simp only [obs, h.rowAt hT (show k < zr S by omega)]
          by_cases e : k = i
          · subst e
            rw [cic_no hb]
            simp only [obs, if_true]
          · have h3 := i3 k (by omega)
            rw [cic_ok h3, only_b h3]
            simp only [obs, n1, if_false]
            rw [nI_1]
            exact ih (k + 1) _ K1 K2 (by omega) (by omega)
      rw [show (0 : Int32) = nI 0 from rfl, first gF 0 _ _ _ (by unfold gF; omega) (Nat.zero_le _)]
      exact h.no hT (by decide) (by decide) lm3
    · have first : ∀ n k (K1 K2 : Unit → Option (Int32 × (Nat → Int32) × (Nat → Int32) × (Nat → Int32) × (Nat → Int32) × Int32 × (Nat → Int32))), i - k < n → k ≤ i → L_X12_fewest_2 K1 K2 ro (nI (zr S)) n (nI k) = K1 () := by
        intro n
        induction n with
        | zero => intro k K1 K2 g; omega
        | succ n ih =>
          intro k K1 K2 g hk
          rw [L_X12_fewest_2.eq_2, if_neg (by rw [nI_leI (by omega) (by omega)]; omega)]
          simp only [gix_ok (show k < 12 by omega) (show 12 < 2 ^ 31 by decide), nI_clamp (show k < 2 ^ 31 by omega), hro k (show k < zr S by omega)]
          by_cases e : k = i
          · subst e
            rw [xic_no hb]
            simp only [obs, if_true]
          · have h3 := i3 k (by omega)
            rw [xic_ok h3]
            simp only [obs, n1, if_false]
            rw [nI_1]
            exact ih (k + 1) K1 K2 (by omega) (by omega)
      rw [show (0 : Int32) = nI 0 from rfl, first gF 0 _ _ (by unfold gF; omega) (Nat.zero_le _), lm3, xno_ok (by decide)]
      rfl
end
