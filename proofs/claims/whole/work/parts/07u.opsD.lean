section
variable {gv : Nat → GV} {M hx : Nat} {ow : Nat → Nat} {S : SS} {re wa ka la ra li sa wh ce mi st ta ke ro : Nat → Int32} {hi : Int32} {fa sh qu lb may : Nat → Int32} {q : Int32} {tl1 le1 lt1 : Nat → Int32} {at1 ss1 ik1 cu1 : Int32}
/-! lots: the draws, the way, what is counted -/
theorem sumN_cong {p r : Nat → Nat} : ∀ {n : Nat}, (∀ k, k < n → p k = r k) → sumN p n = sumN r n
  | 0, _ => rfl
  | n + 1, e => by
    show sumN p n + p n = sumN r n + r n
    rw [sumN_cong (fun k hk => e k (by omega)), e n (by omega)]
theorem sumN_zero : ∀ n : Nat, sumN (fun _ => 0) n = 0
  | 0 => rfl
  | n + 1 => by
    show sumN (fun _ => 0) n + 0 = 0
    rw [sumN_zero n]
theorem sumN_add (p r : Nat → Nat) : ∀ n : Nat, sumN (fun k => p k + r k) n = sumN p n + sumN r n
  | 0 => rfl
  | n + 1 => by
    show sumN (fun k => p k + r k) n + (p n + r n) = (sumN p n + p n) + (sumN r n + r n)
    rw [sumN_add p r n]
    omega
theorem sumN_swap (a : Nat → Nat → Nat) (m : Nat) : ∀ n : Nat, sumN (fun i => sumN (fun j => a i j) m) n = sumN (fun j => sumN (fun i => a i j) n) m
  | 0 => (sumN_zero m).symm
  | n + 1 => by
    show sumN (fun i => sumN (fun j => a i j) m) n + sumN (fun j => a n j) m = sumN (fun j => sumN (fun i => a i j) n + a n j) m
    rw [sumN_swap a m n, sumN_add]
theorem cnt_sum (p : Nat → Bool) : ∀ n : Nat, cnt p n = sumN (fun k => if p k = true then 1 else 0) n
  | 0 => rfl
  | n + 1 => by
    show cnt p n + (if p n = true then 1 else 0) = sumN (fun k => if p k = true then 1 else 0) n + (if p n = true then 1 else 0)
    rw [cnt_sum p n]
def nxZ (x : Int32) : Int32 := (x * 1664525) + 1013904223
def wyZ (x : Int32) : Int32 := ((x &&& 2147483647) / 256) - ((x &&& 2147483647) / 256) / 4 * 4
def wkZ (x : Int32) : Nat := (wyZ x).toNatClampNeg
theorem wyZ_ok (x : Int32) : wkZ x < 4 ∧ wyZ x = nI (wkZ x) := by
  have main : ∃ w, w < 4 ∧ wyZ x = nI w := by
    unfold wyZ
    obtain ⟨j, hj, e⟩ := pk_andE x (m := 2147483647) 31 (by decide)
    refine ⟨j / 256 % 4, Nat.mod_lt _ (by decide), ?_⟩
    rw [e, show (256 : Int32) = nI 256 from rfl, show (4 : Int32) = nI 4 from rfl, pk_div hj (by decide) (by decide), pk_rem (by omega) (by decide) (by decide)]
  obtain ⟨w, hw, e⟩ := main
  have ew : wkZ x = w := by
    unfold wkZ
    rw [e, nI_clamp (by omega)]
  rw [ew]
  exact ⟨hw, e⟩
def stZ (f : Nat → Bool) (c w : Nat) : Nat := match bsd c w with
  | some d => if f d = true then d else c
  | none => c
theorem stZ_lt {f : Nat → Bool} {c w : Nat} (hc : c < 36) : stZ f c w < 36 := by
  unfold stZ
  cases hb : bsd c w with
  | none => exact hc
  | some d =>
    show (if f d = true then d else c) < 36
    by_cases e : f d = true
    · rw [if_pos e]; exact bsd_lt hc hb
    · rw [if_neg e]; exact hc
def lwS (f : Nat → Bool) (x : Int32) (c : Nat) : Nat → Int32 × Nat
  | 0 => (x, c)
  | m + 1 => (nxZ (lwS f x c m).1, stZ f (lwS f x c m).2 (wkZ (nxZ (lwS f x c m).1)))
theorem lwS_lt {f : Nat → Bool} {x : Int32} {c : Nat} (hc : c < 36) : ∀ m, (lwS f x c m).2 < 36
  | 0 => hc
  | m + 1 => stZ_lt (lwS_lt hc m)
def wkS (f : Nat → Bool) (c : Nat) (y : Int32) : Nat → Int32
  | 0 => y
  | k + 1 => (lwS f (wkS f c y k) c 12).1
def twI (c w : Nat) : Int32 := match bsd c w with
  | some d => nI d
  | none => if w = 0 then nI c - 6 else if w = 3 then nI c + 6 else -9
theorem tw_ok : ∀ c, c < 36 → ∀ w, w < 4 → f_X2_towards (nI c) (nI w) = some (twI c w) := by decide +kernel
theorem tw_no : ∀ c, c < 36 → ∀ w, w < 4 → bsd c w = none → twI c w < 0 ∨ 36 ≤ twI c w := by decide +kernel
theorem cst {f : Nat → Bool} {c : Nat} {x : Int32} (hc : c < 36) : ∃ t o, f_X2_towards (nI c) (wyZ x) = some t ∧ f_X2_has (lN (bm f 36)) t = some o ∧ (if o = 0 then nI c else t) = nI (stZ f c (wkZ x)) := by
  obtain ⟨hw, e⟩ := wyZ_ok x
  rw [e, tw_ok c hc _ hw]
  unfold stZ
  cases hb : bsd c (wkZ x) with
  | none => exact ⟨_, 0, rfl, has_no (tw_no c hc _ hw hb), if_pos rfl⟩
  | some d =>
    have hd := bsd_lt hc hb
    have et : twI c (wkZ x) = nI d := by
      unfold twI
      rw [hb]
    rw [et]
    refine ⟨_, _, rfl, has_b hd, ?_⟩
    show (if (if f d = true then (1 : Int32) else 0) = 0 then nI c else nI d) = nI (if f d = true then d else c)
    by_cases g : f d = true
    · rw [if_pos g, if_pos g, if_neg (by decide)]
    · rw [if_neg g, if_neg g, if_pos rfl]
theorem CX.min23 (h : CX gv M hx ow S) (hT : SOK S) {g : Nat → Bool} {a c : Nat} {x : Int32} (hc : c < 36) {v3 v4 v8 : Int32} {α : Type} {K : (Int32 × Int32) → Option α} : L_X11_minutesIn_23 K gv hx (lN (bm g 36)) v3 v4 v8 gF (nI a) x (nI c) 0 = K (nI (a + cnt (fun i => g (lwS (tF (zT S)) x c (i + 1)).2) 12), (lwS (tF (zT S)) x c 12).1) := by
  obtain ⟨he, th, la1, pa, fl, pf, LA, SA, sf, e4, ⟨fs, hO⟩, hC, -⟩ := id h.here
  refine gfold (σ := Int32 × Int32 × Int32) (ρ := Option α) (fun n k s => L_X11_minutesIn_23 K gv hx (lN (bm g 36)) v3 v4 v8 n s.1 s.2.1 s.2.2 (nI k)) (fun s => K (s.1, s.2.1)) 12 (fun k => (nI (a + cnt (fun i => g (lwS (tF (zT S)) x c (i + 1)).2) k), (lwS (tF (zT S)) x c k).1, nI (lwS (tF (zT S)) x c k).2)) ?_ ?_ gF 0 (by decide) (by decide)
  · intro n
    show L_X11_minutesIn_23 K gv hx _ v3 v4 v8 (n + 1) _ _ _ (nI 12) = _
    rw [L_X11_minutesIn_23.eq_2, if_pos (by decide)]
  · intro n k hk
    have hl := lwS_lt (f := tF (zT S)) (x := x) hc k
    obtain ⟨t, o, t1, t2, t3⟩ := cst (f := tF (zT S)) (x := nxZ (lwS (tF (zT S)) x c k).1) hl
    have hsu : cnt (fun i => g (lwS (tF (zT S)) x c (i + 1)).2) (k + 1) = cnt (fun i => g (lwS (tF (zT S)) x c (i + 1)).2) k + (if g (stZ (tF (zT S)) (lwS (tF (zT S)) x c k).2 (wkZ (nxZ (lwS (tF (zT S)) x c k).1))) = true then 1 else 0) := rfl
    show L_X11_minutesIn_23 K gv hx _ v3 v4 v8 (n + 1) (nI (a + cnt (fun i => g (lwS (tF (zT S)) x c (i + 1)).2) k)) (lwS (tF (zT S)) x c k).1 (nI (lwS (tF (zT S)) x c k).2) (nI k) = L_X11_minutesIn_23 K gv hx _ v3 v4 v8 n (nI (a + cnt (fun i => g (lwS (tF (zT S)) x c (i + 1)).2) (k + 1))) (nxZ (lwS (tF (zT S)) x c k).1) (nI (stZ (tF (zT S)) (lwS (tF (zT S)) x c k).2 (wkZ (nxZ (lwS (tF (zT S)) x c k).1)))) (nI (k + 1))
    rw [L_X11_minutesIn_23.eq_2, if_neg (by rw [show (12 : Int32) = nI 12 from rfl, nI_leI (by decide) (by omega)]; omega), show (((((lwS (tF (zT S)) x c k).1 * 1664525) + 1013904223) &&& 2147483647) / 256) - (((((lwS (tF (zT S)) x c k).1 * 1664525) + 1013904223) &&& 2147483647) / 256) / 4 * 4 = wyZ (nxZ (lwS (tF (zT S)) x c k).1) from rfl, t1, e4]
    simp only [obs, hC.o, hC.free]
    rw [t2]
    simp only [obs]
    rw [t3, has_b (stZ_lt hl), hsu, nI_1, ← Nat.add_assoc a, ← nI_add (a + _), show ((lwS (tF (zT S)) x c k).1 * 1664525) + 1013904223 = nxZ (lwS (tF (zT S)) x c k).1 from rfl]
    simp only [obs]
    unfold f_X11_yes
    simp only [obs]
    cases g (stZ (tF (zT S)) (lwS (tF (zT S)) x c k).2 (wkZ (nxZ (lwS (tF (zT S)) x c k).1))) <;> rfl
def mnN (f : Nat → Bool) (c : Nat) (y : Int32) (g : Nat → Bool) (m : Nat) : Nat := sumN (fun j => cnt (fun i => g (lwS f (wkS f c y j) c (i + 1)).2) 12) m
theorem CX.mins (h : CX gv M hx ow S) (hT : SOK S) {g : Nat → Bool} {c m : Nat} {y : Int32} (hc : c < 36) (hm : m ≤ 20) : f_X11_minutesIn gv hx (lN (bm g 36)) (nI c) (nI m) y = some (nI (mnN (tF (zT S)) c y g m)) := by
  unfold f_X11_minutesIn
  refine gfold (σ := Int32 × Int32) (ρ := Option Int32) (fun n k s => L_X11_minutesIn_10 (fun x10_108 => some x10_108) gv hx (lN (bm g 36)) (nI c) (nI m) n s.1 s.2 (nI k)) (fun s => some s.1) m (fun k => (nI (mnN (tF (zT S)) c y g k), wkS (tF (zT S)) c y k)) ?_ ?_ gF 0 (by unfold gF; omega) (Nat.zero_le _)
  · intro n
    show L_X11_minutesIn_10 _ gv hx _ _ _ (n + 1) _ _ (nI m) = _
    rw [L_X11_minutesIn_10.eq_2, if_pos (nI_le (Nat.le_refl _) (by omega))]
  · intro n k hk
    show L_X11_minutesIn_10 _ gv hx _ _ _ (n + 1) (nI (mnN (tF (zT S)) c y g k)) (wkS (tF (zT S)) c y k) (nI k) = L_X11_minutesIn_10 _ gv hx _ _ _ n (nI (mnN (tF (zT S)) c y g (k + 1))) (wkS (tF (zT S)) c y (k + 1)) (nI (k + 1))
    rw [L_X11_minutesIn_10.eq_2, if_neg (by rw [nI_leI (by omega) (by omega)]; omega), h.min23 hT hc, nI_1]
    rfl
theorem xst {T : TS} (hR : RT T wa ka la ra li sa wh ce mi st) {c : Nat} {x : Int32} (hc : c < 36) : ∃ o, f_X12_beside (nI c) (wyZ x) = some o ∧ (if o < 0 then some (nI c) else gix o 36 (if wa o.toNatClampNeg = 1 then some (nI c) else some o) : Option Int32) = some (nI (stZ (tF T) c (wkZ x))) := by
  obtain ⟨hw, e⟩ := wyZ_ok x
  rw [e, beside_ok c hc _ hw]
  unfold stZ bsI
  cases hb : bsd c (wkZ x) with
  | none => exact ⟨_, rfl, if_pos (by decide)⟩
  | some d =>
    have hd := bsd_lt hc hb
    refine ⟨nI d, rfl, ?_⟩
    show _ = some (nI (if tF T d = true then d else c))
    rw [if_neg (nI_pos (by omega)), gix_ok hd (by decide), nI_clamp (by omega), hR.1 d hd]
    have hF : tF T d = !tW T d := by unfold tF fr; simp [hd]
    rw [hF]
    cases tW T d with
    | true => rw [if_pos (show (if true = true then (1 : Int32) else 0) = 1 by decide), if_neg (by decide)]
    | false =>
      rw [if_neg (show ¬ (if false = true then (1 : Int32) else 0) = 1 by decide)]
      rfl
theorem pc6_bm {p : Nat → Bool} {n : Nat} (hn : n ≤ 6) : pc6 (bm p n) = cnt p n := by
  unfold pc6
  have e6 : cnt (bm p n).testBit 6 = cnt (bm p n).testBit (n + (6 - n)) := by rw [show n + (6 - n) = 6 by omega]
  have z : cnt (fun k => (bm p n).testBit (n + k)) (6 - n) = 0 := by
    rw [cnt_ct, fb_ct_zero]
    intro k _
    rw [bm_tb]
    simp [show ¬ n + k < n by omega]
  rw [e6, cnt_split, z, cnt_bm]
  rfl
/-- the lamps that count -/
def lmB (T : TS) (l : Nat) : Bool := tL T l && !decide (tK T l = 2)
theorem xl46 {T : TS} (hT : TOK T) (hR : RT T wa ka la ra li sa wh ce mi st) {v1 v2 v3 : Int32} {α : Type} {K : Int32 → Option α} : L_X12_lots_46 K ka (nI (tn T)) v1 v2 v3 gF (nI (bm (tL T) (tn T))) 0 = K (nI (bm (lmB T) (tn T))) := by
  have hn : tn T ≤ 6 := hT.2.2.1
  have e0 : bm (tL T) (tn T) = bm (fun l => tL T l && !(decide (l < 0) && decide (tK T l = 2))) (tn T) := bm_cong (fun l _ => by simp)
  have e1 : bm (lmB T) (tn T) = bm (fun l => tL T l && !(decide (l < tn T) && decide (tK T l = 2))) (tn T) := bm_cong (fun l hl => by unfold lmB; simp [hl])
  rw [e0, e1]
  refine gfold (σ := Int32) (ρ := Option α) (fun n k x => L_X12_lots_46 K ka (nI (tn T)) v1 v2 v3 n x (nI k)) K (tn T) (fun k => nI (bm (fun l => tL T l && !(decide (l < k) && decide (tK T l = 2))) (tn T))) ?_ ?_ gF 0 (by unfold gF; omega) (Nat.zero_le _)
  · intro n
    show L_X12_lots_46 K ka _ v1 v2 v3 (n + 1) _ (nI (tn T)) = _
    rw [L_X12_lots_46.eq_2, if_pos (nI_le (Nat.le_refl _) (by omega))]
  · intro n k hk
    have hk7 := (hT.2.2.2.2.2.2 k hk).1
    show L_X12_lots_46 K ka _ v1 v2 v3 (n + 1) (nI (bm (fun l => tL T l && !(decide (l < k) && decide (tK T l = 2))) (tn T))) (nI k) = L_X12_lots_46 K ka _ v1 v2 v3 n (nI (bm (fun l => tL T l && !(decide (l < k + 1) && decide (tK T l = 2))) (tn T))) (nI (k + 1))
    rw [L_X12_lots_46.eq_2, if_neg (by rw [nI_leI (by omega) (by omega)]; omega), gix_ok (show k < 6 by omega) (by decide), nI_clamp (show k < 2 ^ 31 by omega), (hR.2.2 k hk).1, nI_1]
    have hj : (nI (bm (fun l => tL T l && !(decide (l < k) && decide (tK T l = 2))) (tn T)) &&& (if nI (tK T k) = 2 then ((1 : Int32) <<< (nI k &&& 31)) ^^^ (-1 : Int32) else (-1 : Int32))) = nI (bm (fun l => tL T l && !(decide (l < k + 1) && decide (tK T l = 2))) (tn T)) := by
      by_cases e : tK T k = 2
      · rw [if_pos (show nI (tK T k) = 2 by rw [e]; rfl), sh1 (by omega), i_m1, fb_xorI, nx_and]
        congr 1
        refine bm_eq (Nat.lt_of_le_of_lt Nat.and_le_left (bm_lt _ _)) (fun d hd => ?_)
        rw [Nat.testBit_and, bm_tb, Nat.testBit_xor, one_tb, Nat.testBit_two_pow_sub_one]
        by_cases c : d = k
        · rw [c]
          simp [e, show k < 32 by omega]
        · have c2 : (d < k + 1) ↔ (d < k) := by omega
          simp [c, c2, hd, show d < 32 by omega]
      · rw [if_neg (show ¬ nI (tK T k) = 2 by rw [show (2 : Int32) = nI 2 from rfl, nI_eq (by omega) (by decide)]; exact e), i_m1, nx_and, Nat.and_two_pow_sub_one_eq_mod, Nat.mod_eq_of_lt (Nat.lt_trans (bm_i (by omega)) (by decide))]
        congr 1
        refine bm_cong (fun d hd => ?_)
        by_cases c : d = k
        · rw [c]
          simp [e]
        · have c2 : (d < k + 1) ↔ (d < k) := by omega
          simp [c2]
    rw [hj]
/-- what one minute adds -/
def lqN (T : TS) (c : Nat) : Nat := cnt (fun l => tG T l c && lmB T l) (tn T)
theorem xl113 {T : TS} (hT : TOK T) (hR : RT T wa ka la ra li sa wh ce mi st) (hlb : LitRow T lb) {c a : Nat} (hc : c < 36) {x v1 v2 v8 : Int32} {α : Type} {K : (Int32 × Int32) → Option α} : L_X12_lots_113 K wa lb v1 v2 (nI (bm (lmB T) (tn T))) v8 gF x (nI a) (nI c) 0 = K ((lwS (tF T) x c 12).1, nI (a + sumN (fun i => lqN T (lwS (tF T) x c (i + 1)).2) 12)) := by
  have hn : tn T ≤ 6 := hT.2.2.1
  have h64 : 2 ^ tn T ≤ 64 := Nat.pow_le_pow_right (by decide) hn
  refine gfold (σ := Int32 × Int32 × Int32) (ρ := Option α) (fun n k s => L_X12_lots_113 K wa lb v1 v2 (nI (bm (lmB T) (tn T))) v8 n s.1 s.2.1 s.2.2 (nI k)) (fun s => K (s.1, s.2.1)) 12 (fun k => ((lwS (tF T) x c k).1, nI (a + sumN (fun i => lqN T (lwS (tF T) x c (i + 1)).2) k), nI (lwS (tF T) x c k).2)) ?_ ?_ gF 0 (by decide) (by decide)
  · intro n
    show L_X12_lots_113 K wa lb v1 v2 _ v8 (n + 1) _ _ _ (nI 12) = _
    rw [L_X12_lots_113.eq_2, if_pos (by decide)]
  · intro n k hk
    have hl := lwS_lt (f := tF T) (x := x) hc k
    obtain ⟨o, t1, t2⟩ := xst hR (x := nxZ (lwS (tF T) x c k).1) hl
    have hs := stZ_lt (f := tF T) (w := wkZ (nxZ (lwS (tF T) x c k).1)) hl
    have hsu : sumN (fun i => lqN T (lwS (tF T) x c (i + 1)).2) (k + 1) = sumN (fun i => lqN T (lwS (tF T) x c (i + 1)).2) k + lqN T (stZ (tF T) (lwS (tF T) x c k).2 (wkZ (nxZ (lwS (tF T) x c k).1))) := rfl
    show L_X12_lots_113 K wa lb v1 v2 _ v8 (n + 1) (lwS (tF T) x c k).1 (nI (a + sumN (fun i => lqN T (lwS (tF T) x c (i + 1)).2) k)) (nI (lwS (tF T) x c k).2) (nI k) = L_X12_lots_113 K wa lb v1 v2 _ v8 n (nxZ (lwS (tF T) x c k).1) (nI (a + sumN (fun i => lqN T (lwS (tF T) x c (i + 1)).2) (k + 1))) (nI (stZ (tF T) (lwS (tF T) x c k).2 (wkZ (nxZ (lwS (tF T) x c k).1)))) (nI (k + 1))
    rw [L_X12_lots_113.eq_2, if_neg (by rw [show (12 : Int32) = nI 12 from rfl, nI_leI (by decide) (by omega)]; omega), show (((((lwS (tF T) x c k).1 * 1664525) + 1013904223) &&& 2147483647) / 256) - (((((lwS (tF T) x c k).1 * 1664525) + 1013904223) &&& 2147483647) / 256) / 4 * 4 = wyZ (nxZ (lwS (tF T) x c k).1) from rfl, t1]
    simp only [obs]
    rw [t2]
    simp only [obs]
    rw [gix_ok hs (by decide), nI_clamp (by omega), hlb _ hs, nx_and, bm_and, pc_x _ (Nat.lt_of_lt_of_le (bm_lt _ _) h64), pc6_bm hn, hsu, nI_1, ← Nat.add_assoc a, ← nI_add (a + _), show ((lwS (tF T) x c k).1 * 1664525) + 1013904223 = nxZ (lwS (tF T) x c k).1 from rfl]
    simp only [obs]
    rfl
theorem xl96 {T : TS} (hT : TOK T) (hR : RT T wa ka la ra li sa wh ce mi st) (hlb : LitRow T lb) {p m : Nat} (hp : p < tp T) (hm : m ≤ 20) {y : Int32} {α : Type} {K : Int32 → Option α} : L_X12_lots_96 K wa st lb (nI p) (nI m) (nI (bm (lmB T) (tn T))) gF y 0 0 = K (nI (sumN (fun j => sumN (fun i => lqN T (lwS (tF T) (wkS (tF T) (tP T p) y j) (tP T p) (i + 1)).2) 12) m)) := by
  have hp4 : tp T ≤ 4 := hT.2.2.2.1
  have hP := (hT.2.2.2.2.2.1 p hp).1
  refine gfold (σ := Int32 × Int32) (ρ := Option α) (fun n k s => L_X12_lots_96 K wa st lb (nI p) (nI m) (nI (bm (lmB T) (tn T))) n s.1 s.2 (nI k)) (fun s => K s.2) m (fun k => (wkS (tF T) (tP T p) y k, nI (sumN (fun j => sumN (fun i => lqN T (lwS (tF T) (wkS (tF T) (tP T p) y j) (tP T p) (i + 1)).2) 12) k))) ?_ ?_ gF 0 (by unfold gF; omega) (Nat.zero_le _)
  · intro n
    show L_X12_lots_96 K wa st lb _ _ _ (n + 1) _ _ (nI m) = _
    rw [L_X12_lots_96.eq_2, if_pos (nI_le (Nat.le_refl _) (by omega))]
  · intro n k hk
    show L_X12_lots_96 K wa st lb _ _ _ (n + 1) (wkS (tF T) (tP T p) y k) (nI (sumN (fun j => sumN (fun i => lqN T (lwS (tF T) (wkS (tF T) (tP T p) y j) (tP T p) (i + 1)).2) 12) k)) (nI k) = L_X12_lots_96 K wa st lb _ _ _ n (wkS (tF T) (tP T p) y (k + 1)) (nI (sumN (fun j => sumN (fun i => lqN T (lwS (tF T) (wkS (tF T) (tP T p) y j) (tP T p) (i + 1)).2) 12) (k + 1))) (nI (k + 1))
    rw [L_X12_lots_96.eq_2, if_neg (by rw [nI_leI (by omega) (by omega)]; omega), gix_ok (show p < 4 by omega) (by decide), nI_clamp (show p < 2 ^ 31 by omega), hR.2.1 p hp, xl113 hT hR hlb hP, nI_1]
    rfl
/-- lamp by lamp, or minute by minute -/
theorem lots_eq (T : TS) (c m : Nat) (y : Int32) : sumN (fun l => if lmB T l = true then mnN (tF T) c y (tG T l) m else 0) (tn T) = sumN (fun j => sumN (fun i => lqN T (lwS (tF T) (wkS (tF T) c y j) c (i + 1)).2) 12) m := by
  have one : ∀ l, (if lmB T l = true then mnN (tF T) c y (tG T l) m else 0) = sumN (fun j => sumN (fun i => if (tG T l (lwS (tF T) (wkS (tF T) c y j) c (i + 1)).2 && lmB T l) = true then 1 else 0) 12) m := by
    intro l
    cases hl : lmB T l with
    | true =>
      rw [if_pos rfl]
      unfold mnN
      refine sumN_cong (fun j _ => ?_)
      rw [cnt_sum]
      refine sumN_cong (fun i _ => ?_)
      simp
    | false =>
      rw [if_neg (by decide)]
      have z : ∀ j, sumN (fun i => if (tG T l (lwS (tF T) (wkS (tF T) c y j) c (i + 1)).2 && false) = true then 1 else 0) 12 = 0 := fun j => (sumN_cong (fun i _ => by simp)).trans (sumN_zero 12)
      exact ((sumN_cong (fun j _ => z j)).trans (sumN_zero m)).symm
  rw [sumN_cong (fun l _ => one l), sumN_swap (fun l j => sumN (fun i => if (tG T l (lwS (tF T) (wkS (tF T) c y j) c (i + 1)).2 && lmB T l) = true then 1 else 0) 12)]
  refine sumN_cong (fun j _ => ?_)
  rw [sumN_swap (fun l i => if (tG T l (lwS (tF T) (wkS (tF T) c y j) c (i + 1)).2 && lmB T l) = true then 1 else 0)]
  refine sumN_cong (fun i _ => ?_)
  unfold lqN
  rw [cnt_sum]
theorem q_lots (hT : SOK S) (h : CX gv M hx ow S) (hX : XR S re wa ka la ra li sa wh ce mi st ta ke ro (nI (tn (zT S))) (nI (tp (zT S))) (nI (tM (zT S))) (nI (zl S)) hi (nI (zr S))) (v w z : Int32) : ∃ r S' re' fa' sh' qu' q' lb', CA gv M hx ow (f_X11_lots gv hx v w z) r S' ∧ f_X12_lots re wa ka la ra li st (nI (tn (zT S))) (nI (tp (zT S))) fa sh qu q lb v w z = some (r, re', fa', sh', qu', q', lb') ∧ XR S' re' wa ka la ra li sa wh ce mi st ta ke ro (nI (tn (zT S))) (nI (tp (zT S))) (nI (tM (zT S))) (nI (zl S)) hi (nI (zr S)) ∧ SOK S' := by
  obtain ⟨he, th, la1, pa, fl, pf, LA, SA, sf, e4, ⟨fs, hO⟩, hC, -⟩ := id h.here
  have n1 : ¬ (1 : Int32) = 0 := by decide
  have hn : tn (zT S) ≤ 6 := hT.1.2.2.1
  have hp : tp (zT S) ≤ 4 := hT.1.2.2.2.1
  unfold f_X11_lots f_X12_lots
  simp only [e4, hC.o, obs]
  rcases idx v (n := tp (zT S)) (by omega) with hv | ⟨p, hpp, e⟩
  · refine ⟨-1, sNo S 1, upd re 1 (re 1 + 1), fa, sh, qu, q, lb, ?_, ?_, hX.no 1, hT.no 1⟩
    · rw [hC.isP_no hT.1 hv]
      simp only [obs, if_true]
      exact h.no hT (by decide) (by decide) lm1
    · rw [xip_no hv]
      simp only [obs, if_true, z1, if_false]
      rw [lm1, xno_ok (by decide)]
      rfl
  · subst e
    rw [hC.isP_ok hT.1 hpp, xip_ok hpp (by omega)]
    simp only [obs, n1, if_false]
    have hP := (hT.1.2.2.2.2.2.1 p hpp).1
    have key : (¬ (1 : Int32) ≤ w) ∨ ((1 : Int32) ≤ w ∧ ¬ w ≤ 20) ∨ ∃ t, 1 ≤ t ∧ t ≤ 20 ∧ w = nI t := by
      rcases rng w (m := 20) (by decide) with hw | ⟨hw, hw2⟩ | ⟨t, ht, e⟩
      · exact Or.inl (fun g => hw (Int32.le_trans (by decide) g))
      · refine Or.inr (Or.inl ⟨?_, hw2⟩)
        exact Int32.le_of_lt (Int32.lt_trans (by decide : (1 : Int32) < 20) (Int32.not_le.mp hw2))
      · rcases Nat.eq_zero_or_pos t with g | g
        · exact Or.inl (by rw [e, g]; decide)
        · exact Or.inr (Or.inr ⟨t, g, ht, e⟩)
    rcases key with hw | ⟨hw, hw2⟩ | ⟨m, m1, m2, e⟩
    · refine ⟨-4, sNo S 4, upd re 4 (re 4 + 1), fa, sh, qu, q, lb, ?_, ?_, hX.no 4, hT.no 4⟩
      · rw [show f_X11_outside w 1 20 = some (-4) from by unfold f_X11_outside; rw [if_neg hw]]
        simp only [obs, g4, if_false]
        exact h.no hT (by decide) (by decide) lm4
      · rw [show f_X12_bound w 1 20 = some (-4) from by unfold f_X12_bound; rw [if_neg hw]]
        simp only [obs, z4, if_false]
        rw [lm4, xno_ok (by decide)]
        rfl
    · refine ⟨-6, sNo S 6, upd re 6 (re 6 + 1), fa, sh, qu, q, lb, ?_, ?_, hX.no 6, hT.no 6⟩
      · rw [show f_X11_outside w 1 20 = some (-6) from by unfold f_X11_outside; rw [if_pos hw, if_neg hw2]]
        simp only [obs, g6, if_false]
        exact h.no hT (by decide) (by decide) lm6
      · rw [show f_X12_bound w 1 20 = some (-6) from by unfold f_X12_bound; rw [if_pos hw, if_neg hw2]]
        simp only [obs, z6, if_false]
        rw [lm6, xno_ok (by decide)]
        rfl
    · subst e
      have k1 : (1 : Int32) ≤ nI m := nI_le (a := 1) m1 (by omega)
      have k2 : nI m ≤ 20 := nI_le (b := 20) m2 (by decide)
      obtain ⟨fa1, sha, qu1, q1, lb1, x1, x2⟩ := xfindLit_ok hT.1 hX.2.1 (fa := fa) (sh := sh) (qu := qu) (q := q) (lb := lb)
      refine ⟨nI (sumN (fun l => if lmB (zT S) l = true then mnN (tF (zT S)) (tP (zT S) p) z (tG (zT S) l) m else 0) (tn (zT S))), S, re, fa1, sha, qu1, q1, lb1, h.same ?_, ?_, hX, hT⟩
      · rw [show f_X11_outside (nI m) 1 20 = some 0 from by unfold f_X11_outside; rw [if_pos k1, if_pos k2]]
        simp only [obs, g0, if_true]
        refine gfold (σ := Int32) (ρ := Option (Int32 × (Nat → GV))) (fun n k x => L_X11_lots_44 (fun x44_123 => some (x44_123, gv)) gv hx (nI p) (nI m) z n x (nI k)) (fun x => some (x, gv)) (tn (zT S)) (fun k => nI (sumN (fun l => if lmB (zT S) l = true then mnN (tF (zT S)) (tP (zT S) p) z (tG (zT S) l) m else 0) k)) ?_ ?_ gF 0 (by unfold gF; omega) (Nat.zero_le _)
        · intro n
          show L_X11_lots_44 _ gv hx _ _ z (n + 1) _ (nI (tn (zT S))) = _
          rw [L_X11_lots_44.eq_2, e4]
          simp only [obs, hC.f3]
          rw [if_pos (nI_le (Nat.le_refl _) (by omega))]
        · intro n k hk
          have hlp := hC.lp hk
          have hk7 := (hT.1.2.2.2.2.2.2 k hk).1
          have hsu : sumN (fun l => if lmB (zT S) l = true then mnN (tF (zT S)) (tP (zT S) p) z (tG (zT S) l) m else 0) (k + 1) = sumN (fun l => if lmB (zT S) l = true then mnN (tF (zT S)) (tP (zT S) p) z (tG (zT S) l) m else 0) k + (if lmB (zT S) k = true then mnN (tF (zT S)) (tP (zT S) p) z (tG (zT S) k) m else 0) := rfl
          show L_X11_lots_44 _ gv hx _ _ z (n + 1) (nI (sumN (fun l => if lmB (zT S) l = true then mnN (tF (zT S)) (tP (zT S) p) z (tG (zT S) l) m else 0) k)) (nI k) = L_X11_lots_44 _ gv hx _ _ z n (nI (sumN (fun l => if lmB (zT S) l = true then mnN (tF (zT S)) (tP (zT S) p) z (tG (zT S) l) m else 0) (k + 1))) (nI (k + 1))
          rw [L_X11_lots_44.eq_2, e4]
          simp only [obs, hC.f3]
          rw [if_neg (by rw [nI_leI (by omega) (by omega)]; omega), hC.o]
          simp only [obs]
          rw [hC.lampAt hT.1 hk]
          simp only [obs, hlp.f2, hlp.kind hk7, hC.glow hT.1 hk, hC.cellOf hT.1 hpp]
          rw [hO]
          simp only [obs]
          rw [h.mins hT hP m2, hsu, nI_1]
          simp only [obs]
          have hlm : lmB (zT S) k = (tL (zT S) k && !decide (tK (zT S) k = 2)) := rfl
          rw [hlm]
          cases hL : tL (zT S) k with
          | false =>
            rw [if_pos (show (if false = true then (1 : Int32) else 0) = 0 by decide), if_neg (by simp)]
            simp only [obs, Nat.add_zero]
          | true =>
            rw [if_neg (show ¬ (if true = true then (1 : Int32) else 0) = 0 by decide)]
            by_cases e2 : tK (zT S) k = 2
            · rw [if_pos (show nI (tK (zT S) k) = 2 by rw [e2]; rfl), if_neg (by simp [e2])]
              simp only [obs, Nat.add_zero]
            · rw [if_neg (show ¬ nI (tK (zT S) k) = 2 by rw [show (2 : Int32) = nI 2 from rfl, nI_eq (by omega) (by decide)]; exact e2), if_pos (by simp [e2])]
              simp only [obs]
              rw [nI_add]
      · rw [show f_X12_bound (nI m) 1 20 = some 0 from by unfold f_X12_bound; rw [if_pos k1, if_pos k2]]
        simp only [obs, if_true]
        rw [x1]
        simp only [obs]
        rw [xlitBits_ok hT.1 hX.2.1]
        simp only [obs]
        rw [xl46 hT.1 hX.2.1, xl96 hT.1 hX.2.1 x2 hpp m2, lots_eq]
end
