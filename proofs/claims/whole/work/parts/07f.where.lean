/-! WHERE ONE CAN HAVE BEEN -/
/-- as Option.bind_some, but no rfl-row: its steps cost the kernel nothing -/
theorem obs {α β : Type} (a : α) (f : α → Option β) : (some a).bind f = f a := (Option.bind_some a f).trans rfl
def rc1 (f : Nat → Bool) (a r c : Nat) : Bool := rch f (src f a) r c
theorem src_no {f : Nat → Bool} {a : Nat} (h : ¬ f a = true) : ∀ n c, rch f (src f a) n c = false := by
  have e : src f a = fun _ => false := by
    funext d
    unfold src
    by_cases hd : d = a
    · subst hd; simp [h]
    · simp [hd]
  intro n
  induction n with
  | zero => intro c; rw [e]; rfl
  | succ n ih =>
    intro c
    show (rch f (src f a) n c || (f c && nbs (fun d => rch f (src f a) n d && f d) c)) = false
    have e2 : (fun d => rch f (src f a) n d && f d) = fun _ => false := by
      funext d
      rw [ih d]
      rfl
    rw [ih c, e2, nbs_none]
    simp
theorem gl1_rc {f : Nat → Bool} {a r c : Nat} (h : f c = true) : gl1 f a r c = rc1 f a r c := by
  unfold gl1 rc1
  by_cases hfa : f a = true
  · rw [if_pos hfa]
  · rw [if_neg hfa, src_no hfa]
    have : ¬ c = a := fun e => by rw [e] at h; exact hfa h
    simp [this]
def dif (t m : Nat) : Nat := if t < m then m - t else t - m
theorem dif_i {t m : Nat} (ht : t ≤ 9999) (hm : m ≤ 9999) : (if (0 : Int32) ≤ nI t - nI m then nI t - nI m else 0 - (nI t - nI m)) = nI (dif t m) := by
  unfold dif
  by_cases h : t < m
  · have h1 : nI t - nI m < 0 := pk_sneg (by omega) h
    rw [if_neg (Int32.not_le.mpr h1), if_pos h, Int32.zero_sub, Int32.neg_sub, pk_sub (by omega)]
  · rw [pk_sub (by omega), if_pos (nI_pos' (by omega)), if_neg h]
theorem anyB_or (p q : Nat → Bool) : ∀ n, anyB (fun l => p l || q l) n = (anyB p n || anyB q n)
  | 0 => rfl
  | n + 1 => by
    show (anyB (fun l => p l || q l) n || (p n || q n)) = ((anyB p n || p n) || (anyB q n || q n))
    rw [anyB_or p q n]
    cases anyB p n <;> cases anyB q n <;> cases p n <;> cases q n <;> rfl
/-- whether a plain lamp would still have a scene of one -/
def misB (T : TS) (p t l : Nat) : Bool := ((decide (tK T l = 0) && tL T l) && decide (tS T l < 9)) && !sawB (tS T l) (tw T l) (tm T l) t p
/-- what a lamp's scenes of one leave out -/
def offB (T : TS) (p t l c n : Nat) : Bool := anyB (fun i => decide (tw T l i = p) && !rc1 (tF T) (tx T l i) (dif t (tm T l i)) c) n
def whB (T : TS) (p t c n : Nat) : Bool := tF T c && !anyB (fun l => offB T p t l c (tS T l) || (misB T p t l && tG T l c)) n
section
variable {gv : Nat → GV} {a la pa : Nat} {T : TS} {fl : Nat → Option Nat} {pf : Nat → Int32} {LA SA : Nat → Nat} {sf : Nat → Nat → Int32}
theorem CT.left (h : CT gv a T la pa fl pf LA SA sf) (hT : TOK T) {l p t : Nat} (hl : l < tn T) (hp : p < 10) (ht : t ≤ 9999) : fv_X5_leftByScenes gv (LA l) (nI p) (nI t) (lN (bm (tF T) 36)) = some (lN (bm (fun c => tF T c && !offB T p t l c (tS T l)) 36)) := by
  have hlp := h.lp hl
  have hsc := h.sc hT hl
  have hs9 := hsc.1
  unfold fv_X5_leftByScenes
  rw [hlp.fO]
  simp only [obs]
  unfold f_X5_leftByScenes
  have e0 : bm (tF T) 36 = bm (fun c => tF T c && !offB T p t l c 0) 36 := bm_cong (fun k hk => by
    show tF T k = (tF T k && !false)
    simp)
  have main := gfold (σ := Int64) (ρ := Option Int64) (fun n k z => L_X5_leftByScenes_6 (fun x6_66 => some x6_66) gv (LA l) (nI p) (nI t) (lN (bm (tF T) 36)) n z (nI k)) some (tS T l) (fun k => lN (bm (fun c => tF T c && !offB T p t l c k) 36)) ?_ ?_ gF 0 (by unfold gF; omega) (Nat.zero_le _)
  · rw [← e0] at main
    exact main
  · intro n
    show L_X5_leftByScenes_6 _ gv (LA l) _ _ _ (n + 1) _ (nI (tS T l)) = _
    rw [L_X5_leftByScenes_6.eq_2, hlp.f3]
    simp only [obs]
    rw [if_pos (nI_le (Nat.le_refl _) (by omega))]
  · intro n k hk
    obtain ⟨d1, d2, d3, d4⟩ := hsc.2 k hk
    show L_X5_leftByScenes_6 _ gv (LA l) _ _ _ (n + 1) (lN (bm (fun c => tF T c && !offB T p t l c k) 36)) (nI k) = L_X5_leftByScenes_6 _ gv (LA l) _ _ _ n (lN (bm (fun c => tF T c && !offB T p t l c (k + 1)) 36)) (nI (k + 1))
    rw [L_X5_leftByScenes_6.eq_2, hlp.f3]
    simp only [obs]
    rw [if_neg (by rw [nI_leI (by omega) (by omega)]; omega), hlp.sceneAt hs9 hk, d1]
    simp only [obs]
    rw [scn_who d2 d4 (by omega), scn_min d2 d4 (by omega), scn_cell d2 d4 (by omega), nI_1]
    simp only [obs]
    have hsu : ∀ c, offB T p t l c (k + 1) = (offB T p t l c k || (decide (tw T l k = p) && !rc1 (tF T) (tx T l k) (dif t (tm T l k)) c)) := fun c => rfl
    by_cases e : tw T l k = p
    · rw [if_pos (show nI (tw T l k) = nI p by rw [e]), dif_i ht d4, within_b fr36 d3 (by unfold dif; split <;> omega)]
      simp only [obs]
      rw [lb_and]
      congr 2
      refine bm_cong (fun c hc => ?_)
      rw [hsu c]
      cases hfc : tF T c with
      | false => rfl
      | true =>
        rw [gl1_rc hfc]
        simp [e]
    · rw [if_neg (show ¬ nI (tw T l k) = nI p by rw [nI_eq (by omega) (by omega)]; exact e)]
      simp only [obs]
      congr 2
      refine bm_cong (fun c hc => ?_)
      rw [hsu c]
      simp [e]
theorem CT.missed (h : CT gv a T la pa fl pf LA SA sf) (hT : TOK T) {l p t : Nat} (hl : l < tn T) (hp : p < 10) (ht : t ≤ 9999) : fv_X5_missed gv (LA l) (nI p) (nI t) = some (if misB T p t l = true then 1 else 0) := by
  have hlp := h.lp hl
  have hsc := h.sc hT hl
  have hs9 := hsc.1
  obtain ⟨k1, -⟩ := hT.2.2.2.2.2.2 l hl
  unfold fv_X5_missed
  rw [hlp.fO]
  simp only [Option.bind_some]
  unfold f_X5_missed misB
  rw [hlp.kind k1]
  simp only [Option.bind_some, hlp.f2, hlp.f3]
  by_cases e : tK T l = 0
  · rw [if_pos (show nI (tK T l) = 0 by rw [e]; rfl)]
    cases hL : tL T l with
    | false => simp [e, gzb_0]
    | true =>
      rw [if_neg (show ¬ (if true = true then (1 : Int32) else 0) = 0 by decide)]
      by_cases e9 : tS T l < 9
      · rw [if_neg (by rw [show (9 : Int32) = nI 9 from rfl, nI_leI (by decide) (by omega)]; omega), hlp.sawAt hsc (by omega) hp]
        simp only [Option.bind_some]
        cases hsw : sawB (tS T l) (tw T l) (tm T l) t p with
        | true =>
          rw [if_neg (show ¬ (if true = true then (1 : Int32) else 0) = 0 by decide)]
          simp [gzb_0]
        | false =>
          rw [if_pos (show (if false = true then (1 : Int32) else 0) = 0 by decide)]
          simp [e, e9, gzb_1]
      · rw [if_pos (by rw [show (9 : Int32) = nI 9 from rfl, nI_leI (by decide) (by omega)]; omega)]
        simp [e9, gzb_0]
  · rw [if_neg (show ¬ nI (tK T l) = 0 by rw [show (0 : Int32) = nI 0 from rfl, nI_eq (by omega) (by decide)]; exact e)]
    simp [e, gzb_0]
theorem CT.whereabouts (h : CT gv a T la pa fl pf LA SA sf) (hT : TOK T) {p t : Nat} (hp : p < 10) (ht : t ≤ 9999) : f_X10_whereabouts gv a (nI p) (nI t) = some (lN (bm (fun c => whB T p t c (tn T)) 36)) := by
  have hn : tn T ≤ 6 := hT.2.2.1
  unfold f_X10_whereabouts
  rw [h.o]
  simp only [Option.bind_some]
  rw [h.free]
  simp only [Option.bind_some]
  have e0 : bm (tF T) 36 = bm (fun c => whB T p t c 0) 36 := bm_cong (fun k hk => by
    show tF T k = (tF T k && !false)
    simp)
  rw [e0]
  refine gfold (σ := Int64) (ρ := Option Int64) (fun n k z => L_X10_whereabouts_8 (fun x8_79 => some x8_79) gv a (nI p) (nI t) n z (nI k)) some (tn T) (fun k => lN (bm (fun c => whB T p t c k) 36)) ?_ ?_ gF 0 (by unfold gF; omega) (Nat.zero_le _)
  · intro n
    show L_X10_whereabouts_8 _ gv a _ _ (n + 1) _ (nI (tn T)) = _
    rw [L_X10_whereabouts_8.eq_2, h.f3]
    simp only [Option.bind_some]
    rw [if_pos (nI_le (Nat.le_refl _) (by omega))]
  · intro n k hk
    show L_X10_whereabouts_8 _ gv a _ _ (n + 1) (lN (bm (fun c => whB T p t c k) 36)) (nI k) = L_X10_whereabouts_8 _ gv a _ _ n (lN (bm (fun c => whB T p t c (k + 1)) 36)) (nI (k + 1))
    rw [L_X10_whereabouts_8.eq_2, h.f3]
    simp only [Option.bind_some]
    rw [if_neg (by rw [nI_leI (by omega) (by omega)]; omega), h.o]
    simp only [Option.bind_some]
    rw [h.lampAt hT hk]
    simp only [Option.bind_some, h.free]
    rw [h.left hT hk hp ht, h.missed hT hk hp ht]
    simp only [Option.bind_some, h.glow hT hk]
    have hsu : ∀ c, whB T p t c (k + 1) = (tF T c && !(anyB (fun l => offB T p t l c (tS T l) || (misB T p t l && tG T l c)) k || (offB T p t k c (tS T k) || (misB T p t k && tG T k c)))) := fun c => rfl
    rw [nI_1]
    cases hm : misB T p t k with
    | true =>
      rw [if_neg (show ¬ (if true = true then (1 : Int32) else 0) = 0 by decide)]
      simp only [Option.bind_some]
      rw [lb_and, lb_andN]
      congr 2
      refine bm_cong (fun c hc => ?_)
      rw [hsu c, hm]
      unfold whB
      cases tF T c <;> cases anyB (fun l => offB T p t l c (tS T l) || (misB T p t l && tG T l c)) k <;> cases offB T p t k c (tS T k) <;> cases tG T k c <;> rfl
    | false =>
      rw [if_pos (show (if false = true then (1 : Int32) else 0) = 0 by decide)]
      simp only [Option.bind_some]
      rw [lb_and, lb_all, lb_and]
      congr 2
      refine bm_cong (fun c hc => ?_)
      rw [hsu c, hm]
      unfold whB
      cases tF T c <;> cases anyB (fun l => offB T p t l c (tS T l) || (misB T p t l && tG T l c)) k <;> cases offB T p t k c (tS T k) <;> cases tG T k c <;> rfl
end
section
variable {T : TS} {wa ka la ra li sa wh ce mi st : Nat → Int32}
theorem RT.sc (hR : RT T wa ka la ra li sa wh ce mi st) {l k : Nat} (hl : l < tn T) (hk : k < tS T l) : wh (9 * l + k) = nI (tw T l k) ∧ ce (9 * l + k) = nI (tx T l k) ∧ mi (9 * l + k) = nI (tm T l k) := (hR.2.2 l hl).2.2.2.2.2 k hk
theorem TOK.s9 (hT : TOK T) {l : Nat} (hl : l < tn T) : tS T l ≤ 9 := by
  have h1 := (hT.2.2.2.2.2.2 l hl).2.2.2.1
  have h2 := keepN_le (tK T l)
  omega
theorem TOK.sc (hT : TOK T) {l k : Nat} (hl : l < tn T) (hk : k < tS T l) : tw T l k < 10 ∧ tx T l k < 36 ∧ tm T l k ≤ 9999 := by
  have h1 := (hT.2.2.2.2.2.2 l hl).2.2.2.2.1 k hk
  have h2 := hT.2.2.2.2.1
  exact ⟨h1.1, h1.2.1, by omega⟩
theorem xsceneAt_ok (hT : TOK T) (hR : RT T wa ka la ra li sa wh ce mi st) {l t : Nat} (hl : l < tn T) (ht : t < 2 ^ 31) : f_X12_sceneAt sa mi (nI l) (nI t) = some (fI (fun i => decide (tm T l i = t)) (tS T l)) := by
  have hn : tn T ≤ 6 := hT.2.2.1
  have h9 := hT.s9 hl
  have hsa := (hR.2.2 l hl).2.2.2.2.1
  unfold f_X12_sceneAt fI
  have := gfirst (fun n k => L_X12_sceneAt_2 (fun x2_27 => some x2_27) (fun x2_35 => some (-9 : Int32)) sa mi (nI l) (nI t) n (nI k)) (fun i => some (nI i)) (some (-9)) (tS T l) (fun i => decide (tm T l i = t)) (fun n => by
    show L_X12_sceneAt_2 _ _ sa mi (nI l) (nI t) (n + 1) (nI (tS T l)) = _
    rw [L_X12_sceneAt_2.eq_2, gix_ok (show l < 6 by omega) (by decide), nI_clamp (show l < 2 ^ 31 by omega), hsa, if_pos (nI_le (Nat.le_refl _) (by omega))]) (fun n k hk => by
    show L_X12_sceneAt_2 _ _ sa mi (nI l) (nI t) (n + 1) (nI k) = _
    rw [L_X12_sceneAt_2.eq_2, gix_ok (show l < 6 by omega) (by decide), nI_clamp (show l < 2 ^ 31 by omega), hsa, if_neg (by rw [nI_leI (by omega) (by omega)]; omega), i9, nI_add, gix_ok (show 9 * l + k < 54 by omega) (by decide), nI_clamp (show 9 * l + k < 2 ^ 31 by omega), (hR.sc hl hk).2.2, nI_1]
    have hm := (hT.sc hl hk).2.2
    by_cases e : tm T l k = t
    · rw [if_pos (show nI (tm T l k) = nI t by rw [e])]
      simp [e]
    · rw [if_neg (show ¬ nI (tm T l k) = nI t by rw [nI_eq (by omega) ht]; exact e)]
      simp [e]) gF 0 (by unfold gF; omega) (Nat.zero_le _) (fun j hj => by omega)
  refine this.trans ?_
  cases fst1 (fun i => decide (tm T l i = t)) (tS T l) <;> rfl
/-- one lamp's bit, if it saw one at a minute -/
theorem xsaw_ok (hT : TOK T) (hR : RT T wa ka la ra li sa wh ce mi st) {l t p : Nat} (hl : l < tn T) (ht : t < 2 ^ 31) (hp : p < 10) : ∃ o, f_X12_sceneAt sa mi (nI l) (nI t) = some o ∧ (if o < 0 then some 0 else gix ((9 * nI l) + o) 54 (if wh ((9 * nI l) + o).toNatClampNeg = nI p then some ((1 : Int32) <<< (nI l &&& 31)) else some 0) : Option Int32) = some (if sawB (tS T l) (tw T l) (tm T l) t p = true then (1 : Int32) <<< (nI l &&& 31) else 0) := by
  have hn : tn T ≤ 6 := hT.2.2.1
  have h9 := hT.s9 hl
  refine ⟨_, xsceneAt_ok hT hR hl ht, ?_⟩
  unfold sawB
  rcases fI_cas (fun i => decide (tm T l i = t)) (tS T l) with ⟨i, e1, e2, e3, e4⟩ | ⟨e3, e4⟩
  · rw [e3, e4, if_neg (nI_pos (by omega)), i9, nI_add, gix_ok (show 9 * l + i < 54 by omega) (by decide), nI_clamp (show 9 * l + i < 2 ^ 31 by omega), (hR.sc hl e1).1]
    have hw := (hT.sc hl e1).1
    by_cases e : tw T l i = p
    · rw [if_pos (show nI (tw T l i) = nI p by rw [e])]
      simp [e]
    · rw [if_neg (show ¬ nI (tw T l i) = nI p by rw [nI_eq (by omega) (by omega)]; exact e)]
      simp [e]
  · rw [e3, e4, if_pos (by decide)]
    simp
theorem xseers_ok (hT : TOK T) (hR : RT T wa ka la ra li sa wh ce mi st) {t p : Nat} (ht : t < 2 ^ 31) (hp : p < 10) : f_X12_seersOf sa wh mi (nI (tn T)) (nI p) (nI t) = some (nI (bm (fun l => sawB (tS T l) (tw T l) (tm T l) t p) (tn T))) := by
  have hn : tn T ≤ 6 := hT.2.2.1
  unfold f_X12_seersOf
  refine gfold (σ := Int32) (ρ := Option Int32) (fun n k z => L_X12_seersOf_5 (fun x5_63 => some x5_63) sa wh mi (nI (tn T)) (nI p) (nI t) n z (nI k)) some (tn T) (fun k => nI (bm (fun l => sawB (tS T l) (tw T l) (tm T l) t p) k)) ?_ ?_ gF 0 (by unfold gF; omega) (Nat.zero_le _)
  · intro n
    show L_X12_seersOf_5 _ sa wh mi _ _ _ (n + 1) _ (nI (tn T)) = _
    rw [L_X12_seersOf_5.eq_2, if_pos (nI_le (Nat.le_refl _) (by omega))]
  · intro n k hk
    obtain ⟨o, e1, e2⟩ := xsaw_ok hT hR hk ht hp
    show L_X12_seersOf_5 _ sa wh mi _ _ _ (n + 1) (nI (bm (fun l => sawB (tS T l) (tw T l) (tm T l) t p) k)) (nI k) = L_X12_seersOf_5 _ sa wh mi _ _ _ n (nI (bm (fun l => sawB (tS T l) (tw T l) (tm T l) t p) (k + 1))) (nI (k + 1))
    rw [L_X12_seersOf_5.eq_2, if_neg (by rw [nI_leI (by omega) (by omega)]; omega), e1]
    simp only [Option.bind_some]
    rw [e2]
    simp only [Option.bind_some]
    rw [ib_or (fun l => sawB (tS T l) (tw T l) (tm T l) t p) (show k < 31 by omega), nI_1]
def MayOK (g : Nat → Bool) (may : Nat → Int32) : Prop := ∀ c, c < 36 → may c = if g c = true then 1 else 0
theorem xplain_ok (hT : TOK T) (hR : RT T wa ka la ra li sa wh ce mi st) {α : Type} {K : Int32 → Option α} {t p : Nat} {v4 : Int32} : L_X12_findWhere_27 K ka li sa (nI (tn T)) (nI p) (nI t) (nI (bm (fun l => sawB (tS T l) (tw T l) (tm T l) t p) (tn T))) v4 gF 0 0 = K (nI (bm (misB T p t) (tn T))) := by
  have hn : tn T ≤ 6 := hT.2.2.1
  refine gfold (σ := Int32) (ρ := Option α) (fun n k z => L_X12_findWhere_27 K ka li sa (nI (tn T)) (nI p) (nI t) (nI (bm (fun l => sawB (tS T l) (tw T l) (tm T l) t p) (tn T))) v4 n z (nI k)) K (tn T) (fun k => nI (bm (misB T p t) k)) ?_ ?_ gF 0 (by unfold gF; omega) (Nat.zero_le _)
  · intro n
    show L_X12_findWhere_27 K ka li sa _ _ _ _ v4 (n + 1) _ (nI (tn T)) = _
    rw [L_X12_findWhere_27.eq_2, if_pos (nI_le (Nat.le_refl _) (by omega))]
  · intro n k hk
    obtain ⟨r1, r2, r3, r4, r5, -⟩ := hR.2.2 k hk
    have h9 := hT.s9 hk
    have hk7 := (hT.2.2.2.2.2.2 k hk).1
    show L_X12_findWhere_27 K ka li sa _ _ _ _ v4 (n + 1) (nI (bm (misB T p t) k)) (nI k) = L_X12_findWhere_27 K ka li sa _ _ _ _ v4 n (nI (bm (misB T p t) (k + 1))) (nI (k + 1))
    rw [L_X12_findWhere_27.eq_2, if_neg (by rw [nI_leI (by omega) (by omega)]; omega)]
    simp only [gix_ok (show k < 6 by omega) (show 6 < 2 ^ 31 by decide), nI_clamp (show k < 2 ^ 31 by omega), r1, r4, r5]
    have hj : (if nI (tK T k) = 0 then if (if tL T k = true then 1 else 0 : Int32) = 1 then if 9 ≤ nI (tS T k) then some 0 else (f_X12_has (nI (bm (fun l => sawB (tS T l) (tw T l) (tm T l) t p) (tn T))) (nI k)).bind fun o74 => if o74 = 0 then some ((1 : Int32) <<< (nI k &&& 31)) else some 0 else some 0 else some 0 : Option Int32) = some (if misB T p t k = true then (1 : Int32) <<< (nI k &&& 31) else 0) := by
      unfold misB
      by_cases e : tK T k = 0
      · rw [if_pos (show nI (tK T k) = 0 by rw [e]; rfl)]
        cases hL : tL T k with
        | false =>
          rw [if_neg (show ¬ (if false = true then 1 else 0 : Int32) = 1 by decide)]
          simp
        | true =>
          rw [if_pos (show (if true = true then 1 else 0 : Int32) = 1 by decide)]
          by_cases e9 : tS T k < 9
          · rw [if_neg (by rw [show (9 : Int32) = nI 9 from rfl, nI_leI (by decide) (by omega)]; omega), xhas_ok (bm_i (by omega)) (by omega), bm_tb]
            simp only [Option.bind_some]
            cases hsw : sawB (tS T k) (tw T k) (tm T k) t p with
            | true => simp [hk]
            | false => simp [hk, e, e9]
          · rw [if_pos (by rw [show (9 : Int32) = nI 9 from rfl, nI_leI (by decide) (by omega)]; omega)]
            simp [e9]
      · rw [if_neg (show ¬ nI (tK T k) = 0 by rw [show (0 : Int32) = nI 0 from rfl, nI_eq (by omega) (by decide)]; exact e)]
        simp [e]
    rw [hj]
    simp only [Option.bind_some]
    rw [ib_or (misB T p t) (show k < 31 by omega), nI_1]
theorem xfw14_ok (hT : TOK T) (hR : RT T wa ka la ra li sa wh ce mi st) {α : Type} {K : (Nat → Int32) → Option α} {lb may : Nat → Int32} (hlb : LitRow T lb) {t p : Nat} : ∃ may', L_X12_findWhere_14 K wa ka li sa (nI (tn T)) lb (nI p) (nI t) (nI (bm (fun l => sawB (tS T l) (tw T l) (tm T l) t p) (tn T))) gF 0 may = K may' ∧ MayOK (fun c => tF T c && !anyB (fun l => misB T p t l && tG T l c) (tn T)) may' := by
  have hn : tn T ≤ 6 := hT.2.2.1
  refine gloop (σ := Nat → Int32) (ρ := Option α) (fun n k s => L_X12_findWhere_14 K wa ka li sa (nI (tn T)) lb (nI p) (nI t) (nI (bm (fun l => sawB (tS T l) (tw T l) (tm T l) t p) (tn T))) n (nI k) s) 36 (fun k s => ∀ c, c < k → s c = if (tF T c && !anyB (fun l => misB T p t l && tG T l c) (tn T)) = true then 1 else 0) (fun r => ∃ may', r = K may' ∧ MayOK (fun c => tF T c && !anyB (fun l => misB T p t l && tG T l c) (tn T)) may') ?_ ?_ gF 0 may (by decide) (by decide) (fun c hc => by omega)
  · intro n s hI
    refine ⟨s, ?_, hI⟩
    show L_X12_findWhere_14 K wa ka li sa _ lb _ _ _ (n + 1) (nI 36) s = _
    rw [L_X12_findWhere_14.eq_2, if_pos (by decide)]
  · intro n k s hk hI
    right
    have hj : (if wa k = 1 then some 0 else if (nI (bm (fun l => tG T l k) (tn T)) &&& nI (bm (misB T p t) (tn T))) = 0 then some 1 else some 0 : Option Int32) = some (if (tF T k && !anyB (fun l => misB T p t l && tG T l k) (tn T)) = true then 1 else 0) := by
      rw [hR.1 k hk]
      cases hw : tW T k with
      | true =>
        rw [if_pos (show (if true = true then 1 else 0 : Int32) = 1 by decide)]
        have : tF T k = false := by unfold tF fr; rw [hw]; simp
        simp [this]
      | false =>
        rw [if_neg (show ¬ (if false = true then 1 else 0 : Int32) = 1 by decide)]
        have hf : tF T k = true := by unfold tF fr; rw [hw]; simp [hk]
        have hlt : bm (fun l => tG T l k) (tn T) &&& bm (misB T p t) (tn T) < 2 ^ 31 := Nat.lt_of_le_of_lt Nat.and_le_left (bm_i (by omega))
        have ha : anyB (fun l => misB T p t l && tG T l k) (tn T) = !decide (bm (fun l => tG T l k) (tn T) &&& bm (misB T p t) (tn T) = 0) := by
          rw [← anyB_and]
          refine anyB_cong (fun l hl => ?_)
          rw [bm_tb]
          simp [hl]
        rw [ha, nx_and, hf]
        by_cases e : bm (fun l => tG T l k) (tn T) &&& bm (misB T p t) (tn T) = 0
        · rw [if_pos (by rw [e]; rfl)]
          simp [e]
        · rw [if_neg (by rw [show (0 : Int32) = nI 0 from rfl, nI_eq hlt (by decide)]; exact e)]
          simp [e]
    refine ⟨upd s k (if (tF T k && !anyB (fun l => misB T p t l && tG T l k) (tn T)) = true then 1 else 0), ?_, fun c hc => ?_⟩
    · show L_X12_findWhere_14 K wa ka li sa _ lb _ _ _ (n + 1) (nI k) s = L_X12_findWhere_14 K wa ka li sa _ lb _ _ _ n (nI (k + 1)) _
      rw [L_X12_findWhere_14.eq_2, if_neg (by rw [show (36 : Int32) = nI 36 from rfl, nI_leI (by decide) (by omega)]; omega), xplain_ok hT hR]
      simp only [gix_ok hk (show 36 < 2 ^ 31 by decide), nI_clamp (show k < 2 ^ 31 by omega), hlb k hk]
      rw [hj]
      simp only [Option.bind_some]
      rw [nI_1]
    · by_cases hck : c = k
      · subst hck; rw [upd_s]
      · rw [upd_n hck]; exact hI c (by omega)
theorem xbars_ok (hT : TOK T) (hR : RT T wa ka la ra li sa wh ce mi st) {fa sh qu may : Nat → Int32} {q : Int32} {g : Nat → Bool} (hg : MayOK g may) {l k t : Nat} (hl : l < tn T) (hk : k < tS T l) (ht : t ≤ 9999) : ∃ fa' sh' qu' q' may', f_X12_barsBy wa ce mi fa sh qu q may (nI (9 * l + k)) (nI t) = some (fa', sh', qu', q', may') ∧ MayOK (fun c => g c && rc1 (tF T) (tx T l k) (dif t (tm T l k)) c) may' := by
  have hn : tn T ≤ 6 := hT.2.2.1
  have h9 := hT.s9 hl
  obtain ⟨d1, d2, d3⟩ := hT.sc hl hk
  obtain ⟨r1, r2, r3⟩ := hR.sc hl hk
  have h54 : 9 * l + k < 54 := by omega
  unfold f_X12_barsBy
  rw [gix_ok h54 (by decide), nI_clamp (show 9 * l + k < 2 ^ 31 by omega), r2, r3]
  obtain ⟨fa', sh', qu', q', e1, h1⟩ := xsteps_ok hR (fa := fa) (sh := sh) (qu := qu) (q := q) (a := tx T l k) (t := 0) d2 (by decide)
  have e1 : f_X12_stepsOf wa fa sh qu q (nI (tx T l k)) 0 = some (fa' 0, fa', sh', qu', q') := e1
  rw [e1]
  simp only [Option.bind_some, gix_ok h54 (show 54 < 2 ^ 31 by decide)]
  have hd : (if nI (tm T l k) ≤ nI t then some (nI t - nI (tm T l k)) else some (nI (tm T l k) - nI t) : Option Int32) = some (nI (dif t (tm T l k))) := by
    unfold dif
    by_cases e : t < tm T l k
    · rw [if_neg (by rw [nI_leI (by omega) (by omega)]; omega), if_pos e, pk_sub (by omega)]
    · rw [if_pos (nI_le (by omega) (by omega)), if_neg e, pk_sub (by omega)]
  rw [hd]
  simp only [Option.bind_some]
  have hdl : dif t (tm T l k) < 2 ^ 31 := by unfold dif; split <;> omega
  have main := gloop (σ := Nat → Int32) (ρ := Option ((Nat → Int32) × (Nat → Int32) × (Nat → Int32) × Int32 × (Nat → Int32))) (fun n j s => L_X12_barsBy_45 (fun x45_87 => some (fa', sh', qu', q', x45_87)) fa' (nI (dif t (tm T l k))) n (nI j) s) 36 (fun j s => (∀ c, c < j → s c = if (g c && rc1 (tF T) (tx T l k) (dif t (tm T l k)) c) = true then 1 else 0) ∧ ∀ c, j ≤ c → c < 36 → s c = if g c = true then 1 else 0) (fun r => ∃ may', r = some (fa', sh', qu', q', may') ∧ MayOK (fun c => g c && rc1 (tF T) (tx T l k) (dif t (tm T l k)) c) may') ?_ ?_ gF 0 may (by decide) (by decide) ⟨fun c hc => by omega, fun c _ hc => hg c hc⟩
  · obtain ⟨may', e2, h2⟩ := main
    exact ⟨fa', sh', qu', q', may', e2, h2⟩
  · intro n s hI
    refine ⟨s, ?_, hI.1⟩
    show L_X12_barsBy_45 _ fa' _ (n + 1) (nI 36) s = _
    rw [L_X12_barsBy_45.eq_2, if_pos (by decide)]
  · intro n j s hj hI
    right
    obtain ⟨hI1, hI2⟩ := hI
    have step : ∀ s', (if fa' j < 0 then gix (nI j) 36 (some (upd s j 0)) else gix (nI j) 36 (if fa' j ≤ nI (dif t (tm T l k)) then some s else gix (nI j) 36 (some (upd s j 0))) : Option (Nat → Int32)) = some s' → L_X12_barsBy_45 (fun x45_87 => some (fa', sh', qu', q', x45_87)) fa' (nI (dif t (tm T l k))) (n + 1) (nI j) s = L_X12_barsBy_45 (fun x45_87 => some (fa', sh', qu', q', x45_87)) fa' (nI (dif t (tm T l k))) n (nI (j + 1)) s' := by
      intro s' hs'
      rw [L_X12_barsBy_45.eq_2, if_neg (by rw [show (36 : Int32) = nI 36 from rfl, nI_leI (by decide) (by omega)]; omega), gix_ok hj (by decide), nI_clamp (show j < 2 ^ 31 by omega)]
      rw [hs']
      simp only [Option.bind_some]
      rw [nI_1]
    have off : rc1 (tF T) (tx T l k) (dif t (tm T l k)) j = false → ((∀ c, c < j + 1 → upd s j 0 c = if (g c && rc1 (tF T) (tx T l k) (dif t (tm T l k)) c) = true then 1 else 0) ∧ ∀ c, j + 1 ≤ c → c < 36 → upd s j 0 c = if g c = true then 1 else 0) := by
      intro hr
      refine ⟨fun c hc => ?_, fun c hc hc2 => ?_⟩
      · by_cases hcj : c = j
        · subst hcj; rw [upd_s, hr]; simp
        · rw [upd_n hcj]; exact hI1 c (by omega)
      · rw [upd_n (by omega)]; exact hI2 c (by omega) hc2
    rcases far_all h1 hj with ⟨d, c1, c2, c3⟩ | ⟨c1, c2⟩
    · by_cases hdr : d ≤ dif t (tm T l k)
      · refine ⟨s, step s ?_, fun c hc => ?_, fun c hc hc2 => hI2 c (by omega) hc2⟩
        · rw [c2, if_neg (nI_pos (by omega)), gix_ok hj (by decide), if_pos (nI_le hdr hdl)]
        · by_cases hcj : c = j
          · subst hcj
            rw [hI2 c (Nat.le_refl c) hj]
            have : rc1 (tF T) (tx T l k) (dif t (tm T l k)) c = true := by unfold rc1; rw [c3]; simp [hdr]
            rw [this]; simp
          · exact hI1 c (by omega)
      · refine ⟨upd s j 0, step _ ?_, off ?_⟩
        · rw [c2, if_neg (nI_pos (by omega)), gix_ok hj (by decide), if_neg (by rw [nI_leI (by omega) hdl]; exact hdr), gix_ok hj (by decide)]
        · unfold rc1; rw [c3]; simp [hdr]
    · refine ⟨upd s j 0, step _ ?_, off ?_⟩
      · rw [c1, if_pos (by decide), gix_ok hj (by decide)]
      · unfold rc1; exact c2 _
theorem MayOK.cong {g g' : Nat → Bool} {may : Nat → Int32} (h : MayOK g may) (e : ∀ c, c < 36 → g c = g' c) : MayOK g' may := fun c hc => by rw [h c hc, e c hc]
theorem xfw158_ok (hT : TOK T) (hR : RT T wa ka la ra li sa wh ce mi st) {α : Type} {K : ((Nat → Int32) × (Nat → Int32) × (Nat → Int32) × Int32 × (Nat → Int32)) → Option α} {fa sh qu may : Nat → Int32} {q : Int32} {g : Nat → Bool} (hg : MayOK g may) {l t p : Nat} (hl : l < tn T) (ht : t ≤ 9999) (hp : p < 10) : ∃ fa' sh' qu' q' may', L_X12_findWhere_158 K wa sa wh ce mi (nI p) (nI t) (nI l) gF (9 * nI l) fa sh qu q may = K (fa', sh', qu', q', may') ∧ MayOK (fun c => g c && !offB T p t l c (tS T l)) may' := by
  have hn : tn T ≤ 6 := hT.2.2.1
  have h9 := hT.s9 hl
  have hsa := (hR.2.2 l hl).2.2.2.2.1
  have h6 : l < 6 := by omega
  rw [i9]
  refine gloop (σ := (Nat → Int32) × (Nat → Int32) × (Nat → Int32) × Int32 × (Nat → Int32)) (ρ := Option α) (fun n k s => L_X12_findWhere_158 K wa sa wh ce mi (nI p) (nI t) (nI l) n (nI (9 * l + k)) s.1 s.2.1 s.2.2.1 s.2.2.2.1 s.2.2.2.2) (tS T l) (fun k s => MayOK (fun c => g c && !offB T p t l c k) s.2.2.2.2) (fun r => ∃ fa' sh' qu' q' may', r = K (fa', sh', qu', q', may') ∧ MayOK (fun c => g c && !offB T p t l c (tS T l)) may') ?_ ?_ gF 0 (fa, sh, qu, q, may) (by unfold gF; omega) (Nat.zero_le _) (hg.cong (fun c _ => by
    show g c = (g c && !false)
    simp))
  · intro n s hI
    refine ⟨s.1, s.2.1, s.2.2.1, s.2.2.2.1, s.2.2.2.2, ?_, hI⟩
    show L_X12_findWhere_158 K wa sa wh ce mi _ _ (nI l) (n + 1) (nI (9 * l + tS T l)) s.1 s.2.1 s.2.2.1 s.2.2.2.1 s.2.2.2.2 = _
    rw [L_X12_findWhere_158.eq_2, gix_ok h6 (by decide), nI_clamp (show l < 2 ^ 31 by omega), hsa, i9, nI_add, if_pos (nI_le (Nat.le_refl _) (by omega))]
  · intro n k s hk hI
    right
    have hsu : ∀ c, offB T p t l c (k + 1) = (offB T p t l c k || (decide (tw T l k = p) && !rc1 (tF T) (tx T l k) (dif t (tm T l k)) c)) := fun c => rfl
    have hw := (hT.sc hl hk).1
    have step : ∀ s' : (Nat → Int32) × (Nat → Int32) × (Nat → Int32) × Int32 × (Nat → Int32), (if nI (tw T l k) = nI p then (f_X12_barsBy wa ce mi s.1 s.2.1 s.2.2.1 s.2.2.2.1 s.2.2.2.2 (nI (9 * l + k)) (nI t)).bind fun o191 => some (o191.1, o191.2.1, o191.2.2.1, o191.2.2.2.1, o191.2.2.2.2) else some (s.1, s.2.1, s.2.2.1, s.2.2.2.1, s.2.2.2.2) : Option ((Nat → Int32) × (Nat → Int32) × (Nat → Int32) × Int32 × (Nat → Int32))) = some s' → L_X12_findWhere_158 K wa sa wh ce mi (nI p) (nI t) (nI l) (n + 1) (nI (9 * l + k)) s.1 s.2.1 s.2.2.1 s.2.2.2.1 s.2.2.2.2 = L_X12_findWhere_158 K wa sa wh ce mi (nI p) (nI t) (nI l) n (nI (9 * l + (k + 1))) s'.1 s'.2.1 s'.2.2.1 s'.2.2.2.1 s'.2.2.2.2 := by
      intro s' hs'
      rw [L_X12_findWhere_158.eq_2, gix_ok h6 (by decide), nI_clamp (show l < 2 ^ 31 by omega), hsa, i9, nI_add, if_neg (by rw [nI_leI (by omega) (by omega)]; omega), gix_ok (show 9 * l + k < 54 by omega) (by decide), nI_clamp (show 9 * l + k < 2 ^ 31 by omega), (hR.sc hl hk).1, hs']
      simp only [Option.bind_some]
      rw [nI_1]
      rfl
    by_cases e : tw T l k = p
    · obtain ⟨fa', sh', qu', q', may', e1, h1⟩ := xbars_ok hT hR (fa := s.1) (sh := s.2.1) (qu := s.2.2.1) (q := s.2.2.2.1) hI hl hk ht
      refine ⟨(fa', sh', qu', q', may'), step _ ?_, h1.cong (fun c _ => ?_)⟩
      · rw [if_pos (show nI (tw T l k) = nI p by rw [e]), e1]
        rfl
      · rw [hsu c]
        show ((g c && !offB T p t l c k) && _) = _
        cases g c <;> cases offB T p t l c k <;> simp [e]
    · refine ⟨s, step _ ?_, hI.cong (fun c _ => ?_)⟩
      · rw [if_neg (show ¬ nI (tw T l k) = nI p by rw [nI_eq (by omega) (by omega)]; exact e)]
      · rw [hsu c]
        show (g c && !offB T p t l c k) = _
        simp [e]
theorem xfindWhere_ok (hT : TOK T) (hR : RT T wa ka la ra li sa wh ce mi st) {fa sh qu lb may : Nat → Int32} {q : Int32} {t p : Nat} (ht : t ≤ 9999) (hp : p < 10) : ∃ fa' sh' qu' q' lb' may', f_X12_findWhere wa ka la ra li sa wh ce mi st (nI (tn T)) (nI (tp T)) fa sh qu q lb may (nI p) (nI t) = some (fa', sh', qu', q', lb', may') ∧ LitRow T lb' ∧ MayOK (fun c => whB T p t c (tn T)) may' := by
  have hn : tn T ≤ 6 := hT.2.2.1
  unfold f_X12_findWhere
  rw [xseers_ok hT hR (by omega) hp]
  simp only [obs]
  obtain ⟨fa1, sh1, qu1, q1, lb1, e1, h1⟩ := xfindLit_ok hT hR (fa := fa) (sh := sh) (qu := qu) (q := q) (lb := lb)
  rw [e1]
  simp only [obs]
  obtain ⟨may1, e2, h2⟩ := xfw14_ok hT hR (K := fun x14_139 => L_X12_findWhere_142 (fun x142_206 => some (x142_206.1, x142_206.2.1, x142_206.2.2.1, x142_206.2.2.2.1, lb1, x142_206.2.2.2.2)) wa sa wh ce mi (nI (tn T)) (nI p) (nI t) gF 0 fa1 sh1 qu1 q1 x14_139) (may := may) h1 (t := t) (p := p)
  rw [e2]
  have main := gloop (σ := (Nat → Int32) × (Nat → Int32) × (Nat → Int32) × Int32 × (Nat → Int32)) (ρ := Option ((Nat → Int32) × (Nat → Int32) × (Nat → Int32) × Int32 × (Nat → Int32) × (Nat → Int32))) (fun n k s => L_X12_findWhere_142 (fun x142_206 => some (x142_206.1, x142_206.2.1, x142_206.2.2.1, x142_206.2.2.2.1, lb1, x142_206.2.2.2.2)) wa sa wh ce mi (nI (tn T)) (nI p) (nI t) n (nI k) s.1 s.2.1 s.2.2.1 s.2.2.2.1 s.2.2.2.2) (tn T) (fun k s => MayOK (fun c => (tF T c && !anyB (fun l => misB T p t l && tG T l c) (tn T)) && !anyB (fun l => offB T p t l c (tS T l)) k) s.2.2.2.2) (fun r => ∃ fa' sh' qu' q' may', r = some (fa', sh', qu', q', lb1, may') ∧ MayOK (fun c => whB T p t c (tn T)) may') ?_ ?_ gF 0 (fa1, sh1, qu1, q1, may1) (by unfold gF; omega) (Nat.zero_le _) (h2.cong (fun c _ => by
    show _ = (_ && !false)
    simp))
  · obtain ⟨fa', sh', qu', q', may', e3, h3⟩ := main
    exact ⟨fa', sh', qu', q', lb1, may', e3, h1, h3⟩
  · intro n s hI
    refine ⟨s.1, s.2.1, s.2.2.1, s.2.2.2.1, s.2.2.2.2, ?_, hI.cong (fun c _ => ?_)⟩
    · show L_X12_findWhere_142 _ wa sa wh ce mi _ _ _ (n + 1) (nI (tn T)) s.1 s.2.1 s.2.2.1 s.2.2.2.1 s.2.2.2.2 = _
      rw [L_X12_findWhere_142.eq_2, if_pos (nI_le (Nat.le_refl _) (by omega))]
    · unfold whB
      rw [anyB_or]
      cases tF T c <;> cases anyB (fun l => misB T p t l && tG T l c) (tn T) <;> cases anyB (fun l => offB T p t l c (tS T l)) (tn T) <;> rfl
  · intro n k s hk hI
    right
    obtain ⟨fa', sh', qu', q', may', e3, h3⟩ := xfw158_ok hT hR (K := fun x158_200 => L_X12_findWhere_142 (fun x142_206 => some (x142_206.1, x142_206.2.1, x142_206.2.2.1, x142_206.2.2.2.1, lb1, x142_206.2.2.2.2)) wa sa wh ce mi (nI (tn T)) (nI p) (nI t) n (nI k + 1) x158_200.1 x158_200.2.1 x158_200.2.2.1 x158_200.2.2.2.1 x158_200.2.2.2.2) (fa := s.1) (sh := s.2.1) (qu := s.2.2.1) (q := s.2.2.2.1) hI hk ht hp
    refine ⟨(fa', sh', qu', q', may'), ?_, h3.cong (fun c _ => ?_)⟩
    · show L_X12_findWhere_142 _ wa sa wh ce mi _ _ _ (n + 1) (nI k) s.1 s.2.1 s.2.2.1 s.2.2.2.1 s.2.2.2.2 = L_X12_findWhere_142 _ wa sa wh ce mi _ _ _ n (nI (k + 1)) fa' sh' qu' q' may'
      rw [L_X12_findWhere_142.eq_2, if_neg (by rw [nI_leI (by omega) (by omega)]; omega), e3, nI_1]
    · show ((_ && !anyB (fun l => offB T p t l c (tS T l)) k) && _) = (_ && !(anyB (fun l => offB T p t l c (tS T l)) k || offB T p t k c (tS T k)))
      cases (tF T c && !anyB (fun l => misB T p t l && tG T l c) (tn T)) <;> cases anyB (fun l => offB T p t l c (tS T l)) k <;> cases offB T p t k c (tS T k) <;> rfl
end
