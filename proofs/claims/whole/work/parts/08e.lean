section
variable {gv : Nat → GV} {M hx : Nat} {ow : Nat → Nat} {S : SS} {re wa ka la ra li sa wh ce mi st ta ke ro : Nat → Int32} {hi : Int32} {fa sh qu lb may : Nat → Int32} {q : Int32} {tl1 le1 lt1 : Nat → Int32} {at1 ss1 ik1 cu1 : Int32}
/-! a scene kept in the reference's rows -/
theorem tail_x {l kd m p c : Nat} {L : ScL} (hl : l < 6) (hk : kd < 7) (h2 : kd ≠ 2) (hL : LOK kd m L) (hsa : sa l = nI L.1) (he : encR wh ce mi l L) : ∃ sa' wh' ce' mi', ((if sa l = nI (keepN kd) then (f_X12_takesOut sa wh ce mi (nI l) 0).bind fun o90 => some (o90.1, o90.2.1, o90.2.2.1, o90.2.2.2) else some (sa, wh, ce, mi) : Option ((Nat → Int32) × (Nat → Int32) × (Nat → Int32) × (Nat → Int32))).bind fun j84 => (f_X12_isNameless (nI kd)).bind fun o118 => gix ((9 * nI l) + (j84.1 l)) 54 (gix ((9 * nI l) + (j84.1 l)) 54 (gix ((9 * nI l) + (j84.1 l)) 54 (some (upd j84.1 l ((j84.1 l) + 1), upd j84.2.1 ((9 * nI l) + (j84.1 l)).toNatClampNeg (if o118 = 0 then nI p else 9), upd j84.2.2.1 ((9 * nI l) + (j84.1 l)).toNatClampNeg (nI c), upd j84.2.2.2 ((9 * nI l) + (j84.1 l)).toNatClampNeg (nI (m + 1))))))) = some (sa', wh', ce', mi') ∧ sa' l = nI (adL kd p c (m + 1) (d0L kd L)).1 ∧ (∀ j, j ≠ l → sa' j = sa j) ∧ encR wh' ce' mi' l (adL kd p c (m + 1) (d0L kd L)) ∧ ∀ j, (j < 9 * l ∨ 9 * l + 9 ≤ j) → wh' j = wh j ∧ ce' j = ce j ∧ mi' j = mi j := by
  have k9 := keepN_le kd
  have l1 := hL.1
  have s2 : ∃ sb wb cb mb, (if sa l = nI (keepN kd) then (f_X12_takesOut sa wh ce mi (nI l) 0).bind fun o90 => some (o90.1, o90.2.1, o90.2.2.1, o90.2.2.2) else some (sa, wh, ce, mi) : Option ((Nat → Int32) × (Nat → Int32) × (Nat → Int32) × (Nat → Int32))) = some (sb, wb, cb, mb) ∧ sb l = nI (d0L kd L).1 ∧ (∀ j, j ≠ l → sb j = sa j) ∧ encR wb cb mb l (d0L kd L) ∧ ∀ j, (j < 9 * l ∨ 9 * l + 9 ≤ j) → wb j = wh j ∧ cb j = ce j ∧ mb j = mi j := by
    have hd := (hL.d0 h2).2
    unfold d0L at hd ⊢
    rw [hsa]
    by_cases e : L.1 = keepN kd
    · rw [if_pos e] at hd
      rw [if_pos e, if_pos (by rw [e])]
      obtain ⟨wb, cb, mb, b1, b2, b3⟩ := take_x (wh := wh) (ce := ce) (mi := mi) hl (by omega) (i := 0) (by omega) hsa he
      have b1 : f_X12_takesOut sa wh ce mi (nI l) 0 = some (upd sa l (nI (dropL L 0).1), wb, cb, mb) := b1
      refine ⟨upd sa l (nI (dropL L 0).1), wb, cb, mb, ?_, upd_s, fun j hj => upd_n hj, b2, b3⟩
      rw [b1]
      simp only [obs]
    · rw [if_neg e, if_neg (by rw [nI_eq (by omega) (by omega)]; exact e)]
      exact ⟨sa, wh, ce, mi, rfl, hsa, fun _ _ => rfl, he, fun _ _ => ⟨rfl, rfl, rfl⟩⟩
  obtain ⟨sb, wb, cb, mb, b1, b2, b3, b4, b5⟩ := s2
  have hd := (hL.d0 h2).2
  obtain ⟨n, hn⟩ : ∃ n, n = (d0L kd L).1 := ⟨_, rfl⟩
  have hn9 : n < 9 := by omega
  have hnm : f_X12_isNameless (nI kd) = some (if kd = 1 ∨ kd = 4 then 1 else 0) := by
    rcases k7 hk with rfl | rfl | rfl | rfl | rfl | rfl | rfl <;> rfl
  rw [b1]
  simp only [obs]
  rw [hnm]
  simp only [obs]
  rw [b2, ← hn, i9, nI_add, gix_ok (show 9 * l + n < 54 by omega) (by decide), gix_ok (show 9 * l + n < 54 by omega) (by decide), gix_ok (show 9 * l + n < 54 by omega) (by decide), nI_clamp (show 9 * l + n < 2 ^ 31 by omega), nI_1]
  refine ⟨_, _, _, _, rfl, ?_, fun j hj => (upd_n hj).trans (b3 j hj), fun k hk2 => ?_, fun j hj => ?_⟩
  · rw [upd_s]
    show nI (n + 1) = nI ((d0L kd L).1 + 1)
    rw [← hn]
  · have hk2 : k < (d0L kd L).1 + 1 := hk2
    show upd wb (9 * l + n) _ (9 * l + k) = nI (if k = (d0L kd L).1 then (if kd = 1 ∨ kd = 4 then 9 else p) else (d0L kd L).2.1 k) ∧ upd cb (9 * l + n) (nI c) (9 * l + k) = nI (if k = (d0L kd L).1 then c else (d0L kd L).2.2.1 k) ∧ upd mb (9 * l + n) (nI (m + 1)) (9 * l + k) = nI (if k = (d0L kd L).1 then m + 1 else (d0L kd L).2.2.2 k)
    rw [← hn]
    by_cases e : k = n
    · rw [e, upd_s, upd_s, upd_s, if_pos rfl, if_pos rfl, if_pos rfl]
      refine ⟨?_, rfl, rfl⟩
      by_cases e2 : kd = 1 ∨ kd = 4
      · rw [if_pos e2, if_pos e2, if_neg (by decide)]; rfl
      · rw [if_neg e2, if_neg e2, if_pos rfl]
    · rw [upd_n (by omega), upd_n (by omega), upd_n (by omega), if_neg e, if_neg e, if_neg e]
      exact b4 k (by omega)
  · have := b5 j hj
    exact ⟨(upd_n (by omega)).trans this.1, (upd_n (by omega)).trans this.2.1, (upd_n (by omega)).trans this.2.2⟩
theorem find_x {l kd c : Nat} {L : ScL} (hl : l < 6) (hk : kd < 7) (h9 : L.1 ≤ 9) (hx36 : ∀ k, k < L.1 → L.2.2.1 k < 36) (hka : ka l = nI kd) (hsa : sa l = nI L.1) (he : encR wh ce mi l L) (hc : c < 36) {α : Type} {K60 : Int32 → Option α} {K76 : Unit → Option α} {v2 v4 : Int32} : L_X12_keepsScene_20 K60 K76 ka sa ce (nI l) v2 (nI c) v4 gF 0 = if 5 ≤ kd then (match fst1 (fun i => decide (L.2.2.1 i = c)) L.1 with
    | some i => K60 (nI i)
    | none => K76 ()) else K76 () := by
  by_cases e : 5 ≤ kd
  · rw [if_pos e]
    refine gfirst (fun n k => L_X12_keepsScene_20 K60 K76 ka sa ce (nI l) v2 (nI c) v4 n (nI k)) (fun i => K60 (nI i)) (K76 ()) L.1 (fun i => decide (L.2.2.1 i = c)) (fun n => ?_) (fun n k hk2 => ?_) gF 0 (by unfold gF; omega) (Nat.zero_le _) (fun j hj => by omega)
    · show L_X12_keepsScene_20 K60 K76 ka sa ce (nI l) v2 (nI c) v4 (n + 1) (nI L.1) = _
      rw [L_X12_keepsScene_20.eq_2, gix_ok hl (by decide), nI_clamp (show l < 2 ^ 31 by omega), hsa, if_pos (nI_le (Nat.le_refl _) (by omega))]
    · have h3 := hx36 k hk2
      show L_X12_keepsScene_20 K60 K76 ka sa ce (nI l) v2 (nI c) v4 (n + 1) (nI k) = _
      rw [L_X12_keepsScene_20.eq_2, gix_ok hl (by decide), nI_clamp (show l < 2 ^ 31 by omega), hsa, if_neg (by rw [nI_leI (by omega) (by omega)]; omega), gix_ok hl (by decide), hka, if_neg (show ¬ nI kd < 5 from nI_nlt (b := 5) e (by omega)), i9, nI_add, gix_ok (show 9 * l + k < 54 by omega) (by decide), nI_clamp (show 9 * l + k < 2 ^ 31 by omega), (he k hk2).2.1, nI_1]
      by_cases e2 : L.2.2.1 k = c
      · rw [if_pos (by rw [e2])]
        simp [e2]
      · rw [if_neg (by rw [nI_eq (by omega) (by omega)]; exact e2)]
        simp [e2]
  · rw [if_neg e, show gF = 999 + 1 from rfl, L_X12_keepsScene_20.eq_2, gix_ok hl (by decide), nI_clamp (show l < 2 ^ 31 by omega), gix_ok hl (by decide), hka]
    by_cases e2 : sa l ≤ 0
    · rw [if_pos e2]
    · rw [if_neg e2, if_pos (show nI kd < 5 from nI_lt (b := 5) (by omega) (by decide))]
theorem keep_x {l kd m p c : Nat} {L : ScL} (hl : l < 6) (hk : kd < 7) (hka : ka l = nI kd) (hL : LOK kd m L) (hsa : sa l = nI L.1) (he : encR wh ce mi l L) (hc : c < 36) : ∃ sa' wh' ce' mi', f_X12_keepsScene ka sa wh ce mi (nI (m + 1)) (nI l) (nI p) (nI c) = some (sa', wh', ce', mi') ∧ sa' l = nI (kpL kd p c (m + 1) L).1 ∧ (∀ j, j ≠ l → sa' j = sa j) ∧ encR wh' ce' mi' l (kpL kd p c (m + 1) L) ∧ ∀ j, (j < 9 * l ∨ 9 * l + 9 ≤ j) → wh' j = wh j ∧ ce' j = ce j ∧ mi' j = mi j := by
  have k9 := keepN_le kd
  have l1 := hL.1
  have hko : f_X12_keepsOf (nI kd) = some (nI (keepN kd)) := by
    rcases k7 hk with g | g | g | g | g | g | g <;> rw [g] <;> decide
  unfold f_X12_keepsScene
  simp only [gix_ok hl (show 6 < 2 ^ 31 by decide), nI_clamp (show l < 2 ^ 31 by omega), hka]
  rw [hko]
  simp only [obs]
  unfold kpL
  by_cases e2 : kd = 2
  · rw [if_pos e2, if_pos (show nI (keepN kd) = 0 by rw [e2]; rfl)]
    exact ⟨sa, wh, ce, mi, rfl, hsa, fun _ _ => rfl, he, fun _ _ => ⟨rfl, rfl, rfl⟩⟩
  · have hkp : 0 < keepN kd := by
      unfold keepN
      rw [if_neg e2]
      split <;> omega
    rw [if_neg e2, if_neg (nI_ne0 hkp (by omega)), find_x hl hk (by omega) (fun k hk2 => (hL.2.1 k hk2).2.1) hka hsa he hc]
    have L1 := hL.dp (c := c)
    have same : ∀ L', L' = L → ∃ sa' wh' ce' mi', ((if sa l = nI (keepN kd) then (f_X12_takesOut sa wh ce mi (nI l) 0).bind fun o90 => some (o90.1, o90.2.1, o90.2.2.1, o90.2.2.2) else some (sa, wh, ce, mi) : Option ((Nat → Int32) × (Nat → Int32) × (Nat → Int32) × (Nat → Int32))).bind fun j84 => (f_X12_isNameless (nI kd)).bind fun o118 => gix ((9 * nI l) + (j84.1 l)) 54 (gix ((9 * nI l) + (j84.1 l)) 54 (gix ((9 * nI l) + (j84.1 l)) 54 (some (upd j84.1 l ((j84.1 l) + 1), upd j84.2.1 ((9 * nI l) + (j84.1 l)).toNatClampNeg (if o118 = 0 then nI p else 9), upd j84.2.2.1 ((9 * nI l) + (j84.1 l)).toNatClampNeg (nI c), upd j84.2.2.2 ((9 * nI l) + (j84.1 l)).toNatClampNeg (nI (m + 1))))))) = some (sa', wh', ce', mi') ∧ sa' l = nI (adL kd p c (m + 1) (d0L kd L')).1 ∧ (∀ j, j ≠ l → sa' j = sa j) ∧ encR wh' ce' mi' l (adL kd p c (m + 1) (d0L kd L')) ∧ ∀ j, (j < 9 * l ∨ 9 * l + 9 ≤ j) → wh' j = wh j ∧ ce' j = ce j ∧ mi' j = mi j := by
      intro L' e
      rw [e]
      exact tail_x hl hk e2 hL hsa he
    by_cases e5 : 5 ≤ kd
    · rw [if_pos e5]
      cases hq : fst1 (fun i => decide (L.2.2.1 i = c)) L.1 with
      | none =>
        exact same (dpL kd c L) (by unfold dpL; rw [if_pos e5, hq])
      | some i =>
        have hi2 := (fst1_some hq).1
        have ed : dpL kd c L = dropL L i := by unfold dpL; rw [if_pos e5, hq]
        rw [ed] at L1 ⊢
        obtain ⟨wb, cb, mb, b1, b2, b3⟩ := take_x (wh := wh) (ce := ce) (mi := mi) hl (by omega) hi2 hsa he
        obtain ⟨sa', wh', ce', mi', c1, c2, c3, c4, c5⟩ := tail_x (sa := upd sa l (nI (dropL L i).1)) (wh := wb) (ce := cb) (mi := mb) (p := p) (c := c) hl hk e2 L1 upd_s b2
        refine ⟨sa', wh', ce', mi', ?_, c2, fun j hj => (c3 j hj).trans (upd_n hj), c4, fun j hj => ?_⟩
        · show ((f_X12_takesOut sa wh ce mi (nI l) (nI i)).bind _) = _
          rw [b1]
          simp only [obs]
          exact c1
        · have a1 := c5 j hj
          have a2 := b3 j hj
          exact ⟨a1.1.trans a2.1, a1.2.1.trans a2.2.1, a1.2.2.trans a2.2.2⟩
    · rw [if_neg e5]
      exact same (dpL kd c L) (by unfold dpL; rw [if_neg e5])
/-! all lamps of a town keep -/
def lsT (T : TS) (l : Nat) : ScL := (tS T l, tw T l, tx T l, tm T l)
def stT (T : TS) (g : Nat → ScL) : TS := (T.1, T.2.1, T.2.2.1, T.2.2.2.1, T.2.2.2.2.1, (fun l => (g l).1), (fun l => (g l).2.1), (fun l => (g l).2.2.1), (fun l => (g l).2.2.2), T.2.2.2.2.2.2.2.2.2)
def kpG (T : TS) (p c k l : Nat) : ScL := if (decide (l < k) && (tL T l && tG T l c)) = true then kpL (tK T l) p c (tM T) (lsT T l) else lsT T l
theorem kpG_0 (T : TS) (p c : Nat) : stT T (kpG T p c 0) = T := by
  have e : kpG T p c 0 = lsT T := by
    funext l
    unfold kpG
    simp
  rw [e]
  rfl
theorem kpG_ne (T : TS) (p c k l : Nat) (h : l ≠ k) : kpG T p c (k + 1) l = kpG T p c k l := by
  unfold kpG
  have e : (l < k + 1) ↔ (l < k) := by omega
  simp only [e]
theorem kpG_k (T : TS) (p c k : Nat) : kpG T p c k k = lsT T k := by
  unfold kpG
  simp
theorem kpG_at (T : TS) (p c k : Nat) (h : (tL T k && tG T k c) = true) : kpG T p c (k + 1) k = kpL (tK T k) p c (tM T) (lsT T k) := by
  unfold kpG
  rw [h]
  simp
theorem kpG_no (T : TS) (p c k : Nat) (h : (tL T k && tG T k c) = false) : kpG T p c (k + 1) = kpG T p c k := by
  funext l
  by_cases e : l = k
  · rw [e, kpG_k]
    unfold kpG
    rw [h]
    simp
  · exact kpG_ne T p c k l e
theorem TOK.sct {T : TS} (h : TOK T) {g : Nat → ScL} (hg : ∀ l, l < tn T → LOK (tK T l) (tM T) (g l)) : TOK (stT T g) := by
  obtain ⟨h1, h2, h3, h4, h5, h6, h7⟩ := h
  refine ⟨h1, h2, h3, h4, h5, h6, fun l hl => ?_⟩
  obtain ⟨k1, k2, k3, -⟩ := h7 l hl
  obtain ⟨g1, g2, g3⟩ := hg l hl
  exact ⟨k1, k2, k3, g1, g2, g3⟩
theorem kpG_ok {T : TS} {p c m : Nat} (hp : p < 10) (hc : c < 36) (hm : tM T = m + 1) (hs : ∀ l, l < tn T → LOK (tK T l) m (lsT T l)) (k l : Nat) (hl : l < tn T) : LOK (tK T l) (tM T) (kpG T p c k l) := by
  unfold kpG
  rw [hm]
  split
  · exact (hs l hl).kp hp hc
  · exact (hs l hl).mono (by omega)
theorem CT.lkeep {a la1 pa t : Nat} {T : TS} {fl : Nat → Option Nat} {pf : Nat → Int32} {LA SA : Nat → Nat} {sf : Nat → Nat → Int32} (h : CT gv a T la1 pa fl pf LA SA sf) (hO : OWN ow t a la1 pa LA SA (tn T)) (hT : TOK T) {p c m : Nat} (hp : p < 10) (hc : c < 36) (hm : tM T = m + 1) (hs : ∀ l, l < tn T → LOK (tK T l) m (lsT T l)) : ∃ gv' sf', f_X10_lampsKeep gv a (nI p) (nI c) = some gv' ∧ CT gv' a (stT T (kpG T p c (tn T))) la1 pa fl pf LA SA sf' ∧ Off gv gv' ow t := by
  have hn : tn T ≤ 6 := hT.2.2.1
  have h99 : tM T ≤ 9999 := hT.2.2.2.2.1
  unfold f_X10_lampsKeep
  have main := gloop (σ := Nat → GV) (ρ := Option (Nat → GV)) (fun n k s => L_X10_lampsKeep_2 (fun x2_60 => some x2_60) a (nI p) (nI c) n (nI k) s) (tn T) (fun k g => ∃ sfk, CT g a (stT T (kpG T p c k)) la1 pa fl pf LA SA sfk ∧ Off gv g ow t) (fun res => ∃ gv' sf', res = some gv' ∧ CT gv' a (stT T (kpG T p c (tn T))) la1 pa fl pf LA SA sf' ∧ Off gv gv' ow t) ?_ ?_ gF 0 gv (by unfold gF; omega) (Nat.zero_le _) ⟨sf, by rw [kpG_0]; exact h, Off.rf⟩
  · exact main
  · rintro n g ⟨sfk, a1, a2⟩
    refine ⟨g, sfk, ?_, a1, a2⟩
    have f3 : gfI g a [8] 3 = some (nI (tn T)) := a1.f3
    show L_X10_lampsKeep_2 _ a _ _ (n + 1) (nI (tn T)) g = _
    rw [L_X10_lampsKeep_2.eq_2, f3]
    simp only [obs]
    rw [if_pos (nI_le (Nat.le_refl _) (by omega))]
  · rintro n k g hk ⟨sfk, a1, a2⟩
    right
    have Tk := hT.sct (kpG_ok hp hc hm hs k)
    have f3 : gfI g a [8] 3 = some (nI (tn T)) := a1.f3
    have f5 : gfI g a [8] 5 = some (nI (tM T)) := a1.f5
    have hk7 := (hT.2.2.2.2.2.2 k hk).1
    have hla : f_X10_lampAt g a (nI k) = some (some (LA k)) := a1.lampAt Tk hk
    have hgl : fv_X5_glow g (LA k) (some a) = some (lN (bm (tG T k) 36)) := a1.glow Tk hk
    have hlp : Lp g (LA k) (SA k) (tK T k) (tC T k) (tR T k) (tL T k) (kpG T p c k k).1 (sfk k) := a1.lp hk
    have hen : encL (sfk k) (kpG T p c k k) := (a1.2.2.2.2 k hk).2.2
    rw [kpG_k] at hlp hen
    have stay : (tL T k && tG T k c) = false → L_X10_lampsKeep_2 (fun x2_60 => some x2_60) a (nI p) (nI c) (n + 1) (nI k) g = L_X10_lampsKeep_2 (fun x2_60 => some x2_60) a (nI p) (nI c) n (nI (k + 1)) g → ∃ s', L_X10_lampsKeep_2 (fun x2_60 => some x2_60) a (nI p) (nI c) (n + 1) (nI k) g = L_X10_lampsKeep_2 (fun x2_60 => some x2_60) a (nI p) (nI c) n (nI (k + 1)) s' ∧ ∃ sfk, CT s' a (stT T (kpG T p c (k + 1))) la1 pa fl pf LA SA sfk ∧ Off gv s' ow t := fun e1 e2 => ⟨g, e2, sfk, by rw [kpG_no T p c k e1]; exact a1, a2⟩
    have unf : L_X10_lampsKeep_2 (fun x2_60 => some x2_60) a (nI p) (nI c) (n + 1) (nI k) g = ((if (if tL T k = true then (1 : Int32) else 0) = 0 then some g else if (if tG T k c = true then (1 : Int32) else 0) = 0 then some g else (fv_X5_keep g (LA k) (nI p) (nI c) (nI (tM T))).bind fun o51 => some o51 : Option (Nat → GV)).bind fun j19 => L_X10_lampsKeep_2 (fun x2_60 => some x2_60) a (nI p) (nI c) n (nI (k + 1)) j19) := by
      rw [L_X10_lampsKeep_2.eq_2, f3]
      simp only [obs]
      rw [if_neg (by rw [nI_leI (by omega) (by omega)]; omega), a1.o]
      simp only [obs]
      rw [hla]
      simp only [obs, hlp.f2, hgl]
      rw [has_b hc, f5, nI_1]
      simp only [obs]
    cases hL : tL T k with
    | false =>
      refine stay (by rw [hL]; rfl) ?_
      rw [unf, hL, if_pos (show (if false = true then (1 : Int32) else 0) = 0 by decide)]
      simp only [obs]
    | true =>
      cases hG : tG T k c with
      | false =>
        refine stay (by rw [hL, hG]; rfl) ?_
        rw [unf, hL, hG, if_neg (show ¬ (if true = true then (1 : Int32) else 0) = 0 by decide), if_pos (show (if false = true then (1 : Int32) else 0) = 0 by decide)]
        simp only [obs]
      | true =>
        have hon : (tL T k && tG T k c) = true := by rw [hL, hG]; rfl
        obtain ⟨g', f', b1, b2, b3, b4⟩ := keep_c hlp hk7 (hs k hk) (by omega) hen hc hp
        rw [← hm] at b1 b2 b3
        refine ⟨g', ?_, _, a1.set (T' := stT T (kpG T p c (k + 1))) hO hk b4 (sf' := f') ?_ ?_ ⟨rfl, rfl, rfl, rfl, rfl⟩ (fun j hj => ?_), a2.tr (hO.off hn hk b4)⟩
        · show L_X10_lampsKeep_2 (fun x2_60 => some x2_60) a (nI p) (nI c) (n + 1) (nI k) g = L_X10_lampsKeep_2 (fun x2_60 => some x2_60) a (nI p) (nI c) n (nI (k + 1)) g'
          rw [unf, hL, hG, if_neg (show ¬ (if true = true then (1 : Int32) else 0) = 0 by decide), if_neg (show ¬ (if true = true then (1 : Int32) else 0) = 0 by decide), b1]
          simp only [obs]
        · show Lp g' (LA k) (SA k) (tK T k) (tC T k) (tR T k) (tL T k) (kpG T p c (k + 1) k).1 f'
          rw [kpG_at T p c k hon]
          exact b2
        · show encL f' (kpG T p c (k + 1) k)
          rw [kpG_at T p c k hon]
          exact b3
        · have e := kpG_ne T p c k j hj
          refine ⟨rfl, rfl, rfl, rfl, ?_, ?_, ?_, ?_⟩
          · show (kpG T p c (k + 1) j).1 = (kpG T p c k j).1
            rw [e]
          · show (kpG T p c (k + 1) j).2.1 = (kpG T p c k j).2.1
            rw [e]
          · show (kpG T p c (k + 1) j).2.2.1 = (kpG T p c k j).2.2.1
            rw [e]
          · show (kpG T p c (k + 1) j).2.2.2 = (kpG T p c k j).2.2.2
            rw [e]
theorem xlkeep {T : TS} (hT : TOK T) (hR : RT T wa ka la ra li sa wh ce mi st) (hlb : LitRow T lb) {p c m : Nat} (hp : p < 10) (hc : c < 36) (hm : tM T = m + 1) (hs : ∀ l, l < tn T → LOK (tK T l) m (lsT T l)) {α : Type} {K : ((Nat → Int32) × (Nat → Int32) × (Nat → Int32) × (Nat → Int32)) → Option α} : ∃ sa' wh' ce' mi', L_X12_stepsTo_23 K ka li (nI (tn T)) (nI (tM T)) lb (nI p) (nI c) gF 0 sa wh ce mi = K (sa', wh', ce', mi') ∧ RT (stT T (kpG T p c (tn T))) wa ka la ra li sa' wh' ce' mi' st := by
  have hn : tn T ≤ 6 := hT.2.2.1
  refine gloop (σ := (Nat → Int32) × (Nat → Int32) × (Nat → Int32) × (Nat → Int32)) (ρ := Option α) (fun n k s => L_X12_stepsTo_23 K ka li (nI (tn T)) (nI (tM T)) lb (nI p) (nI c) n (nI k) s.1 s.2.1 s.2.2.1 s.2.2.2) (tn T) (fun k s => RT (stT T (kpG T p c k)) wa ka la ra li s.1 s.2.1 s.2.2.1 s.2.2.2 st) (fun res => ∃ sa' wh' ce' mi', res = K (sa', wh', ce', mi') ∧ RT (stT T (kpG T p c (tn T))) wa ka la ra li sa' wh' ce' mi' st) ?_ ?_ gF 0 (sa, wh, ce, mi) (by unfold gF; omega) (Nat.zero_le _) (by rw [kpG_0]; exact hR)
  · intro n s hI
    refine ⟨s.1, s.2.1, s.2.2.1, s.2.2.2, ?_, hI⟩
    show L_X12_stepsTo_23 K ka li _ _ lb _ _ (n + 1) (nI (tn T)) _ _ _ _ = _
    rw [L_X12_stepsTo_23.eq_2, if_pos (nI_le (Nat.le_refl _) (by omega))]
  · intro n k s hk hI
    right
    obtain ⟨q1, q2, q3, q4, q5, q6⟩ := hI.2.2 k hk
    have q1 : ka k = nI (tK T k) := q1
    have q4 : li k = if tL T k = true then 1 else 0 := q4
    have q5 : s.1 k = nI (kpG T p c k k).1 := q5
    have q6 : encR s.2.1 s.2.2.1 s.2.2.2 k (kpG T p c k k) := q6
    rw [kpG_k] at q5 q6
    have hk7 := (hT.2.2.2.2.2.2 k hk).1
    have unf : ∀ n, L_X12_stepsTo_23 K ka li (nI (tn T)) (nI (tM T)) lb (nI p) (nI c) (n + 1) (nI k) s.1 s.2.1 s.2.2.1 s.2.2.2 = ((if (if tL T k = true then (1 : Int32) else 0) = 1 then (if (if tG T k c = true then (1 : Int32) else 0) = 0 then some (s.1, s.2.1, s.2.2.1, s.2.2.2) else (f_X12_keepsScene ka s.1 s.2.1 s.2.2.1 s.2.2.2 (nI (tM T)) (nI k) (nI p) (nI c)).bind fun o58 => some (o58.1, o58.2.1, o58.2.2.1, o58.2.2.2)) else some (s.1, s.2.1, s.2.2.1, s.2.2.2) : Option ((Nat → Int32) × (Nat → Int32) × (Nat → Int32) × (Nat → Int32))).bind fun j38 => L_X12_stepsTo_23 K ka li (nI (tn T)) (nI (tM T)) lb (nI p) (nI c) n (nI (k + 1)) j38.1 j38.2.1 j38.2.2.1 j38.2.2.2) := by
      intro n
      rw [L_X12_stepsTo_23.eq_2, if_neg (by rw [nI_leI (by omega) (by omega)]; omega), gix_ok (show k < 6 by omega) (by decide), nI_clamp (show k < 2 ^ 31 by omega), q4, gix_ok hc (by decide), nI_clamp (show c < 2 ^ 31 by omega), hlb c hc, xhas_ok (bm_i (by omega)) (by omega), bm_tb, nI_1]
      simp only [hk, decide_true, Bool.true_and, obs]
    have stay : (tL T k && tG T k c) = false → RT (stT T (kpG T p c (k + 1))) wa ka la ra li s.1 s.2.1 s.2.2.1 s.2.2.2 st := fun e1 => by rw [kpG_no T p c k e1]; exact hI
    cases hL : tL T k with
    | false =>
      refine ⟨s, ?_, stay (by rw [hL]; rfl)⟩
      show L_X12_stepsTo_23 K ka li _ _ lb _ _ (n + 1) (nI k) s.1 s.2.1 s.2.2.1 s.2.2.2 = _
      rw [unf, hL, if_neg (show ¬ (if false = true then (1 : Int32) else 0) = 1 by decide)]
      simp only [obs]
    | true =>
      cases hG : tG T k c with
      | false =>
        refine ⟨s, ?_, stay (by rw [hL, hG]; rfl)⟩
        show L_X12_stepsTo_23 K ka li _ _ lb _ _ (n + 1) (nI k) s.1 s.2.1 s.2.2.1 s.2.2.2 = _
        rw [unf, hL, hG, if_pos (show (if true = true then (1 : Int32) else 0) = 1 by decide), if_pos (show (if false = true then (1 : Int32) else 0) = 0 by decide)]
        simp only [obs]
      | true =>
        have hon : (tL T k && tG T k c) = true := by rw [hL, hG]; rfl
        obtain ⟨sa', wh', ce', mi', b1, b2, b3, b4, b5⟩ := keep_x (p := p) (show k < 6 by omega) hk7 q1 (hs k hk) q5 q6 hc
        rw [← hm] at b1 b2 b4
        refine ⟨(sa', wh', ce', mi'), ?_, hI.1, hI.2.1, fun l hl => ?_⟩
        · show L_X12_stepsTo_23 K ka li _ _ lb _ _ (n + 1) (nI k) s.1 s.2.1 s.2.2.1 s.2.2.2 = _
          rw [unf, hL, hG, if_pos (show (if true = true then (1 : Int32) else 0) = 1 by decide), if_neg (show ¬ (if true = true then (1 : Int32) else 0) = 0 by decide), b1]
          simp only [obs]
        · obtain ⟨r1, r2, r3, r4, r5, r6⟩ := hI.2.2 l hl
          refine ⟨r1, r2, r3, r4, ?_, ?_⟩
          · show sa' l = nI (kpG T p c (k + 1) l).1
            by_cases e : l = k
            · rw [e, kpG_at T p c k hon]; exact b2
            · rw [kpG_ne T p c k l e, b3 l e]; exact r5
          · show encR wh' ce' mi' l (kpG T p c (k + 1) l)
            by_cases e : l = k
            · rw [e, kpG_at T p c k hon]; exact b4
            · rw [kpG_ne T p c k l e]
              intro j hj
              have r6 : encR s.2.1 s.2.2.1 s.2.2.2 l (kpG T p c k l) := r6
              have h9 : (kpG T p c k l).1 ≤ 9 := by
                have hl' : l < tn T := hl
                have := (kpG_ok hp hc hm hs k l hl').1
                have := keepN_le (tK T l)
                omega
              have a5 := b5 (9 * l + j) (by omega)
              have a6 := r6 j hj
              exact ⟨a5.1.trans a6.1, a5.2.1.trans a6.2.1, a5.2.2.trans a6.2.2⟩
end
