/-! THE CLASS'S SIDE: what its cells hold -/
theorem gfO_of {gv : Nat → GV} {a ci : Nat} {fs : List Value} {cis : List Nat} (h : gv a = .inl (ci, fs)) (hc : ci ∈ cis) : gfO gv a cis = some (ci, fs) := by
  unfold gfO
  rw [h]
  exact if_pos hc
theorem gfI_of {gv : Nat → GV} {a ci : Nat} {fs : List Value} {cis : List Nat} {k : Nat} {x : Int32} (h : gv a = .inl (ci, fs)) (hc : ci ∈ cis) (hk : fs[k]? = some (.int x)) : gfI gv a cis k = some x := by
  unfold gfI
  rw [gfO_of h hc]
  show (match fs[k]? with
    | some (.int x) => some x
    | _ => none) = some x
  rw [hk]
theorem gfJ_of {gv : Nat → GV} {a ci : Nat} {fs : List Value} {cis : List Nat} {k : Nat} {x : Int64} (h : gv a = .inl (ci, fs)) (hc : ci ∈ cis) (hk : fs[k]? = some (.long x)) : gfJ gv a cis k = some x := by
  unfold gfJ
  rw [gfO_of h hc]
  show (match fs[k]? with
    | some (.long x) => some x
    | _ => none) = some x
  rw [hk]
theorem gfR_of {gv : Nat → GV} {a ci : Nat} {fs : List Value} {cis : List Nat} {k : Nat} {x : Nat} (h : gv a = .inl (ci, fs)) (hc : ci ∈ cis) (hk : fs[k]? = some (.ref x)) : gfR gv a cis k = some (some x) := by
  unfold gfR
  rw [gfO_of h hc]
  show (match fs[k]? with
    | some (.ref x) => some (some x)
    | some .null => some none
    | _ => none) = some (some x)
  rw [hk]
theorem gpu_of {gv : Nat → GV} {a ci : Nat} {fs : List Value} {cis : List Nat} {k : Nat} {v : Value} (h : gv a = .inl (ci, fs)) (hc : ci ∈ cis) (hk : k < fs.length) : gpu gv a cis k v = some (va_up gv a (.inl (ci, fs.set k v))) := by
  unfold gpu
  rw [gfO_of h hc]
  exact if_pos hk
theorem gaI_of {gv : Nat → GV} {a n : Nat} {f : Nat → Int32} (h : gv a = .inr (.inl (n, f))) : gaI gv a = some (n, f) := by
  unfold gaI
  rw [h]
theorem gaR_of {gv : Nat → GV} {a n : Nat} {f : Nat → Option Nat} (h : gv a = .inr (.inr (n, f))) : gaR gv a = some (n, f) := by
  unfold gaR
  rw [h]
theorem gai_of {gv : Nat → GV} {a n i : Nat} {f : Nat → Int32} (h : gv a = .inr (.inl (n, f))) (hi : i < n) (hn : n < 2 ^ 31) : gai gv a (nI i) = some (f i) := by
  unfold gai
  rw [gaI_of h]
  simp only [Option.bind_some]
  rw [gix_ok hi hn, nI_clamp (by omega)]
theorem gal_of {gv : Nat → GV} {a n : Nat} {f : Nat → Int32} (h : gv a = .inr (.inl (n, f))) : gal gv a = some (nI n) := by
  unfold gal
  rw [gaI_of h]
  rfl
theorem gas_of {gv : Nat → GV} {a n i : Nat} {f : Nat → Int32} {x : Int32} (h : gv a = .inr (.inl (n, f))) (hi : i < n) (hn : n < 2 ^ 31) : gas gv a (nI i) x = some (va_up gv a (.inr (.inl (n, upd f i x)))) := by
  unfold gas
  rw [gaI_of h]
  simp only [Option.bind_some]
  rw [gix_ok hi hn, nI_clamp (by omega)]
theorem gari_of {gv : Nat → GV} {a n i : Nat} {f : Nat → Option Nat} (h : gv a = .inr (.inr (n, f))) (hi : i < n) (hn : n < 2 ^ 31) : gari gv a (nI i) = some (f i) := by
  unfold gari
  rw [gaR_of h]
  simp only [Option.bind_some]
  rw [gix_ok hi hn, nI_clamp (by omega)]
theorem garl_of {gv : Nat → GV} {a n : Nat} {f : Nat → Option Nat} (h : gv a = .inr (.inr (n, f))) : garl gv a = some (nI n) := by
  unfold garl
  rw [gaR_of h]
  rfl
theorem gars_0 {gv : Nat → GV} {a n i : Nat} {f : Nat → Option Nat} (h : gv a = .inr (.inr (n, f))) (hi : i < n) (hn : n < 2 ^ 31) : gars gv a (nI i) none = some (va_up gv a (.inr (.inr (n, va_up f i none)))) := by
  unfold gars
  rw [gaR_of h]
  simp only [Option.bind_some]
  rw [gix_ok hi hn, nI_clamp (by omega)]
theorem gars_1 {gv : Nat → GV} {a n i x ci : Nat} {fs : List Value} {f : Nat → Option Nat} (h : gv a = .inr (.inr (n, f))) (hi : i < n) (hn : n < 2 ^ 31) (hx : gv x = .inl (ci, fs)) (hc : ci ∈ gLC) : gars gv a (nI i) (some x) = some (va_up gv a (.inr (.inr (n, va_up f i (some x))))) := by
  unfold gars
  rw [gaR_of h]
  simp only [Option.bind_some]
  rw [gix_ok hi hn, nI_clamp (by omega), gfO_of hx hc]
  rfl
/-- the class of a kind's lamps -/
def kc (k : Nat) : Nat := match k with
  | 0 => 4
  | 1 => 2
  | 2 => 6
  | 3 => 1
  | 4 => 0
  | 5 => 7
  | _ => 3
theorem kc_in (k : Nat) : kc k ∈ gLC := by
  unfold kc
  split <;> decide
theorem k7 {k : Nat} (h : k < 7) : k = 0 ∨ k = 1 ∨ k = 2 ∨ k = 3 ∨ k = 4 ∨ k = 5 ∨ k = 6 := by omega
/-- a lamp: its object, its row of scenes -/
def Lp (gv : Nat → GV) (x q k c r : Nat) (l : Bool) (s : Nat) (f : Nat → Int32) : Prop := gv x = .inl (kc k, [.int (nI c), .int (nI r), .int (if l = true then 1 else 0), .int (nI s), .ref q]) ∧ gv q = .inr (.inl (9, f))
section
variable {gv : Nat → GV} {x q k c r s : Nat} {l : Bool} {f : Nat → Int32}
theorem Lp.f0 (h : Lp gv x q k c r l s f) : gfI gv x gLC 0 = some (nI c) := gfI_of h.1 (kc_in k) rfl
theorem Lp.f1 (h : Lp gv x q k c r l s f) : gfI gv x gLC 1 = some (nI r) := gfI_of h.1 (kc_in k) rfl
theorem Lp.f2 (h : Lp gv x q k c r l s f) : gfI gv x gLC 2 = some (if l = true then 1 else 0) := gfI_of h.1 (kc_in k) rfl
theorem Lp.f3 (h : Lp gv x q k c r l s f) : gfI gv x gLC 3 = some (nI s) := gfI_of h.1 (kc_in k) rfl
theorem Lp.f4 (h : Lp gv x q k c r l s f) : gfR gv x gLC 4 = some (some q) := gfR_of h.1 (kc_in k) rfl
theorem Lp.fO (h : Lp gv x q k c r l s f) : gfO gv x gLC = some (kc k, [.int (nI c), .int (nI r), .int (if l = true then 1 else 0), .int (nI s), .ref q]) := gfO_of h.1 (kc_in k)
theorem Lp.kind (h : Lp gv x q k c r l s f) (hk : k < 7) : fv_X5_kind gv x = some (nI k) := by
  unfold fv_X5_kind
  rw [h.fO]
  rcases k7 hk with rfl | rfl | rfl | rfl | rfl | rfl | rfl <;> rfl
theorem Lp.room (h : Lp gv x q k c r l s f) (hk : k < 7) : fv_X5_room gv x = some (nI (keepN k)) := by
  unfold fv_X5_room
  rw [h.fO]
  rcases k7 hk with rfl | rfl | rfl | rfl | rfl | rfl | rfl <;> rfl
theorem Lp.sceneAt (h : Lp gv x q k c r l s f) (hs : s ≤ 9) {i : Nat} (hi : i < s) : fv_X5_sceneAt gv x (nI i) = some (f i) := by
  unfold fv_X5_sceneAt
  rw [h.fO]
  simp only [Option.bind_some]
  unfold f_X5_sceneAt
  have n1 : ¬ nI i < 0 := nI_pos (by omega)
  have n2 : ¬ nI s ≤ nI i := by rw [nI_leI (by omega) (by omega)]; omega
  have n3 : ¬ nI 9 ≤ nI i := by rw [nI_leI (by omega) (by omega)]; omega
  simp only [n1, n2, n3, h.f3, h.f4, gal_of h.2, gai_of h.2 (show i < 9 by omega) (by decide), if_false, Option.bind_some]
/-- its scenes as numbers -/
def Sc (f : Nat → Int32) (s : Nat) (w x m : Nat → Nat) : Prop := s ≤ 9 ∧ ∀ k, k < s → f k = nI (m k * 1000 + x k * 10 + w k) ∧ w k < 10 ∧ x k < 36 ∧ m k ≤ 9999
theorem Lp.place {w y m : Nat → Nat} (h : Lp gv x q k c r l s f) (hs : Sc f s w y m) {t : Nat} (ht : t < 2 ^ 31) : fv_X5_placeOfMinute gv x (nI t) = some (fI (fun i => decide (m i = t)) s) := by
  unfold fv_X5_placeOfMinute
  rw [h.fO]
  simp only [Option.bind_some]
  unfold f_X5_placeOfMinute fI
  have hs9 := hs.1
  have := gfirst (fun n k => L_X5_placeOfMinute_2 (fun x2_22 => some x2_22) (fun x2_30 => some (-9 : Int32)) gv x (nI t) n (nI k)) (fun i => some (nI i)) (some (-9)) s (fun i => decide (m i = t)) (fun n => by
    show L_X5_placeOfMinute_2 _ _ gv x (nI t) (n + 1) (nI s) = _
    rw [L_X5_placeOfMinute_2.eq_2, h.f3]
    simp only [Option.bind_some]
    rw [if_pos (nI_le (Nat.le_refl s) (by omega))]) (fun n k hk => by
    obtain ⟨e1, e2, e3, e4⟩ := hs.2 k hk
    show L_X5_placeOfMinute_2 _ _ gv x (nI t) (n + 1) (nI k) = _
    rw [L_X5_placeOfMinute_2.eq_2, h.f3]
    simp only [Option.bind_some]
    rw [if_neg (by rw [nI_leI (by omega) (by omega)]; omega), h.sceneAt hs9 hk, e1]
    simp only [Option.bind_some, nI_1]
    rw [scn_min e2 e4 (by omega)]
    simp only [Option.bind_some]
    by_cases e : m k = t
    · rw [if_pos (show nI (m k) = nI t by rw [e])]
      simp [e]
    · rw [if_neg (show ¬ nI (m k) = nI t by rw [nI_eq (by omega) ht]; exact e)]
      simp [e]) gF 0 (by unfold gF; omega) (Nat.zero_le _) (fun j hj => by omega)
  refine this.trans ?_
  cases fst1 (fun i => decide (m i = t)) s <;> rfl
theorem fI_cas (p : Nat → Bool) (n : Nat) : (∃ i, i < n ∧ p i = true ∧ fst1 p n = some i ∧ fI p n = nI i) ∨ (fst1 p n = none ∧ fI p n = -9) := by
  cases hq : fst1 p n with
  | some i => exact Or.inl ⟨i, (fst1_some hq).1, (fst1_some hq).2.1, rfl, by unfold fI; rw [hq]⟩
  | none => exact Or.inr ⟨rfl, by unfold fI; rw [hq]⟩
/-- whether it saw one at a minute -/
def sawB (s : Nat) (w m : Nat → Nat) (t p : Nat) : Bool := match fst1 (fun i => decide (m i = t)) s with
  | some i => decide (w i = p)
  | none => false
def hasB (s : Nat) (w y m : Nat → Nat) (t p e : Nat) : Bool := match fst1 (fun i => decide (m i = t)) s with
  | some i => decide (w i = p ∧ y i = e)
  | none => false
theorem Lp.sawAt {w y m : Nat → Nat} (h : Lp gv x q k c r l s f) (hs : Sc f s w y m) {t p : Nat} (ht : t < 2 ^ 31) (hp : p < 10) : fv_X5_sawAt gv x (nI p) (nI t) = some (if sawB s w m t p = true then 1 else 0) := by
  unfold fv_X5_sawAt
  rw [h.fO]
  simp only [Option.bind_some]
  unfold f_X5_sawAt sawB
  rw [h.place hs ht]
  simp only [Option.bind_some]
  rcases fI_cas (fun i => decide (m i = t)) s with ⟨i, e1, e2, e3, e4⟩ | ⟨e3, e4⟩
  · obtain ⟨d1, d2, d3, d4⟩ := hs.2 i e1
    have hs9 := hs.1
    rw [e3, e4, if_neg (nI_pos (by omega)), h.sceneAt hs.1 e1, d1]
    simp only [Option.bind_some]
    rw [scn_who d2 d4 (by omega)]
    simp only [Option.bind_some]
    by_cases e : w i = p
    · rw [if_pos (show nI (w i) = nI p by rw [e])]
      simp [e, gzb_1]
    · rw [if_neg (show ¬ nI (w i) = nI p by rw [nI_eq (by omega) (by omega)]; exact e)]
      simp [e, gzb_0]
  · rw [e3, e4, if_pos (by decide)]
    simp [gzb_0]
theorem Lp.hasScene {w y m : Nat → Nat} (h : Lp gv x q k c r l s f) (hs : Sc f s w y m) {t p e : Nat} (ht : t ≤ 9999) (hp : p < 10) (he : e < 36) : fv_X5_hasScene gv x (nI (t * 1000 + e * 10 + p)) = some (if hasB s w y m t p e = true then 1 else 0) := by
  unfold fv_X5_hasScene
  rw [h.fO]
  simp only [Option.bind_some]
  unfold f_X5_hasScene hasB
  rw [scn_min hp ht (by omega)]
  simp only [Option.bind_some]
  rw [h.place hs (by omega)]
  simp only [Option.bind_some]
  rcases fI_cas (fun i => decide (m i = t)) s with ⟨i, e1, e2, e3, e4⟩ | ⟨e3, e4⟩
  · obtain ⟨d1, d2, d3, d4⟩ := hs.2 i e1
    have hs9 := hs.1
    have hm : m i = t := by simpa using e2
    rw [e3, e4, if_neg (nI_pos (by omega)), h.sceneAt hs.1 e1, d1]
    simp only [Option.bind_some]
    by_cases g : w i = p ∧ y i = e
    · rw [if_pos (show nI (m i * 1000 + y i * 10 + w i) = nI (t * 1000 + e * 10 + p) by rw [hm, g.1, g.2])]
      simp [g.1, g.2, gzb_1]
    · rw [if_neg (show ¬ nI (m i * 1000 + y i * 10 + w i) = nI (t * 1000 + e * 10 + p) by rw [nI_eq (by omega) (by omega)]; omega)]
      simp [g, gzb_0]
  · rw [e3, e4, if_pos (by decide)]
    simp [gzb_0]
/-- the people in its scenes, as bits -/
def seenN (s : Nat) (w : Nat → Nat) : Nat := match s with
  | 0 => 0
  | n + 1 => seenN n w ||| (if w n = 9 then 0 else 2 ^ w n)
theorem Lp.everSeen {w y m : Nat → Nat} (h : Lp gv x q k c r l s f) (hs : Sc f s w y m) : fv_X5_everSeen gv x = some (nI (seenN s w)) := by
  unfold fv_X5_everSeen
  rw [h.fO]
  simp only [Option.bind_some]
  unfold f_X5_everSeen
  have hs9 := hs.1
  refine gfold (σ := Int32) (ρ := Option Int32) (fun n k z => L_X5_everSeen_4 (fun x4_39 => some x4_39) gv x n z (nI k)) some s (fun k => nI (seenN k w)) ?_ ?_ gF 0 (by unfold gF; omega) (Nat.zero_le _)
  · intro n
    show L_X5_everSeen_4 _ gv x (n + 1) _ (nI s) = _
    rw [L_X5_everSeen_4.eq_2, h.f3]
    simp only [Option.bind_some]
    rw [if_pos (nI_le (Nat.le_refl s) (by omega))]
  · intro n k hk
    obtain ⟨e1, e2, e3, e4⟩ := hs.2 k hk
    show L_X5_everSeen_4 _ gv x (n + 1) (nI (seenN k w)) (nI k) = L_X5_everSeen_4 _ gv x n (nI (seenN (k + 1) w)) (nI (k + 1))
    rw [L_X5_everSeen_4.eq_2, h.f3]
    simp only [Option.bind_some]
    rw [if_neg (by rw [nI_leI (by omega) (by omega)]; omega), h.sceneAt hs9 hk, e1]
    simp only [Option.bind_some, nI_1]
    rw [scn_who e2 e4 (by omega)]
    simp only [Option.bind_some]
    have hse : seenN (k + 1) w = seenN k w ||| (if w k = 9 then 0 else 2 ^ w k) := rfl
    rw [hse, ← i_or]
    by_cases e : w k = 9
    · rw [if_pos (show nI (w k) = 9 by rw [e]; rfl), if_pos e]
      simp only [Option.bind_some]
      rw [show nI 0 = (0 : Int32) from rfl, Int32.or_zero]
    · rw [if_neg (show ¬ nI (w k) = 9 by rw [show (9 : Int32) = nI 9 from rfl, nI_eq (by omega) (by decide)]; exact e), if_neg e, sh1 (by omega)]
      simp only [Option.bind_some]
theorem Lp.sceneShown (h : Lp gv x q k c r l s f) (hs : s ≤ 9) (hk : k < 7) {i : Nat} (hi : i < s) : fv_X5_sceneShown gv x (nI i) = some (f (if k = 6 then i else s - 1 - i)) := by
  unfold fv_X5_sceneShown
  rw [h.fO]
  simp only [Option.bind_some]
  unfold f_X5_sceneShown
  have hsh : fv_X5_showsOldestFirst gv x = some (if k = 6 then 1 else 0) := by
    unfold fv_X5_showsOldestFirst
    rw [h.fO]
    rcases k7 hk with rfl | rfl | rfl | rfl | rfl | rfl | rfl <;> rfl
  rw [hsh]
  simp only [Option.bind_some, h.f3]
  by_cases e : k = 6
  · rw [if_pos e, if_pos e, if_neg (by decide)]
    simp only [Option.bind_some]
    rw [h.sceneAt hs hi]
    rfl
  · rw [if_neg e, if_neg e, if_pos rfl]
    simp only [Option.bind_some]
    rw [nI_s1 (by omega), pk_sub (by omega), h.sceneAt hs (by omega)]
    rfl
end
