/-! WHAT THE PURE SIDE IS SAID IN -/
def gF : Nat := 1000
def gix {α : Type} (i : Int32) (n : Nat) (k : Option α) : Option α := if i < 0 ∨ n ≤ i.toNatClampNeg then none else k
def gzb {α : Type} (x : Int32) (k : Option α) : Option α := if x = 0 ∨ x = 1 then k else none
theorem gb_ix {α : Type} {i : Int32} {n : Nat} {k : Option α} {r : α} (h : gix i n k = some r) : vp_in i n ∧ k = some r := by
  unfold gix at h
  by_cases q : i < 0 ∨ n ≤ i.toNatClampNeg
  · rw [if_pos q] at h; cases h
  · rw [if_neg q] at h; exact ⟨q, h⟩
theorem gb_zb {α : Type} {x : Int32} {k : Option α} {r : α} (h : gzb x k = some r) : (x = 0 ∨ x = 1) ∧ k = some r := by
  unfold gzb at h
  by_cases q : x = 0 ∨ x = 1
  · rw [if_pos q] at h; exact ⟨q, h⟩
  · rw [if_neg q] at h; cases h
theorem gb_t {α : Type} {c : Prop} [Decidable c] {A B : Option α} {r : α} (q : c) (h : (if c then A else B) = some r) : A = some r := by rw [if_pos q] at h; exact h
theorem gb_f {α : Type} {c : Prop} [Decidable c] {A B : Option α} {r : α} (q : ¬ c) (h : (if c then A else B) = some r) : B = some r := by rw [if_neg q] at h; exact h
theorem gb_b {α β : Type} {x : Option α} {k : α → Option β} {r : β} (h : x.bind k = some r) : ∃ o, x = some o ∧ k o = some r := Option.bind_eq_some_iff.mp h
abbrev GV : Type := (Nat × List Value) ⊕ ((Nat × (Nat → Int32)) ⊕ (Nat × (Nat → Option Nat)))
def gLC : List Nat := [0, 1, 2, 3, 4, 6, 7]
def gfO (gv : Nat → GV) (a : Nat) (cis : List Nat) : Option (Nat × List Value) := match gv a with
  | .inl o => if o.1 ∈ cis then some o else none
  | _ => none
def gfI (gv : Nat → GV) (a : Nat) (cis : List Nat) (k : Nat) : Option Int32 := (gfO gv a cis).bind fun o => match o.2[k]? with
  | some (.int x) => some x
  | _ => none
def gfJ (gv : Nat → GV) (a : Nat) (cis : List Nat) (k : Nat) : Option Int64 := (gfO gv a cis).bind fun o => match o.2[k]? with
  | some (.long x) => some x
  | _ => none
def gfR (gv : Nat → GV) (a : Nat) (cis : List Nat) (k : Nat) : Option (Option Nat) := (gfO gv a cis).bind fun o => match o.2[k]? with
  | some (.ref x) => some (some x)
  | some .null => some none
  | _ => none
def gpu (gv : Nat → GV) (a : Nat) (cis : List Nat) (k : Nat) (v : Value) : Option (Nat → GV) := (gfO gv a cis).bind fun o => if k < o.2.length then some (va_up gv a (.inl (o.1, o.2.set k v))) else none
def gaI (gv : Nat → GV) (a : Nat) : Option (Nat × (Nat → Int32)) := match gv a with
  | .inr (.inl o) => some o
  | _ => none
def gaR (gv : Nat → GV) (a : Nat) : Option (Nat × (Nat → Option Nat)) := match gv a with
  | .inr (.inr o) => some o
  | _ => none
def gai (gv : Nat → GV) (a : Nat) (i : Int32) : Option Int32 := (gaI gv a).bind fun o => gix i o.1 (some (o.2 i.toNatClampNeg))
def gal (gv : Nat → GV) (a : Nat) : Option Int32 := (gaI gv a).bind fun o => some (Int32.ofNat o.1)
def gas (gv : Nat → GV) (a : Nat) (i x : Int32) : Option (Nat → GV) := (gaI gv a).bind fun o => gix i o.1 (some (va_up gv a (.inr (.inl (o.1, upd o.2 i.toNatClampNeg x)))))
def gari (gv : Nat → GV) (a : Nat) (i : Int32) : Option (Option Nat) := (gaR gv a).bind fun o => gix i o.1 (some (o.2 i.toNatClampNeg))
def garl (gv : Nat → GV) (a : Nat) : Option Int32 := (gaR gv a).bind fun o => some (Int32.ofNat o.1)
/-- into a row of Lamps goes a Lamp, or null -/
def gars (gv : Nat → GV) (a : Nat) (i : Int32) (r : Option Nat) : Option (Nat → GV) := (gaR gv a).bind fun o => gix i o.1 (match r with
  | none => some (va_up gv a (.inr (.inr (o.1, va_up o.2 i.toNatClampNeg none))))
  | some v => (gfO gv v gLC).bind fun _ => some (va_up gv a (.inr (.inr (o.1, va_up o.2 i.toNatClampNeg (some v))))))
def gFb : Nat := 7
def gFt : Nat := 40
def gSl : List Nat := [5, 4, 3, 2, 0, 7]
def gSb : List (List Int32) := [[107, 100, 100, 100, 59], [100, 100, 100, 59], [100, 100, 59], [100, 59], [], [108, 100, 109, 99, 107, 111, 102]]
def gsi {α : Type} (i : Nat) (k : Option α) : Option α := if i < 6 then k else none
def gnc {α : Type} (x : Int32) (k : Option α) : Option α := if (x.toUInt32 % 65536).toInt32 = x then k else none
