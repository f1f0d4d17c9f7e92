/-! THE CLASS'S OWN SIDE: what a cell holds, without class numbers of rows -/
def gE (cI cL : ClassId) : GV → va_E := fun v => match v with
  | .inl o => .inr o
  | .inr (.inl o) => gInt cI o.1 o.2
  | .inr (.inr o) => gRef cL o.1 o.2
def gW (cI cL : ClassId) (gv : Nat → GV) : Nat → va_E := fun a => gE cI cL (gv a)
theorem gW_up {cI cL : ClassId} {gv : Nat → GV} {a : Nat} {e : GV} : va_up (gW cI cL gv) a (gE cI cL e) = gW cI cL (va_up gv a e) := by
  funext q
  by_cases h : q = a
  · subst h; rw [va_up_self]; unfold gW; rw [va_up_self]
  · rw [va_up_ne _ _ h]; unfold gW; rw [va_up_ne _ _ h]
theorem gfO_s {gv : Nat → GV} {a : Nat} {cis : List Nat} {o : Nat × List Value} (h : gfO gv a cis = some o) : gv a = .inl o ∧ o.1 ∈ cis := by
  unfold gfO at h
  cases hg : gv a with
  | inl q =>
    simp only [hg] at h
    by_cases hq : q.1 ∈ cis
    · rw [if_pos hq] at h; cases h; exact ⟨rfl, hq⟩
    · rw [if_neg hq] at h; cases h
  | inr q => simp only [hg] at h; cases h
theorem gfI_s {gv : Nat → GV} {a : Nat} {cis : List Nat} {k : Nat} {x : Int32} (h : gfI gv a cis k = some x) : ∃ o, gv a = .inl o ∧ o.1 ∈ cis ∧ o.2[k]? = some (.int x) := by
  obtain ⟨o, h1, h2⟩ := gb_b h
  obtain ⟨h3, h4⟩ := gfO_s h1
  refine ⟨o, h3, h4, ?_⟩
  split at h2 <;> simp_all
theorem gfJ_s {gv : Nat → GV} {a : Nat} {cis : List Nat} {k : Nat} {x : Int64} (h : gfJ gv a cis k = some x) : ∃ o, gv a = .inl o ∧ o.1 ∈ cis ∧ o.2[k]? = some (.long x) := by
  obtain ⟨o, h1, h2⟩ := gb_b h
  obtain ⟨h3, h4⟩ := gfO_s h1
  refine ⟨o, h3, h4, ?_⟩
  split at h2 <;> simp_all
theorem gfR_s {gv : Nat → GV} {a : Nat} {cis : List Nat} {k : Nat} {x : Option Nat} (h : gfR gv a cis k = some x) : ∃ o, gv a = .inl o ∧ o.1 ∈ cis ∧ o.2[k]? = some (va_rf x) := by
  obtain ⟨o, h1, h2⟩ := gb_b h
  obtain ⟨h3, h4⟩ := gfO_s h1
  refine ⟨o, h3, h4, ?_⟩
  split at h2
  · cases h2; assumption
  · cases h2; assumption
  · cases h2
theorem gpu_s {gv g1 : Nat → GV} {a : Nat} {cis : List Nat} {k : Nat} {v : Value} (h : gpu gv a cis k v = some g1) : ∃ o, gv a = .inl o ∧ o.1 ∈ cis ∧ k < o.2.length ∧ va_up gv a (.inl (o.1, o.2.set k v)) = g1 := by
  obtain ⟨o, h1, h2⟩ := gb_b h
  obtain ⟨h3, h4⟩ := gfO_s h1
  by_cases hk : k < o.2.length
  · rw [if_pos hk] at h2; exact ⟨o, h3, h4, hk, Option.some.inj h2⟩
  · rw [if_neg hk] at h2; cases h2
theorem gaI_s {gv : Nat → GV} {a : Nat} {o : Nat × (Nat → Int32)} (h : gaI gv a = some o) : gv a = .inr (.inl o) := by
  unfold gaI at h
  split at h
  · cases h; assumption
  · cases h
theorem gaR_s {gv : Nat → GV} {a : Nat} {o : Nat × (Nat → Option Nat)} (h : gaR gv a = some o) : gv a = .inr (.inr o) := by
  unfold gaR at h
  split at h
  · cases h; assumption
  · cases h
section GCR
variable {p : Program} {l : Launch} {e : Env} {R : Room} {s : State} {m : MethodId} {args : Array Value} {below : List Frame} {meth : Method} {c : Code} {H : Heap} {locs : List Loc} {cells slots : Nat} {Q : State → Prop}
variable {cc : ByteArray} {pc : Nat} {ls : Array Slot} {rest st0 : List Value} {D : va_G} {b : GB} {M : Nat} {gv g1 : Nat → GV} {a : Nat} {cI cL : ClassId}
/-- the classes that a field's holder may be of -/
def gcl (cis : List Nat) (T : u_T) (N : Nat) (Ts : List Cond) : Prop := ∀ ci ∈ cis, ∃ C, vwCl[ci]? = some (C, T, N) ∧ ∀ w ∈ u_ws C T N, w ∈ Ts
theorem cp_obj {o : Nat × List Value} (h : gv a = .inl o) : gW cI cL gv a = .inr (o.1, o.2) := by unfold gW; rw [h]; rfl
theorem cp_get (hexec : p.tables.exec = Jvm.exec) (hb : c.code = cc) {own ref : String} {T : u_T} {N index : Nat} {cis : List Nat} {Ts : List Cond} (hts : ∀ w ∈ Ts, w.before args s = true) (hcl : gcl cis T N Ts) (hown : s.vm.findClass own = some m.cls) {ty : List (ClassId × FieldType)} (hK : va_K D vwCl ty s) (hG : GP D b M (gW cI cL gv) H) (k : Nat) {v : Value} (h : ∃ o, gv a = .inl o ∧ o.1 ∈ cis ∧ o.2[k]? = some v) (hk : k < N) (hlink : (Cond.fieldLink own index ref (T k).2.1 (T k).2.2.1).before args s = true) (hsame : ∀ x, s.fieldFound? (T k).1 (T k).2.1 (T k).2.2.1 = some x → s.fieldFound? ref (T k).2.1 (T k).2.2.1 = some x) (hdg : decode cc pc = .ok (.getfield index, 3))
    (kk : W p l e R s m args below meth c H locs cells slots Q (F0 m (pc + 3) ls (v :: rest))) : W p l e R s m args below meth c H locs cells slots Q (F0 m pc ls (.ref a :: rest)) := by
  obtain ⟨o, h1, h2, h3⟩ := h
  obtain ⟨C, hc, hin⟩ := hcl o.1 h2
  exact gp_get hexec hb hts hin hown hK hG (cp_obj h1) hc k hk hlink hsame h3 hdg kk
theorem cp_put (hexec : p.tables.exec = Jvm.exec) (hb : c.code = cc) {own ref : String} {T : u_T} {N index : Nat} {cis : List Nat} {Ts : List Cond} (hts : ∀ w ∈ Ts, w.before args s = true) (hcl : gcl cis T N Ts) (ty0 : Nat → FieldType) (hty : ∀ k, k < N → parseFieldDescriptor (T k).2.2.1 = some (ty0 k)) (hnm : ∀ a, a < N → ∀ b, b < N → a ≠ b → (T a).2.1 ≠ (T b).2.1) (hown : s.vm.findClass own = some m.cls) {ty : List (ClassId × FieldType)} (hK : va_K D vwCl ty s) (hG : GP D b M (gW cI cL gv) H) (hS0 : va_S (gA b) s.heap H locs) (k : Nat) {v : Value} (h : gpu gv a cis k v = some g1) (hk : k < N) (hlink : (Cond.fieldLink own index ref (T k).2.1 (T k).2.2.1).before args s = true) (hsame : ∀ x, s.fieldFound? (T k).1 (T k).2.1 (T k).2.2.1 = some x → s.fieldFound? ref (T k).2.1 (T k).2.2.1 = some x) (hfin : (T k).2.2.2 = false) {tyk : FieldType} (hd : parseFieldDescriptor (T k).2.2.1 = some tyk) (hn : narrow tyk v = v) (hfit : fits tyk v = true) (hdg : decode cc pc = .ok (.putfield index, 3))
    (kk : ∀ (H1 : Heap) (locs1 : List Loc), GP D b M (gW cI cL g1) H1 → va_S (gA b) s.heap H1 locs1 → W p l e R s m args below meth c H1 locs1 cells slots Q (F0 m (pc + 3) ls rest)) : W p l e R s m args below meth c H locs cells slots Q (F0 m pc ls (v :: .ref a :: rest)) := by
  obtain ⟨o, h1, h2, h3, h4⟩ := gpu_s h
  obtain ⟨C, hc, hin⟩ := hcl o.1 h2
  subst h4
  exact gp_put hexec hb hts hin ty0 hty hnm hown hK hG hS0 (cp_obj h1) hc k hk hlink hsame hfin hd hn hfit h3 (gW_up (e := .inl (o.1, o.2.set k v))) hdg kk
theorem cp_putF (hexec : p.tables.exec = Jvm.exec) (hb : c.code = cc) {own ref : String} {T : u_T} {N index : Nat} {cis : List Nat} {Ts : List Cond} (hts : ∀ w ∈ Ts, w.before args s = true) (hcl : gcl cis T N Ts) (ty0 : Nat → FieldType) (hty : ∀ k, k < N → parseFieldDescriptor (T k).2.2.1 = some (ty0 k)) (hnm : ∀ a, a < N → ∀ b, b < N → a ≠ b → (T a).2.1 ≠ (T b).2.1) (hown : s.vm.findClass own = some m.cls) {ty : List (ClassId × FieldType)} (hK : va_K D vwCl ty s) (hG : GP D b M (gW cI cL gv) H) (hS0 : va_S (gA b) s.heap H locs) (k : Nat) {v : Value} (h : gpu gv a cis k v = some g1) (hk : k < N) (hlink : (Cond.fieldLink own index ref (T k).2.1 (T k).2.2.1).before args s = true) (hsame : ∀ x, s.fieldFound? (T k).1 (T k).2.1 (T k).2.2.1 = some x → s.fieldFound? ref (T k).2.1 (T k).2.2.1 = some x) (hfin : (T k).2.2.2 = true) (hin2 : meth.name = "<init>") (hdecl : (T k).1 = own) {tyk : FieldType} (hd : parseFieldDescriptor (T k).2.2.1 = some tyk) (hn : narrow tyk v = v) (hfit : fits tyk v = true) (hdg : decode cc pc = .ok (.putfield index, 3))
    (kk : ∀ (H1 : Heap) (locs1 : List Loc), GP D b M (gW cI cL g1) H1 → va_S (gA b) s.heap H1 locs1 → W p l e R s m args below meth c H1 locs1 cells slots Q (F0 m (pc + 3) ls rest)) : W p l e R s m args below meth c H locs cells slots Q (F0 m pc ls (v :: .ref a :: rest)) := by
  obtain ⟨o, h1, h2, h3, h4⟩ := gpu_s h
  obtain ⟨C, hc, hin⟩ := hcl o.1 h2
  subst h4
  exact gp_putF hexec hb hts hin ty0 hty hnm hown hK hG hS0 (cp_obj h1) hc k hk hlink hsame hfin hin2 hdecl hd hn hfit h3 (gW_up (e := .inl (o.1, o.2.set k v))) hdg kk
theorem cp_iald (hexec : p.tables.exec = Jvm.exec) (hb : c.code = cc) (hK : va_K D vwCl (gTy cI cL) s) (hG : GP D b M (gW cI cL gv) H) {i x : Int32} (h : gai gv a i = some x) (hdg : decode cc pc = .ok (.iaload, 1))
    (kk : W p l e R s m args below meth c H locs cells slots Q (F0 m (pc + 1) ls (.int x :: rest))) : W p l e R s m args below meth c H locs cells slots Q (F0 m pc ls (.int i :: .ref a :: rest)) := by
  obtain ⟨o, h1, h2⟩ := gb_b h
  obtain ⟨h3, h4⟩ := gb_ix h2
  cases h4
  exact gp_iald hexec hb hK hG (by unfold gW; rw [gaI_s h1]; rfl) h3 hdg kk
theorem cp_alenI (hexec : p.tables.exec = Jvm.exec) (hb : c.code = cc) (hK : va_K D vwCl (gTy cI cL) s) (hG : GP D b M (gW cI cL gv) H) {x : Int32} (h : gal gv a = some x) (hdg : decode cc pc = .ok (.arraylength, 1))
    (kk : W p l e R s m args below meth c H locs cells slots Q (F0 m (pc + 1) ls (.int x :: rest))) : W p l e R s m args below meth c H locs cells slots Q (F0 m pc ls (.ref a :: rest)) := by
  obtain ⟨o, h1, h2⟩ := gb_b h
  cases h2
  exact gp_alenI hexec hb hK hG (n := o.1) (f := o.2) (by unfold gW; rw [gaI_s h1]; rfl) rfl hdg kk
theorem cp_alenR (hexec : p.tables.exec = Jvm.exec) (hb : c.code = cc) (hK : va_K D vwCl (gTy cI cL) s) (hG : GP D b M (gW cI cL gv) H) {x : Int32} (h : garl gv a = some x) (hdg : decode cc pc = .ok (.arraylength, 1))
    (kk : W p l e R s m args below meth c H locs cells slots Q (F0 m (pc + 1) ls (.int x :: rest))) : W p l e R s m args below meth c H locs cells slots Q (F0 m pc ls (.ref a :: rest)) := by
  obtain ⟨o, h1, h2⟩ := gb_b h
  cases h2
  exact gp_alenR hexec hb hK hG (n := o.1) (f := o.2) (by unfold gW; rw [gaR_s h1]; rfl) rfl hdg kk
theorem cp_aald (hexec : p.tables.exec = Jvm.exec) (hb : c.code = cc) (hK : va_K D vwCl (gTy cI cL) s) (hG : GP D b M (gW cI cL gv) H) {i : Int32} {x : Option Nat} (h : gari gv a i = some x) (hdg : decode cc pc = .ok (.aaload, 1))
    (kk : W p l e R s m args below meth c H locs cells slots Q (F0 m (pc + 1) ls (va_rf x :: rest))) : W p l e R s m args below meth c H locs cells slots Q (F0 m pc ls (.int i :: .ref a :: rest)) := by
  obtain ⟨o, h1, h2⟩ := gb_b h
  obtain ⟨h3, h4⟩ := gb_ix h2
  cases h4
  exact gp_aald hexec hb hK hG (by unfold gW; rw [gaR_s h1]; rfl) h3 hdg kk
theorem cp_iast (hexec : p.tables.exec = Jvm.exec) (hb : c.code = cc) (hK : va_K D vwCl (gTy cI cL) s) (hG : GP D b M (gW cI cL gv) H) (hS : va_S (gA b) s.heap H locs) {i x : Int32} (h : gas gv a i x = some g1) (hdg : decode cc pc = .ok (.iastore, 1))
    (kk : ∀ (H1 : Heap) (locs1 : List Loc), GP D b M (gW cI cL g1) H1 → va_S (gA b) s.heap H1 locs1 → W p l e R s m args below meth c H1 locs1 cells slots Q (F0 m (pc + 1) ls rest)) : W p l e R s m args below meth c H locs cells slots Q (F0 m pc ls (.int x :: .int i :: .ref a :: rest)) := by
  obtain ⟨o, h1, h2⟩ := gb_b h
  obtain ⟨h3, h4⟩ := gb_ix h2
  cases h4
  exact gp_iast hexec hb hK hG hS (n := o.1) (f := o.2) (by unfold gW; rw [gaI_s h1]; rfl) h3 (gW_up (e := .inr (.inl (o.1, upd o.2 i.toNatClampNeg x)))) hdg kk
end GCR
