/-! THE WHOLE OWN HEAP AS ONE FUNCTION: gh a is what the cell at a holds (gJ: nothing is said of it); b is where the own heap begins, M is its end (the next cell that is made) -/
def gJ : va_E := .inr (1000, [])
abbrev GB : Type := Nat × Heap × (Nat → Nat) × (Nat → Nat)
/-- b: where the own heap begins, and the heap as it was then (below that it stays) -/
def GP (D : va_G) (b : GB) (M : Nat) (gh : Nat → va_E) (H : Heap) : Prop := b.1 ≤ M ∧ H.size = M ∧ (∀ a, gh a ≠ gJ → b.1 ≤ a ∧ va_at D vwCl (a, gh a) H) ∧ ∀ q, q < b.1 → H[q]? = b.2.1[q]?
def gA (b : GB) : Nat → Prop := fun q => b.1 ≤ q
/-- words that stand in no method's own list: links of nest mates, casts, rows of a class -/
def gNm : List (String × Nat × MethodName × String) := [("LampsThatRemember", 9, ⟨"LampsThatRemember$Letters", "<init>", "()V"⟩, "LampsThatRemember"),
  ("LampsThatRemember", 25, ⟨"LampsThatRemember$Town", "<init>", "()V"⟩, "LampsThatRemember"),
  ("LampsThatRemember$Lamp", 21, ⟨"LampsThatRemember$Dim", "<init>", "()V"⟩, "LampsThatRemember"),
  ("LampsThatRemember$Dim", 1, ⟨"LampsThatRemember$Lamp", "<init>", "()V"⟩, "LampsThatRemember"),
  ("LampsThatRemember$Lamp", 24, ⟨"LampsThatRemember$Moon", "<init>", "()V"⟩, "LampsThatRemember"),
  ("LampsThatRemember$Moon", 1, ⟨"LampsThatRemember$Lamp", "<init>", "()V"⟩, "LampsThatRemember"),
  ("LampsThatRemember$Lamp", 27, ⟨"LampsThatRemember$Carried", "<init>", "()V"⟩, "LampsThatRemember"),
  ("LampsThatRemember$Carried", 3, ⟨"LampsThatRemember$Lamp", "<init>", "()V"⟩, "LampsThatRemember"),
  ("LampsThatRemember$Lamp", 30, ⟨"LampsThatRemember$Candle", "<init>", "()V"⟩, "LampsThatRemember"),
  ("LampsThatRemember$Candle", 1, ⟨"LampsThatRemember$Dim", "<init>", "()V"⟩, "LampsThatRemember"),
  ("LampsThatRemember$Lamp", 33, ⟨"LampsThatRemember$Overlaid", "<init>", "()V"⟩, "LampsThatRemember"),
  ("LampsThatRemember$Overlaid", 3, ⟨"LampsThatRemember$Lamp", "<init>", "()V"⟩, "LampsThatRemember"),
  ("LampsThatRemember$Lamp", 36, ⟨"LampsThatRemember$Flickering", "<init>", "()V"⟩, "LampsThatRemember"),
  ("LampsThatRemember$Flickering", 1, ⟨"LampsThatRemember$Overlaid", "<init>", "()V"⟩, "LampsThatRemember"),
  ("LampsThatRemember$Town", 82, ⟨"LampsThatRemember", "yes", "(Z)I"⟩, "LampsThatRemember"),
  ("LampsThatRemember$Letters", 108, ⟨"LampsThatRemember", "yes", "(Z)I"⟩, "LampsThatRemember")]
def gCa : List String := ["LampsThatRemember$Dim", "LampsThatRemember$Moon", "LampsThatRemember$Carried", "LampsThatRemember$Candle", "LampsThatRemember$Overlaid", "LampsThatRemember$Flickering"]
/-- the String constants, by their places: pool numbers, texts, lengths, bytes -/
def gSk : Nat → Nat := fun i => match i with
  | 0 => 19
  | 1 => 21
  | 2 => 23
  | 3 => 25
  | 4 => 27
  | _ => 29
def gSt : Nat → String := fun i => match i with
  | 0 => "kddd;"
  | 1 => "ddd;"
  | 2 => "dd;"
  | 3 => "d;"
  | 4 => ""
  | _ => "ldmckof"
/-- all that a method takes as given beside its own words -/
def gKn (D : va_G) (b : GB) (ty : List (ClassId × FieldType)) (U : State) : Prop := va_K D vwCl ty U ∧ (∀ q ∈ gNm, va_Nw (.methodLinkNest q.1 q.2.1 q.2.2.1 q.2.2.2) U) ∧ (∀ C ∈ gCa, va_Nw (.castable C "LampsThatRemember$Lamp") U) ∧ va_AO "LampsThatRemember$Lamp" U ∧ vk_S 6 gSl gSb b.2.2.1 b.2.2.2 (gA b) U b.2.1 ∧ (∀ i, i < 6 → vk_R RX6 (gSk i) (gSt i) (b.2.2.1 i) U) ∧ va_Z "java/lang/String" "COMPACT_STRINGS" "Z" (.int 1) (gA b) U b.2.1 ∧ va_Zq "jdk/internal/util/Preconditions" "SIOOBE_FORMATTER" "Ljava/util/function/BiFunction;" (gA b) U b.2.1
theorem gKn.warm {D : va_G} {b : GB} {ty : List (ClassId × FieldType)} {s U : State} (hW : s.WarmedH U.vm) (h : gKn D b ty s) : gKn D b ty U := ⟨va_K.moved hW.alike h.1, fun q hq => va_Nw.warmM hW (h.2.1 q hq), fun C hC => va_Nw.warmC hW (h.2.2.1 C hC), va_AO.moved hW.alike h.2.2.2.1, h.2.2.2.2.1.moved hW.alike, fun i hi => vk_R.warm hW (h.2.2.2.2.2.1 i hi), h.2.2.2.2.2.2.1.moved hW.alike, h.2.2.2.2.2.2.2.moved hW.alike⟩
theorem gKn.calling {D : va_G} {b : GB} {ty : List (ClassId × FieldType)} {U : State} {g : JFrame} {mk : MethodId} {a : Array Value} (h : gKn D b ty U) : gKn D b ty (U.calling g mk a) := by
  have hA : U.vm.Alike (U.calling g mk a).vm := Vm.Alike.refl U.vm
  exact ⟨va_K.moved hA h.1, fun q hq => va_Nw.same (u := U) rfl rfl (h.2.1 q hq), fun C hC => va_Nw.same (u := U) rfl rfl (h.2.2.1 C hC), va_AO.moved hA h.2.2.2.1, h.2.2.2.2.1.moved hA, fun i hi => vk_R.same (u := U) rfl (h.2.2.2.2.2.1 i hi), h.2.2.2.2.2.2.1.moved hA, h.2.2.2.2.2.2.2.moved hA⟩
abbrev gTy (cI cL : ClassId) : List (ClassId × FieldType) := [(cI, .int), (cL, .object "LampsThatRemember$Lamp")]
abbrev gInt (cI : ClassId) (n : Nat) (f : Nat → Int32) : va_E := .inl (cI, n, .inl f)
abbrev gRef (cL : ClassId) (n : Nat) (f : Nat → Option Nat) : va_E := .inl (cL, n, .inr (.inr (.inr (.inr f))))
theorem gJ_o {ci : Nat} {fs : List Value} {r : vw_C} (hc : vwCl[ci]? = some r) : (Sum.inr (ci, fs) : va_E) ≠ gJ := by
  intro h
  have h1 : ci = 1000 := (Prod.mk.inj (Sum.inr.inj h)).1
  subst h1
  simp at hc
theorem gJ_a {x : ClassId × vp_A} : (Sum.inl x : va_E) ≠ gJ := fun h => by cases h
theorem gp_one {D : va_G} {b : GB} {M : Nat} {gh : Nat → va_E} {H : Heap} (h : GP D b M gh H) {a : Nat} {e : va_E} (he : gh a = e) (hj : e ≠ gJ) : va_P D vwCl [(a, e)] H := by
  subst he
  intro k q hk
  cases k with
  | zero => cases hk; exact (h.2.2.1 a hj).2
  | succ k => simp at hk
theorem gp_b {D : va_G} {b : GB} {M : Nat} {gh : Nat → va_E} {H : Heap} (h : GP D b M gh H) {a : Nat} {e : va_E} (he : gh a = e) (hj : e ≠ gJ) : b.1 ≤ a := by
  subst he
  exact (h.2.2.1 a hj).1
theorem GP.put {D : va_G} {b : GB} {M : Nat} {gh : Nat → va_E} {H H1 : Heap} (h : GP D b M gh H) {a : Nat} {e : va_E} (ha : b.1 ≤ a) (he : va_at D vwCl (a, e) H1) (z : H1.size = H.size) (oq : ∀ q, q ≠ a → H1[q]? = H[q]?) : GP D b M (va_up gh a e) H1 := by
  refine ⟨h.1, z.trans h.2.1, fun q hq => ?_, fun q hq => (oq q (by omega)).trans (h.2.2.2 q hq)⟩
  by_cases hqa : q = a
  · subst hqa
    rw [va_up_self]
    exact ⟨ha, he⟩
  · rw [va_up_ne _ _ hqa] at hq ⊢
    exact ⟨(h.2.2.1 q hq).1, (h.2.2.1 q hq).2.kept (oq q hqa)⟩
theorem GP.new {D : va_G} {b : GB} {M : Nat} {gh : Nat → va_E} {H H1 : Heap} (h : GP D b M gh H) {e : va_E} (he : va_at D vwCl (M, e) H1) (z : H1.size = M + 1) (oq : ∀ q, q < M → H1[q]? = H[q]?) : GP D b (M + 1) (va_up gh M e) H1 := by
  refine ⟨Nat.le_succ_of_le h.1, z, fun q hq => ?_, fun q hq => (oq q (Nat.lt_of_lt_of_le hq h.1)).trans (h.2.2.2 q hq)⟩
  by_cases hqa : q = M
  · subst hqa
    rw [va_up_self]
    exact ⟨h.1, he⟩
  · rw [va_up_ne _ _ hqa] at hq ⊢
    have h1 := h.2.2.1 q hq
    have h2 := h1.2.lt
    rw [h.2.1] at h2
    exact ⟨h1.1, h1.2.kept (oq q h2)⟩
/-! a contract's start and end -/
def gPre (D : va_G) (b : GB) (M : Nat) (gh : Nat → va_E) (ty : List (ClassId × FieldType)) : State → Prop := fun U => GP D b M gh U.heap ∧ gKn D b ty U
def gQ (D : va_G) (b : GB) (v : Option Value) (M : Nat) (gh : Nat → va_E) : Array Value → State → Outcome → State → Prop := fun _ st oc t => oc = .returned v ∧ GP D b M gh t.heap ∧ va_F (gA b) st t
theorem gp_blind {D : va_G} {b : GB} {M : Nat} {gh : Nat → va_E} {ty : List (ClassId × FieldType)} {av : List Value} : FrameBlind (va_Pc av (gPre D b M gh ty)) := fun a U g mk q => ⟨q.1, q.2.1, q.2.2.calling⟩
theorem gp_preS {D : va_G} {b : GB} {M : Nat} {gh : Nat → va_E} {ty : List (ClassId × FieldType)} {av : List Value} {s : State} {H : Heap} (hK : gKn D b ty s) (hG : GP D b M gh H) : PreS s H (va_Pc av (gPre D b M gh ty)) av := ⟨gp_blind, fun U hU hW => ⟨rfl, by rw [hU]; exact hG, hK.warm hW⟩⟩
theorem gp_recv {D : va_G} {b : GB} {M : Nat} {gh : Nat → va_E} {ty : List (ClassId × FieldType)} {s : State} {H : Heap} (hK : va_K D vwCl ty s) (hG : GP D b M gh H) {a ci : Nat} {fs : List Value} {q : vw_C} (he : gh a = .inr (ci, fs)) (hc : vwCl[ci]? = some q) : ∃ cell : Cell, H[a]? = some cell ∧ cell.vm.isStatics = false ∧ s.vm.findClass q.1 = some cell.cls := va_recv (ws := [(a, .inr (ci, fs))]) (q0 := 0) hK (gp_one hG he (gJ_o hc)) hc rfl
theorem gp_preV {D : va_G} {b : GB} {M : Nat} {gh : Nat → va_E} {ty : List (ClassId × FieldType)} {av : List Value} {s : State} {H : Heap} (hK : gKn D b ty s) (hG : GP D b M gh H) {a ci : Nat} {fs : List Value} {C : String} {T : u_T} {N : Nat} (he : gh a = .inr (ci, fs)) (hc : vwCl[ci]? = some (C, T, N)) : PreV s H C a (va_Pc (.ref a :: av) (gPre D b M gh ty)) av := ⟨gp_blind, gp_recv hK.1 hG he hc, fun U hU hW => ⟨rfl, by rw [hU]; exact hG, hK.warm hW⟩⟩
section GPR
variable {p : Program} {l : Launch} {e : Env} {R : Room} {s : State} {m : MethodId} {args : Array Value} {below : List Frame} {meth : Method} {c : Code} {H : Heap} {locs : List Loc} {cells slots : Nat} {Q : State → Prop}
variable {cc : ByteArray} {pc : Nat} {ls : Array Slot} {rest st0 : List Value} {D : va_G} {b : GB} {M : Nat} {gh g1 : Nat → va_E} {a : Nat} {ty : List (ClassId × FieldType)}
theorem gp_get (hexec : p.tables.exec = Jvm.exec) (hb : c.code = cc) {own ref C : String} {T : u_T} {N ci index : Nat} {Ts : List Cond} (hts : ∀ w ∈ Ts, w.before args s = true) (hin : ∀ w ∈ u_ws C T N, w ∈ Ts) (hown : s.vm.findClass own = some m.cls) (hK : va_K D vwCl ty s) (hG : GP D b M gh H) {fs : List Value} (he : gh a = .inr (ci, fs)) (hc : vwCl[ci]? = some (C, T, N)) (k : Nat) (hk : k < N) (hlink : (Cond.fieldLink own index ref (T k).2.1 (T k).2.2.1).before args s = true) (hsame : ∀ x, s.fieldFound? (T k).1 (T k).2.1 (T k).2.2.1 = some x → s.fieldFound? ref (T k).2.1 (T k).2.2.1 = some x) {v : Value} (hv : fs[k]? = some v) (hdg : decode cc pc = .ok (.getfield index, 3))
    (kk : W p l e R s m args below meth c H locs cells slots Q (F0 m (pc + 3) ls (v :: rest))) : W p l e R s m args below meth c H locs cells slots Q (F0 m pc ls (.ref a :: rest)) :=
  va_get (ws := [(a, .inr (ci, fs))]) hexec hb hts hin hown hK (gp_one hG he (gJ_o hc)) 0 rfl hc k hk hlink hsame hv hdg kk
theorem gp_put (hexec : p.tables.exec = Jvm.exec) (hb : c.code = cc) {own ref C : String} {T : u_T} {N ci index : Nat} {Ts : List Cond} (hts : ∀ w ∈ Ts, w.before args s = true) (hin : ∀ w ∈ u_ws C T N, w ∈ Ts) (ty0 : Nat → FieldType) (hty : ∀ k, k < N → parseFieldDescriptor (T k).2.2.1 = some (ty0 k)) (hnm : ∀ a, a < N → ∀ b, b < N → a ≠ b → (T a).2.1 ≠ (T b).2.1) (hown : s.vm.findClass own = some m.cls) (hK : va_K D vwCl ty s) (hG : GP D b M gh H) (hS0 : va_S (gA b) s.heap H locs) {fs : List Value} (he : gh a = .inr (ci, fs)) (hc : vwCl[ci]? = some (C, T, N)) (k : Nat) (hk : k < N) (hlink : (Cond.fieldLink own index ref (T k).2.1 (T k).2.2.1).before args s = true) (hsame : ∀ x, s.fieldFound? (T k).1 (T k).2.1 (T k).2.2.1 = some x → s.fieldFound? ref (T k).2.1 (T k).2.2.1 = some x) (hfin : (T k).2.2.2 = false) {tyk : FieldType} {v : Value} (hd : parseFieldDescriptor (T k).2.2.1 = some tyk) (hn : narrow tyk v = v) (hfit : fits tyk v = true) (hl : k < fs.length) (hg1 : va_up gh a (.inr (ci, fs.set k v)) = g1)
    (hdg : decode cc pc = .ok (.putfield index, 3)) (kk : ∀ (H1 : Heap) (locs1 : List Loc), GP D b M g1 H1 → va_S (gA b) s.heap H1 locs1 → W p l e R s m args below meth c H1 locs1 cells slots Q (F0 m (pc + 3) ls rest)) : W p l e R s m args below meth c H locs cells slots Q (F0 m pc ls (v :: .ref a :: rest)) := by
  subst hg1
  have hap := va_apart (own := own) hts hin ty0 hty hnm hK hc
  have hba := gp_b hG he (gJ_o hc)
  obtain ⟨r, h1, cell, q1, q2, q3, q4⟩ := gp_one hG he (gJ_o hc) 0 _ rfl
  have hr : r = (C, T, N) := Option.some.inj (h1.symm.trans hc)
  subst hr
  obtain ⟨hS, hfc, kC, hkC, hkind⟩ := hK.1 ci _ hc
  obtain ⟨cf, kf, fi, f, hi, hsl⟩ := hS k hk
  have hlay := hts _ (hin _ (u_in_lay hk))
  unfold u_lay at hlay
  rw [if_neg (by rw [hfin]; decide)] at hlay
  have hst := (u_facts hfc hkC (u_lays hts hin hk) hi).1
  have h6 := u_store hfc hkC hkind hlay hi hd hn hfit
  refine W.putK hexec hb (f := f) ⟨hown, hlink, ⟨_, _, _, hsame _ hi⟩, hst⟩ (by rw [q2]; exact h6) q1 q3 (by rw [hsl]; exact k2_hasslot (q4 k hk)) rfl rfl hdg fun H' e1 e2 e3 => ?_
  rw [hsl] at e1 ⊢
  exact kk H' _ (hG.put hba ⟨_, hc, t_OB.to (V := updV (vp_V fs) k v) ⟨_, e1, q2, q3, t_set q4 hap hk v⟩ (fun j _ => vp_updV_set hl v j)⟩ e2 e3) (hS0.put e2 e3 hba)
theorem gp_putF (hexec : p.tables.exec = Jvm.exec) (hb : c.code = cc) {own ref C : String} {T : u_T} {N ci index : Nat} {Ts : List Cond} (hts : ∀ w ∈ Ts, w.before args s = true) (hin : ∀ w ∈ u_ws C T N, w ∈ Ts) (ty0 : Nat → FieldType) (hty : ∀ k, k < N → parseFieldDescriptor (T k).2.2.1 = some (ty0 k)) (hnm : ∀ a, a < N → ∀ b, b < N → a ≠ b → (T a).2.1 ≠ (T b).2.1) (hown : s.vm.findClass own = some m.cls) (hK : va_K D vwCl ty s) (hG : GP D b M gh H) (hS0 : va_S (gA b) s.heap H locs) {fs : List Value} (he : gh a = .inr (ci, fs)) (hc : vwCl[ci]? = some (C, T, N)) (k : Nat) (hk : k < N) (hlink : (Cond.fieldLink own index ref (T k).2.1 (T k).2.2.1).before args s = true) (hsame : ∀ x, s.fieldFound? (T k).1 (T k).2.1 (T k).2.2.1 = some x → s.fieldFound? ref (T k).2.1 (T k).2.2.1 = some x) (hfin : (T k).2.2.2 = true) (hin2 : meth.name = "<init>") (hdecl : (T k).1 = own) {tyk : FieldType} {v : Value} (hd : parseFieldDescriptor (T k).2.2.1 = some tyk) (hn : narrow tyk v = v) (hfit : fits tyk v = true) (hl : k < fs.length) (hg1 : va_up gh a (.inr (ci, fs.set k v)) = g1)
    (hdg : decode cc pc = .ok (.putfield index, 3)) (kk : ∀ (H1 : Heap) (locs1 : List Loc), GP D b M g1 H1 → va_S (gA b) s.heap H1 locs1 → W p l e R s m args below meth c H1 locs1 cells slots Q (F0 m (pc + 3) ls rest)) : W p l e R s m args below meth c H locs cells slots Q (F0 m pc ls (v :: .ref a :: rest)) := by
  subst hg1
  have hap := va_apart (own := own) hts hin ty0 hty hnm hK hc
  have hba := gp_b hG he (gJ_o hc)
  obtain ⟨r, h1, cell, q1, q2, q3, q4⟩ := gp_one hG he (gJ_o hc) 0 _ rfl
  have hr : r = (C, T, N) := Option.some.inj (h1.symm.trans hc)
  subst hr
  obtain ⟨hS, hfc, kC, hkC, hkind⟩ := hK.1 ci _ hc
  obtain ⟨cf, kf, fi, f, hi, hsl⟩ := hS k hk
  have hlay := hts _ (hin _ (u_in_lay hk))
  unfold u_lay at hlay
  rw [if_pos hfin] at hlay
  have hst := (u_facts hfc hkC (u_lays hts hin hk) hi).1
  have hcf : m.cls = cf := by
    obtain ⟨_, _, c', _, _, _, -, -, hf', -, -, -, hown2, -⟩ := Cond.laysFinal_spec hlay
    have e1 : c' = cf := by have := hi.symm.trans hf'; simp at this; exact this.1.symm
    rw [hdecl] at hown2
    rw [← e1]; exact Option.some.inj (hown.symm.trans hown2)
  have h6 := u_fits hfc hkC hkind (Or.inr hlay) hi hd hn hfit
  refine W.putFinK hexec hb hown hlink (hsame _ hi) hst hcf hin2 (by rw [q2]; exact h6) q1 q3 (by rw [hsl]; exact k2_hasslot (q4 k hk)) rfl rfl hdg fun H' e1 e2 e3 => ?_
  rw [hsl] at e1 ⊢
  exact kk H' _ (hG.put hba ⟨_, hc, t_OB.to (V := updV (vp_V fs) k v) ⟨_, e1, q2, q3, t_set q4 hap hk v⟩ (fun j _ => vp_updV_set hl v j)⟩ e2 e3) (hS0.put e2 e3 hba)
theorem gp_iald {cI cL : ClassId} (hexec : p.tables.exec = Jvm.exec) (hb : c.code = cc) (hK : va_K D vwCl (gTy cI cL) s) (hG : GP D b M gh H) {n : Nat} {f : Nat → Int32} (he : gh a = gInt cI n f) {i : Int32} (hin : vp_in i n) (hdg : decode cc pc = .ok (.iaload, 1))
    (kk : W p l e R s m args below meth c H locs cells slots Q (F0 m (pc + 1) ls (.int (f i.toNatClampNeg) :: rest))) : W p l e R s m args below meth c H locs cells slots Q (F0 m pc ls (.int i :: .ref a :: rest)) :=
  va_iald (ws := [(a, gInt cI n f)]) hexec hb hK (gp_one hG he gJ_a) 0 0 rfl rfl hin hdg kk
theorem gp_alenI {cI cL : ClassId} (hexec : p.tables.exec = Jvm.exec) (hb : c.code = cc) (hK : va_K D vwCl (gTy cI cL) s) (hG : GP D b M gh H) {n : Nat} {f : Nat → Int32} (he : gh a = gInt cI n f) {v : Int32} (hv : Int32.ofNat n = v) (hdg : decode cc pc = .ok (.arraylength, 1))
    (kk : W p l e R s m args below meth c H locs cells slots Q (F0 m (pc + 1) ls (.int v :: rest))) : W p l e R s m args below meth c H locs cells slots Q (F0 m pc ls (.ref a :: rest)) :=
  va_alen (ws := [(a, gInt cI n f)]) hexec hb hK (gp_one hG he gJ_a) 0 0 rfl rfl hv hdg kk
theorem gp_alenR {cI cL : ClassId} (hexec : p.tables.exec = Jvm.exec) (hb : c.code = cc) (hK : va_K D vwCl (gTy cI cL) s) (hG : GP D b M gh H) {n : Nat} {f : Nat → Option Nat} (he : gh a = gRef cL n f) {v : Int32} (hv : Int32.ofNat n = v) (hdg : decode cc pc = .ok (.arraylength, 1))
    (kk : W p l e R s m args below meth c H locs cells slots Q (F0 m (pc + 1) ls (.int v :: rest))) : W p l e R s m args below meth c H locs cells slots Q (F0 m pc ls (.ref a :: rest)) :=
  va_alen (ws := [(a, gRef cL n f)]) hexec hb hK (gp_one hG he gJ_a) 0 1 rfl rfl hv hdg kk
theorem gp_aald {cI cL : ClassId} (hexec : p.tables.exec = Jvm.exec) (hb : c.code = cc) (hK : va_K D vwCl (gTy cI cL) s) (hG : GP D b M gh H) {n : Nat} {f : Nat → Option Nat} (he : gh a = gRef cL n f) {i : Int32} (hin : vp_in i n) (hdg : decode cc pc = .ok (.aaload, 1))
    (kk : W p l e R s m args below meth c H locs cells slots Q (F0 m (pc + 1) ls (va_rf (f i.toNatClampNeg) :: rest))) : W p l e R s m args below meth c H locs cells slots Q (F0 m pc ls (.int i :: .ref a :: rest)) :=
  va_aldq (ws := [(a, gRef cL n f)]) hexec hb hK (gp_one hG he gJ_a) 0 1 rfl rfl hin hdg kk
theorem gp_iast {cI cL : ClassId} (hexec : p.tables.exec = Jvm.exec) (hb : c.code = cc) (hK : va_K D vwCl (gTy cI cL) s) (hG : GP D b M gh H) (hS : va_S (gA b) s.heap H locs) {n : Nat} {f : Nat → Int32} (he : gh a = gInt cI n f) {i x : Int32} (hin : vp_in i n) (hg1 : va_up gh a (gInt cI n (upd f i.toNatClampNeg x)) = g1) (hdg : decode cc pc = .ok (.iastore, 1))
    (kk : ∀ (H1 : Heap) (locs1 : List Loc), GP D b M g1 H1 → va_S (gA b) s.heap H1 locs1 → W p l e R s m args below meth c H1 locs1 cells slots Q (F0 m (pc + 1) ls rest)) : W p l e R s m args below meth c H locs cells slots Q (F0 m pc ls (.int x :: .int i :: .ref a :: rest)) := by
  subst hg1
  have hba := gp_b hG he gJ_a
  refine W.iast hexec hb (gp_one hG he gJ_a 0 _ rfl) ((hK.2 0 _ rfl).1 n (fun j => .int (f j))) (fun q => by cases q) (by show ¬ (i < 0 ∨ (arrV _ _ _).slots.size ≤ _); rw [arrV_size]; exact hin) rfl rfl hdg fun H1 e z oq => ?_
  refine kk H1 _ (hG.put hba ?_ z oq) (hS.put z oq hba)
  show H1[a]? = some (vp_cell _ _)
  rw [e]
  rw [vp_cell_i, vp_cell_i, arrV_store]
  congr 2
  funext q
  by_cases hq : q = i.toNatClampNeg
  · subst hq
    simp [updV, upd]
  · simp [updV, upd, hq]
theorem gp_aastN {cI cL : ClassId} (hexec : p.tables.exec = Jvm.exec) (hb : c.code = cc) (hK : va_K D vwCl (gTy cI cL) s) (hG : GP D b M gh H) (hS : va_S (gA b) s.heap H locs) {n : Nat} {f : Nat → Option Nat} (he : gh a = gRef cL n f) {i : Int32} (hin : vp_in i n) (hg1 : va_up gh a (gRef cL n (va_up f i.toNatClampNeg none)) = g1) (hdg : decode cc pc = .ok (.aastore, 1))
    (kk : ∀ (H1 : Heap) (locs1 : List Loc), GP D b M g1 H1 → va_S (gA b) s.heap H1 locs1 → W p l e R s m args below meth c H1 locs1 cells slots Q (F0 m (pc + 1) ls rest)) : W p l e R s m args below meth c H locs cells slots Q (F0 m pc ls (.null :: .int i :: .ref a :: rest)) := by
  subst hg1
  have hba := gp_b hG he gJ_a
  refine va_WaastN (C := "LampsThatRemember$Lamp") hexec hb (gp_one hG he gJ_a 0 _ rfl) ((hK.2 1 _ rfl).1 n (fun j => va_rf (f j))) (fun h => by cases h) (by show ¬ (i < 0 ∨ (arrV _ _ _).slots.size ≤ _); rw [arrV_size]; exact hin) rfl rfl hdg fun H1 e z oq => ?_
  refine kk H1 _ (hG.put hba ?_ z oq) (hS.put z oq hba)
  show H1[a]? = some (vp_cell _ _)
  rw [e]
  rw [vp_cell_q, vp_cell_q, arrV_store]
  congr 2
  funext q
  by_cases hq : q = i.toNatClampNeg
  · subst hq
    simp [updV, va_up, va_rf]
  · simp [updV, va_up, hq]
theorem gp_new (hexec : p.tables.exec = Jvm.exec) (hb : c.code = cc) {own C : String} {T : u_T} {N ci index : Nat} {Ts : List Cond} (hts : ∀ w ∈ Ts, w.before args s = true) (hin : ∀ w ∈ u_ws C T N, w ∈ Ts) (ty0 : Nat → FieldType) (hty : ∀ k, k < N → parseFieldDescriptor (T k).2.2.1 = some (ty0 k)) (hown : s.vm.findClass own = some m.cls) (hcl : (Cond.classLink own index C).before args s = true) (hinst : (Cond.instantiable C N).before args s = true) (hini : (Cond.initialized C).before args s = true)
    (hK : va_K D vwCl ty s) (hG : GP D b M gh H) (hS : va_S (gA b) s.heap H locs) (hc : vwCl[ci]? = some (C, T, N)) {fs : List Value} (hfs : ∀ j, j < N → defaultValue (ty0 j) = vp_V fs j) (hcells : cells + 1 ≤ R.cells) (hslots : slots + N ≤ R.slots) (hg1 : va_up gh M (.inr (ci, fs)) = g1) (hdg : decode cc pc = .ok (.new index, 3))
    (kk : ∀ (H1 : Heap), GP D b (M + 1) g1 H1 → va_S (gA b) s.heap H1 locs → W p l e R s m args below meth c H1 locs (cells + 1) (slots + N) Q (F0 m (pc + 3) ls (.ref M :: rest))) : W p l e R s m args below meth c H locs cells slots Q (F0 m pc ls rest) := by
  subst hg1
  have hKn := hK.1 ci _ hc
  refine W.newcK hexec hb hown hcl hinst hini rfl hdg hcells hslots hKn.2.1 hG.2.1 fun H1 kC hkC e1 z1 o1 => ?_
  refine kk H1 (hG.new ⟨_, hc, (u_born ty0 hts hin hKn hkC e1 hty).to hfs⟩ z1 o1) ⟨Nat.le_trans hS.1 (by rw [z1, hG.2.1]; omega), fun x h1 h2 => (o1 x (Nat.lt_of_lt_of_le h1 (by rw [← hG.2.1]; exact hS.1))).trans (hS.2.1 x h1 h2), hS.2.2⟩
theorem gp_newa {cI cL : ClassId} (hexec : p.tables.exec = Jvm.exec) (hb : c.code = cc) (harr : (Cond.arrayClass .int).before args s = true) (hK : va_K D vwCl (gTy cI cL) s) (hG : GP D b M gh H) (hS : va_S (gA b) s.heap H locs)
    {n : Int32} {N' : Nat} (hn : ¬ n < 0) (hN : n.toNatClampNeg = N') (hbytes : N' * 4 ≤ 536870912) (hcells : cells + 1 ≤ R.cells) (hslots : slots + N' ≤ R.slots) (hg1 : va_up gh M (gInt cI N' (fun _ => 0)) = g1) (hdg : decode cc pc = .ok (.newarray .int, 2))
    (kk : ∀ (H1 : Heap), GP D b (M + 1) g1 H1 → va_S (gA b) s.heap H1 locs → W p l e R s m args below meth c H1 locs (cells + 1) (slots + N') Q (F0 m (pc + 2) ls (.ref M :: rest))) : W p l e R s m args below meth c H locs cells slots Q (F0 m pc ls (.int n :: rest)) := by
  subst hg1
  refine va_newaK (atype := .int) hexec hb harr rfl hdg rfl hn hN hbytes hcells hslots hG.2.1 fun H1 cA e1 z1 o1 hAr hNm => ?_
  have hcA : cA = cI := Option.some.inj (hNm.symm.trans (hK.2 0 _ rfl).2)
  subst hcA
  refine kk H1 (hG.new ?_ z1 o1) ⟨Nat.le_trans hS.1 (by rw [z1, hG.2.1]; omega), fun x h1 h2 => (o1 x (Nat.lt_of_lt_of_le h1 (by rw [← hG.2.1]; exact hS.1))).trans (hS.2.1 x h1 h2), hS.2.2⟩
  exact e1
theorem gp_callG {mc ms : Nat} {ar : Array Value} {v : Option Value} {M1 : Nat} (hr : va_Run p l e R s m args below meth c H locs cells slots mc ms (F0 m pc ls st0) rest (gQ D b v M1 g1 ar) (gA b)) (hS : va_S (gA b) s.heap H locs)
    (kk : ∀ (H1 : Heap) (locs1 : List Loc), GP D b M1 g1 H1 → va_S (gA b) s.heap H1 locs1 → W p l e R s m args below meth c H1 locs1 (cells + mc) (slots + ms) Q (F0 m (pc + 3) ls (v.toList ++ rest))) : W p l e R s m args below meth c H locs cells slots Q (F0 m pc ls st0) := by
  intro T hT X
  obtain ⟨v', st₀, t, T', L, h0, X', hL, e1, e2, ⟨hv, hg, hz, hk⟩, st⟩ := hr T hT X
  cases hv
  rw [h0] at hz hk
  obtain ⟨t2, a1, b1⟩ := kk T'.heap (locs ++ L) (by rw [e1]; exact hg) ⟨Nat.le_trans hS.1 (by rw [e1]; exact hz), fun q h1 h2 => by rw [e1, hk q (Nat.lt_of_lt_of_le h1 hS.1) h2]; exact hS.2.1 q h1 h2, fun q hq => by
      rcases List.mem_append.mp hq with h | h
      · exact hS.2.2 q h
      · exact hL q h⟩ T' rfl X'
  exact ⟨t2, st t2 a1, b1⟩
theorem gp_callI {mc ms : Nat} {ar : Array Value} {v : Int32} {M1 : Nat} (hr : va_Run p l e R s m args below meth c H locs cells slots mc ms (F0 m pc ls st0) rest (gQ D b (some (.int v)) M1 g1 ar) (gA b)) (hS : va_S (gA b) s.heap H locs)
    (kk : ∀ (H1 : Heap) (locs1 : List Loc), GP D b M1 g1 H1 → va_S (gA b) s.heap H1 locs1 → W p l e R s m args below meth c H1 locs1 (cells + mc) (slots + ms) Q (F0 m (pc + 3) ls (.int v :: rest))) : W p l e R s m args below meth c H locs cells slots Q (F0 m pc ls st0) := gp_callG hr hS kk
theorem gp_callL {mc ms : Nat} {ar : Array Value} {v : Int64} {M1 : Nat} (hr : va_Run p l e R s m args below meth c H locs cells slots mc ms (F0 m pc ls st0) rest (gQ D b (some (.long v)) M1 g1 ar) (gA b)) (hS : va_S (gA b) s.heap H locs)
    (kk : ∀ (H1 : Heap) (locs1 : List Loc), GP D b M1 g1 H1 → va_S (gA b) s.heap H1 locs1 → W p l e R s m args below meth c H1 locs1 (cells + mc) (slots + ms) Q (F0 m (pc + 3) ls (.long v :: rest))) : W p l e R s m args below meth c H locs cells slots Q (F0 m pc ls st0) := gp_callG hr hS kk
theorem gp_callR {mc ms : Nat} {ar : Array Value} {v : Option Nat} {M1 : Nat} (hr : va_Run p l e R s m args below meth c H locs cells slots mc ms (F0 m pc ls st0) rest (gQ D b (some (va_rf v)) M1 g1 ar) (gA b)) (hS : va_S (gA b) s.heap H locs)
    (kk : ∀ (H1 : Heap) (locs1 : List Loc), GP D b M1 g1 H1 → va_S (gA b) s.heap H1 locs1 → W p l e R s m args below meth c H1 locs1 (cells + mc) (slots + ms) Q (F0 m (pc + 3) ls (va_rf v :: rest))) : W p l e R s m args below meth c H locs cells slots Q (F0 m pc ls st0) := gp_callG hr hS kk
theorem gp_callV {mc ms : Nat} {ar : Array Value} {M1 : Nat} (hr : va_Run p l e R s m args below meth c H locs cells slots mc ms (F0 m pc ls st0) rest (gQ D b none M1 g1 ar) (gA b)) (hS : va_S (gA b) s.heap H locs)
    (kk : ∀ (H1 : Heap) (locs1 : List Loc), GP D b M1 g1 H1 → va_S (gA b) s.heap H1 locs1 → W p l e R s m args below meth c H1 locs1 (cells + mc) (slots + ms) Q (F0 m (pc + 3) ls rest)) : W p l e R s m args below meth c H locs cells slots Q (F0 m pc ls st0) := gp_callG hr hS kk
theorem gp_retI {mc ms : Nat} {v : Int32} (hexec : p.tables.exec = Jvm.exec) (hb : c.code = cc) (hr : meth.sig.returnType = some .int) (hlocks : meth.locks = false) (hG : GP D b M gh H) (hS : va_S (gA b) s.heap H locs) (h1 : cells ≤ mc) (h2 : slots ≤ ms) (hdg : decode cc pc = .ok (.ireturn, 1)) : W p l e R s m args below meth c H locs cells slots (MQ below (gQ D b (some (.int v)) M gh) args s mc ms (gA b)) (F0 m pc ls [.int v]) :=
  W.widen h1 h2 (W.iret hexec hb hr (fun t ht hW => ⟨rfl, by rw [ht]; exact hG, hS.F ht⟩) hS.2.2 hdg hlocks)
theorem gp_retZ {mc ms : Nat} {v : Int32} (hexec : p.tables.exec = Jvm.exec) (hb : c.code = cc) (hr : meth.sig.returnType = some .boolean) (hn : v = 0 ∨ v = 1) (hlocks : meth.locks = false) (hG : GP D b M gh H) (hS : va_S (gA b) s.heap H locs) (h1 : cells ≤ mc) (h2 : slots ≤ ms) (hdg : decode cc pc = .ok (.ireturn, 1)) : W p l e R s m args below meth c H locs cells slots (MQ below (gQ D b (some (.int v)) M gh) args s mc ms (gA b)) (F0 m pc ls [.int v]) :=
  W.widen h1 h2 (W.zret hexec hb hr (by rcases hn with rfl | rfl <;> decide) (fun t ht hW => ⟨rfl, by rw [ht]; exact hG, hS.F ht⟩) hS.2.2 hdg hlocks)
theorem gp_retL {mc ms : Nat} {v : Int64} (hexec : p.tables.exec = Jvm.exec) (hb : c.code = cc) (hr : meth.sig.returnType = some .long) (hlocks : meth.locks = false) (hG : GP D b M gh H) (hS : va_S (gA b) s.heap H locs) (h1 : cells ≤ mc) (h2 : slots ≤ ms) (hdg : decode cc pc = .ok (.lreturn, 1)) : W p l e R s m args below meth c H locs cells slots (MQ below (gQ D b (some (.long v)) M gh) args s mc ms (gA b)) (F0 m pc ls [.long v]) :=
  W.widen h1 h2 (W.lret hexec hb hr (fun t ht hW => ⟨rfl, by rw [ht]; exact hG, hS.F ht⟩) hS.2.2 hdg hlocks)
theorem gp_retV {mc ms : Nat} (hexec : p.tables.exec = Jvm.exec) (hb : c.code = cc) (hr : meth.sig.returnType = none) (hlocks : meth.locks = false) (hG : GP D b M gh H) (hS : va_S (gA b) s.heap H locs) (h1 : cells ≤ mc) (h2 : slots ≤ ms) (hdg : decode cc pc = .ok (.return_, 1)) : W p l e R s m args below meth c H locs cells slots (MQ below (gQ D b none M gh) args s mc ms (gA b)) (F0 m pc ls []) :=
  W.widen h1 h2 (W.vret hexec hb hr (fun t ht hW => ⟨rfl, by rw [ht]; exact hG, hS.F ht⟩) hS.2.2 hdg hlocks)
theorem gp_retR {mc ms : Nat} {v : Option Nat} {cn : String} (hexec : p.tables.exec = Jvm.exec) (hb : c.code = cc) (hr : meth.sig.returnType = some (.object cn)) (hlocks : meth.locks = false) (hG : GP D b M gh H) (hS : va_S (gA b) s.heap H locs) (h1 : cells ≤ mc) (h2 : slots ≤ ms) (hdg : decode cc pc = .ok (.areturn, 1)) : W p l e R s m args below meth c H locs cells slots (MQ below (gQ D b (some (va_rf v)) M gh) args s mc ms (gA b)) (F0 m pc ls [va_rf v]) :=
  W.widen h1 h2 (W.aret hexec hb hr (Or.inl ⟨_, rfl⟩) (va_rf_or v) (fun t ht hW => ⟨rfl, by rw [ht]; exact hG, hS.F ht⟩) hS.2.2 hdg hlocks)
/-- a reference that may be null: loaded, kept, asked -/
theorem gp_aload_n (hexec : p.tables.exec = Jvm.exec) (hb : c.code = cc) {k : Fin 4} {i : Nat} {x : Option Nat} (hdg : decode cc pc = .ok (.aload_n k, 1)) (hi : (k : Nat) = i) (hl : ls[i]? = some (.val (va_rf x))) (kk : W p l e R s m args below meth c H locs cells slots Q (F0 m (pc + 1) ls (va_rf x :: rest))) : W p l e R s m args below meth c H locs cells slots Q (F0 m pc ls rest) := by
  cases x with
  | none => exact lv_aload_nN hexec hb hdg hi hl kk
  | some a => exact lv_aload_n hexec hb hdg hi hl kk
theorem gp_aload (hexec : p.tables.exec = Jvm.exec) (hb : c.code = cc) {i : Nat} {x : Option Nat} (hdg : decode cc pc = .ok (.aload i, 2)) (hl : ls[i]? = some (.val (va_rf x))) (kk : W p l e R s m args below meth c H locs cells slots Q (F0 m (pc + 2) ls (va_rf x :: rest))) : W p l e R s m args below meth c H locs cells slots Q (F0 m pc ls rest) := by
  cases x with
  | none => exact lv_aloadN hexec hb hdg hl kk
  | some a => exact lv_aload hexec hb hdg hl kk
theorem gp_ifnull (hexec : p.tables.exec = Jvm.exec) (hb : c.code = cc) {x : Option Nat} {off : Int} {tgt : Nat} (hdg : decode cc pc = .ok (.ifnull off, 3)) (ht : (pc : Int) + off = (tgt : Int)) (kt : x = none → W p l e R s m args below meth c H locs cells slots Q (F0 m tgt ls rest)) (kf : ∀ a, x = some a → W p l e R s m args below meth c H locs cells slots Q (F0 m (pc + 3) ls rest)) : W p l e R s m args below meth c H locs cells slots Q (F0 m pc ls (va_rf x :: rest)) := by
  cases x with
  | none => exact lv_ifnullN hexec hb hdg ht (kt rfl)
  | some a => exact lv_ifnull hexec hb hdg (kf a rfl)
theorem gp_ifnonnull (hexec : p.tables.exec = Jvm.exec) (hb : c.code = cc) {x : Option Nat} {off : Int} {tgt : Nat} (hdg : decode cc pc = .ok (.ifnonnull off, 3)) (ht : (pc : Int) + off = (tgt : Int)) (kt : ∀ a, x = some a → W p l e R s m args below meth c H locs cells slots Q (F0 m tgt ls rest)) (kf : x = none → W p l e R s m args below meth c H locs cells slots Q (F0 m (pc + 3) ls rest)) : W p l e R s m args below meth c H locs cells slots Q (F0 m pc ls (va_rf x :: rest)) := by
  cases x with
  | none => exact lv_ifnonnullN hexec hb hdg (kf rfl)
  | some a => exact lv_ifnonnull hexec hb hdg ht (kt a rfl)
end GPR
/-! the pure side: what a method answers, as an Option (none: it does not come to an answer, an index outside its row ..) -/
theorem gfit_z {x : Int32} (h : x = 0 ∨ x = 1) : narrow .boolean (.int x) = .int x ∧ fits .boolean (.int x) = true := by rcases h with rfl | rfl <;> exact ⟨by decide, by decide⟩
def gC (p : Program) (s : State) (m : MethodId) (args : Array Value) (meth : Method) (c : Code) (cc : ByteArray) (nL : Nat) (ret : Option FieldType) (ws : List Cond) (own : String) (D : va_G) (b : GB) (ty : List (ClassId × FieldType)) : Prop :=
  p.tables.exec = Jvm.exec ∧ c.code = cc ∧ meth.sig.returnType = ret ∧ c.maxLocals = nL ∧ s.vm.findClass own = some m.cls ∧ (∀ w ∈ ws, w.before args s = true) ∧ meth.locks = false ∧ gKn D b ty s ∧ ∀ q, q < b.1 → s.heap[q]? = b.2.1[q]?
theorem gp_met {l : Launch} {y : MethodName} {ws ws' : List Cond} {rm : Room} {av : List Value} {D : va_G} {b : GB} {M M1 : Nat} {gh g1 : Nat → va_E} {ty : List (ClassId × FieldType)} {v : Option Value} {mc ms : Nat} {cc : ByteArray} {maxL : Nat} {ret : Option FieldType} {own : String} (hy : plainName y.cls = true) (hw : ws = Cond.code y cc maxL ret :: ws') (hlen : (lg_sl av).length ≤ maxL)
    (body : ∀ (p : Program) (e : Env) (s : State) (m : MethodId) (below : List Frame) (meth : Method) (c : Code), gC p s m av.toArray meth c cc maxL ret ws own D b ty → ∀ (ls : Array Slot), GP D b M gh s.heap → lv_has ls maxL (lv_args 0 av) → W p l e rm s m av.toArray below meth c s.heap [] 0 0 (MQ below (gQ D b v M1 g1) av.toArray s mc ms (gA b)) (F0 m 0 ls [])) (ho : y.cls = own := by rfl) : Met l y ws rm (va_Pc av (gPre D b M gh ty)) (gQ D b v M1 g1) mc ms (gA b) := by
  refine Met.ofW (cc := cc) (maxL := maxL) (ret := ret) hy hw ?_
  intro p e s m args below meth c s₁ B hml hv
  obtain ⟨rfl, hG, hK⟩ := hv
  have hl := lv_entry av hlen
  rw [lg_entry_eq]
  exact body p e s m below meth c ⟨B.exec, B.bytes, B.returns, hml, by rw [← ho]; exact findClass_of_methodNamed B.named, atoms_spec (ws := ws) B.pre, B.notSynchronized, hK, hG.2.2.2⟩ _ hG hl
