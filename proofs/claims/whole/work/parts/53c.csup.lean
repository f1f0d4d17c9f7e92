theorem TX0_5 : TX0 = TX5 := by
  funext k
  match k with
  | 0 => rfl
  | 1 => rfl
  | 2 => rfl
  | 3 => rfl
  | k + 4 => rfl
theorem TX1_5 : TX1 = TX5 := by
  funext k
  match k with
  | 0 => rfl
  | 1 => rfl
  | 2 => rfl
  | 3 => rfl
  | k + 4 => rfl
theorem TX3_5 : TX3 = TX5 := by
  funext k
  match k with
  | 0 => rfl
  | 1 => rfl
  | 2 => rfl
  | 3 => rfl
  | k + 4 => rfl
theorem TX4_5 : TX4 = TX5 := by
  funext k
  match k with
  | 0 => rfl
  | 1 => rfl
  | 2 => rfl
  | 3 => rfl
  | k + 4 => rfl
theorem TX7_5 : TX7 = TX5 := by
  funext k
  match k with
  | 0 => rfl
  | 1 => rfl
  | 2 => rfl
  | 3 => rfl
  | k + 4 => rfl
theorem TX8_5 : TX8 = TX5 := by
  funext k
  match k with
  | 0 => rfl
  | 1 => rfl
  | 2 => rfl
  | 3 => rfl
  | k + 4 => rfl
theorem gLC_7 {c : Nat} (h : c ∈ gLC) : c = 0 ∨ c = 1 ∨ c = 2 ∨ c = 3 ∨ c = 4 ∨ c = 6 ∨ c = 7 := by simpa [gLC] using h
theorem g37 {c : Nat} (h : c ∈ [3, 7]) : c = 3 ∨ c = 7 := by simpa using h
theorem gcl_1 {ci N : Nat} {C : String} {T : u_T} {Ts : List Cond} (hc : vwCl[ci]? = some (C, T, N)) (h : ∀ w ∈ u_ws C T N, w ∈ Ts) : gcl [ci] T N Ts := by
  intro q hq
  have e := List.mem_singleton.mp hq
  subst e
  exact ⟨C, hc, h⟩
theorem gcl_L {Ts : List Cond} (h0 : ∀ w ∈ u_ws RX0 TX0 5, w ∈ Ts) (h1 : ∀ w ∈ u_ws RX1 TX1 5, w ∈ Ts) (h3 : ∀ w ∈ u_ws RX3 TX3 5, w ∈ Ts) (h4 : ∀ w ∈ u_ws RX4 TX4 5, w ∈ Ts) (h5 : ∀ w ∈ u_ws RX5 TX5 5, w ∈ Ts) (h7 : ∀ w ∈ u_ws RX7 TX7 5, w ∈ Ts) (h8 : ∀ w ∈ u_ws RX8 TX8 5, w ∈ Ts) : gcl gLC TX5 5 Ts := by
  intro c hc
  rcases gLC_7 hc with rfl | rfl | rfl | rfl | rfl | rfl | rfl
  · exact ⟨RX0, by rw [← TX0_5]; rfl, by rw [← TX0_5]; exact h0⟩
  · exact ⟨RX1, by rw [← TX1_5]; rfl, by rw [← TX1_5]; exact h1⟩
  · exact ⟨RX3, by rw [← TX3_5]; rfl, by rw [← TX3_5]; exact h3⟩
  · exact ⟨RX4, by rw [← TX4_5]; rfl, by rw [← TX4_5]; exact h4⟩
  · exact ⟨RX5, rfl, h5⟩
  · exact ⟨RX7, by rw [← TX7_5]; rfl, by rw [← TX7_5]; exact h7⟩
  · exact ⟨RX8, by rw [← TX8_5]; rfl, by rw [← TX8_5]; exact h8⟩
theorem gcat_rf (v : Option Nat) : (va_rf v).category = 1 := by cases v <;> rfl
theorem gcat_ref (a : Nat) : (Value.ref a).category = 1 := rfl
theorem gcat_int (x : Int32) : (Value.int x).category = 1 := rfl
theorem gcat_long (x : Int64) : (Value.long x).category = 2 := rfl
theorem gcat_null : Value.null.category = 1 := rfl
theorem gnar_R {cn : String} {v : Option Nat} : narrow (.object cn) (va_rf v) = va_rf v := by cases v <;> rfl
theorem gfit_R {cn : String} {v : Option Nat} : fits (.object cn) (va_rf v) = true := by cases v <;> rfl
/-! String constants -/
theorem gb_si {α : Type} {i : Nat} {k : Option α} {r : α} (h : gsi i k = some r) : i < 6 ∧ k = some r := by
  unfold gsi at h
  by_cases q : i < 6
  · rw [if_pos q] at h; exact ⟨q, h⟩
  · rw [if_neg q] at h; cases h
theorem gb_nc {α : Type} {x : Int32} {k : Option α} {r : α} (h : gnc x k = some r) : narrow .char (.int x) = .int x ∧ k = some r := by
  unfold gnc at h
  by_cases q : (x.toUInt32 % 65536).toInt32 = x
  · rw [if_pos q] at h
    refine ⟨?_, h⟩
    have := pk_nc x
    rw [q] at this
    exact this
  · rw [if_neg q] at h; cases h
theorem gs_kept {b : GB} {s : State} (hBs : ∀ q, q < b.1 → s.heap[q]? = b.2.1[q]?) : ∀ a : Nat, a < b.2.1.size → ¬ gA b a → s.heap[a]? = b.2.1[a]? := fun a _ h => hBs a (Nat.not_le.mp h)
theorem gs_E {D : va_G} {b : GB} {ty : List (ClassId × FieldType)} {s : State} (hKn : gKn D b ty s) (hBs : ∀ q, q < b.1 → s.heap[q]? = b.2.1[q]?) : vk_S 6 gSl gSb b.2.2.1 b.2.2.2 (gA b) s s.heap := hKn.2.2.2.2.1.kept (gs_kept hBs)
theorem gs_Z {D : va_G} {b : GB} {ty : List (ClassId × FieldType)} {s : State} (hKn : gKn D b ty s) (hBs : ∀ q, q < b.1 → s.heap[q]? = b.2.1[q]?) : va_Z "java/lang/String" "COMPACT_STRINGS" "Z" (.int 1) (gA b) s s.heap := hKn.2.2.2.2.2.2.1.kept (gs_kept hBs)
theorem gs_Zq {D : va_G} {b : GB} {ty : List (ClassId × FieldType)} {s : State} (hKn : gKn D b ty s) (hBs : ∀ q, q < b.1 → s.heap[q]? = b.2.1[q]?) : va_Zq "jdk/internal/util/Preconditions" "SIOOBE_FORMATTER" "Ljava/util/function/BiFunction;" (gA b) s s.heap := hKn.2.2.2.2.2.2.2.kept (gs_kept hBs)
theorem gzq {C n d : String} {A : Nat → Prop} {U : State} {H : Heap} (h : va_Zq C n d A U H) : ∃ z : Option Nat, va_Z C n d (va_rf z) A U H := by
  rcases h with h | ⟨t, h⟩
  · exact ⟨none, h⟩
  · exact ⟨some t, h⟩
theorem gs_preV {D : va_G} {b : GB} {M : Nat} {gh : Nat → va_E} {ty : List (ClassId × FieldType)} {av : List Value} {s : State} {H : Heap} {locs : List Loc} {i : Nat} (hK : gKn D b ty s) (hG : GP D b M gh H) (hE : vk_S 6 gSl gSb b.2.2.1 b.2.2.2 (gA b) s s.heap) (hi : i < 6) (hS : va_S (gA b) s.heap H locs) : PreV s H RJ0 (b.2.2.1 i) (va_Pc (.ref (b.2.2.1 i) :: av) (gPre D b M gh ty)) av := ⟨gp_blind, vk_recv hE hi hS, fun U hU hW => ⟨rfl, by rw [hU]; exact hG, hK.warm hW⟩⟩
section GCS
variable {p : Program} {l : Launch} {e : Env} {R : Room} {s : State} {m : MethodId} {args : Array Value} {below : List Frame} {meth : Method} {c : Code} {H : Heap} {locs : List Loc} {cells slots : Nat} {Q : State → Prop}
variable {cc : ByteArray} {pc : Nat} {ls : Array Slot} {rest st0 : List Value} {D : va_G} {b : GB} {M : Nat} {gv : Nat → GV} {gh g1 : Nat → va_E} {a : Nat} {cI cL : ClassId}
theorem gsame_X1_ownCell (h : (Cond.sameField "LampsThatRemember$Carried" "LampsThatRemember$Lamp" "ownCell" "I").before args s = true) : ∀ x, s.fieldFound? (TX5 0).1 (TX5 0).2.1 (TX5 0).2.2.1 = some x → s.fieldFound? "LampsThatRemember$Carried" (TX5 0).2.1 (TX5 0).2.2.1 = some x := fun x hx => u_same h x hx
theorem gsame_X8_size (h : (Cond.sameField "LampsThatRemember$Overlaid" "LampsThatRemember$Lamp" "size" "I").before args s = true) : ∀ x, s.fieldFound? (TX5 3).1 (TX5 3).2.1 (TX5 3).2.2.1 = some x → s.fieldFound? "LampsThatRemember$Overlaid" (TX5 3).2.1 (TX5 3).2.2.1 = some x := fun x hx => u_same h x hx
theorem gp_dupR (hexec : p.tables.exec = Jvm.exec) (hb : c.code = cc) {x : Option Nat} (hdg : decode cc pc = .ok (.dup, 1)) (kk : W p l e R s m args below meth c H locs cells slots Q (F0 m (pc + 1) ls (va_rf x :: va_rf x :: rest))) : W p l e R s m args below meth c H locs cells slots Q (F0 m pc ls (va_rf x :: rest)) := by
  cases x with
  | none => exact lv_dup hexec hb hdg rfl kk
  | some a => exact lv_dup hexec hb hdg rfl kk
theorem gp_popR (hexec : p.tables.exec = Jvm.exec) (hb : c.code = cc) {x : Option Nat} (hdg : decode cc pc = .ok (.pop, 1)) (kk : W p l e R s m args below meth c H locs cells slots Q (F0 m (pc + 1) ls rest)) : W p l e R s m args below meth c H locs cells slots Q (F0 m pc ls (va_rf x :: rest)) := by
  cases x with
  | none => exact lv_pop hexec hb hdg rfl kk
  | some a => exact lv_pop hexec hb hdg rfl kk
theorem gp_astore_n (hexec : p.tables.exec = Jvm.exec) (hb : c.code = cc) {k : Fin 4} {i nL : Nat} {x : Option Nat} {lv lv' : List (Nat × Value)} (hdg : decode cc pc = .ok (.astore_n k, 1)) (hi : (k : Nat) = i) (h : lv_has ls nL lv) (hn : i < nL) (hl : (i, va_rf x) :: lv.filter (fun q => !(q.1 == i) && !(q.1 + 1 == i && q.2.category == 2)) = lv')
    (kk : ∀ ls' : Array Slot, lv_has ls' nL lv' → W p l e R s m args below meth c H locs cells slots Q (F0 m (pc + 1) ls' rest)) : W p l e R s m args below meth c H locs cells slots Q (F0 m pc ls (va_rf x :: rest)) := by
  cases x with
  | none => exact lv_astore_nN hexec hb hdg hi h hn hl kk
  | some a => exact lv_astore_n hexec hb hdg hi h hn hl kk
theorem gp_astore (hexec : p.tables.exec = Jvm.exec) (hb : c.code = cc) {i nL : Nat} {x : Option Nat} {lv lv' : List (Nat × Value)} (hdg : decode cc pc = .ok (.astore i, 2)) (h : lv_has ls nL lv) (hn : i < nL) (hl : (i, va_rf x) :: lv.filter (fun q => !(q.1 == i) && !(q.1 + 1 == i && q.2.category == 2)) = lv')
    (kk : ∀ ls' : Array Slot, lv_has ls' nL lv' → W p l e R s m args below meth c H locs cells slots Q (F0 m (pc + 2) ls' rest)) : W p l e R s m args below meth c H locs cells slots Q (F0 m pc ls (va_rf x :: rest)) := by
  cases x with
  | none => exact lv_astoreN hexec hb hdg h hn hl kk
  | some a => exact lv_astore hexec hb hdg h hn hl kk
theorem gp_newq (hexec : p.tables.exec = Jvm.exec) (hb : c.code = cc) {own : String} {index : Nat} (hown : s.vm.findClass own = some m.cls) (hclink : (Cond.classLink own index "LampsThatRemember$Lamp").before args s = true) (hKn : gKn D b (gTy cI cL) s) (hG : GP D b M gh H) (hS : va_S (gA b) s.heap H locs)
    {n : Int32} {N' : Nat} (hn : ¬ n < 0) (hN : n.toNatClampNeg = N') (hbytes : N' * 4 ≤ 536870912) (hcells : cells + 1 ≤ R.cells) (hslots : slots + N' ≤ R.slots) (hg1 : va_up gh M (gRef cL N' (fun _ => none)) = g1) (hdg : decode cc pc = .ok (.anewarray index, 3))
    (kk : ∀ (H1 : Heap), GP D b (M + 1) g1 H1 → va_S (gA b) s.heap H1 locs → W p l e R s m args below meth c H1 locs (cells + 1) (slots + N') Q (F0 m (pc + 3) ls (.ref M :: rest))) : W p l e R s m args below meth c H locs cells slots Q (F0 m pc ls (.int n :: rest)) := by
  subst hg1
  subst hN
  refine W.anew hexec hb hown hclink (va_AO.use hKn.2.2.2.1) rfl hdg rfl hn hbytes hcells hslots fun cA kA comp f1 f2 f3 f4 => ?_
  generalize hH1 : H.push ({ cls := cA, slots := Array.replicate n.toNatClampNeg .null, vm := .none } : Cell) = H1
  have z1 : H1.size = M + 1 := by rw [← hH1, Array.size_push, hG.2.1]
  have e1 : H1[M]? = some (arrV cA n.toNatClampNeg (fun _ => .null)) := by rw [← hH1, ← hG.2.1, Array.getElem?_push_size, ← arrV_new]
  have o1 : ∀ q : Nat, q < M → H1[q]? = H[q]? := fun q hq => by rw [← hH1, Array.getElem?_push, if_neg (by rw [hG.2.1]; exact Nat.ne_of_lt hq)]
  obtain ⟨-, kA2, comp2, h1, h2, h3, h4⟩ := hKn.1.2 1 _ rfl
  have hcA : cA = cL := Option.some.inj (f1.symm.trans h4)
  subst hcA
  have hM : H.size = M := hG.2.1
  rw [hM]
  exact kk H1 (hG.new e1 z1 o1) ⟨Nat.le_trans hS.1 (by rw [z1, hM]; omega), fun x q1 q2 => (o1 x (Nat.lt_of_lt_of_le q1 (by rw [← hM]; exact hS.1))).trans (hS.2.1 x q1 q2), hS.2.2⟩
theorem gp_aast2 (hexec : p.tables.exec = Jvm.exec) (hb : c.code = cc) (hK : va_K D vwCl (gTy cI cL) s) (hG : GP D b M gh H) (hS : va_S (gA b) s.heap H locs) {n : Nat} {f : Nat → Option Nat} (he : gh a = gRef cL n f) {v ci : Nat} {fs : List Value} {r : vw_C} (hv : gh v = .inr (ci, fs)) (hc : vwCl[ci]? = some r) (hca : r.1 = "LampsThatRemember$Lamp" ∨ va_Nw (.castable r.1 "LampsThatRemember$Lamp") s) {i : Int32} (hin : vp_in i n) (hg1 : va_up gh a (gRef cL n (va_up f i.toNatClampNeg (some v))) = g1) (hdg : decode cc pc = .ok (.aastore, 1))
    (kk : ∀ (H1 : Heap) (locs1 : List Loc), GP D b M g1 H1 → va_S (gA b) s.heap H1 locs1 → W p l e R s m args below meth c H1 locs1 cells slots Q (F0 m (pc + 1) ls rest)) : W p l e R s m args below meth c H locs cells slots Q (F0 m pc ls (.ref v :: .int i :: .ref a :: rest)) := by
  subst hg1
  have hba := gp_b hG he gJ_a
  have hlt : i.toNatClampNeg < n := Nat.not_le.mp fun q => hin (Or.inr q)
  have h0 : ¬ i < 0 := fun q => hin (Or.inl q)
  obtain ⟨r', hr', cellV, g1, g2, g3, -⟩ := gp_one hG hv (gJ_o hc) 0 _ rfl
  have hcls := (hK.1 ci r hc).2
  obtain ⟨kA, comp, k1, k2, k3, -⟩ := (hK.2 1 _ rfl).2
  obtain ⟨kE, hkE, -⟩ := Vm.findClass_spec k3
  have hass : s.vm.assignable (D.1 ci) comp = true := by
    rcases hca with hca | hca
    · have hcomp : comp = D.1 ci := Option.some.inj (k3.symm.trans (by rw [← hca]; exact hcls.1))
      rw [hcomp]
      exact va_assign hcls
    · obtain ⟨c0, t1, f1, f2, f3⟩ := Cond.castable_spec (va_Nw.use (A := args) rfl hca)
      cases hcls.1.symm.trans f1
      cases k3.symm.trans f2
      exact f3
  obtain ⟨kC, hkC, -⟩ := hcls.2
  refine W.aast hexec hb (gp_one hG he gJ_a 0 _ rfl) (fun q h => by cases h) (fun h => by cases h) k1 k2 rfl hkE ⟨h0, by show _ < (arrV _ _ _).slots.size; rw [arrV_size]; exact hlt⟩ g1 (fun q h => by rw [g3] at h; cases h) (by rw [g2]; exact hkC) (by rw [g2]; exact hass) rfl rfl hdg fun H1 e z oq => ?_
  refine kk H1 _ (hG.put hba ?_ z oq) (hS.put z oq hba)
  show H1[a]? = some (vp_cell _ _)
  rw [e]
  rw [vp_cell_q, vp_cell_q, arrV_store]
  congr 2
  funext q
  by_cases hq : q = i.toNatClampNeg
  · subst hq
    simp [updV, va_up, va_rf]
  · simp [updV, va_up, hq]
theorem cp_aast (hexec : p.tables.exec = Jvm.exec) (hb : c.code = cc) (hKn : gKn D b (gTy cI cL) s) {x : Option Nat} (hG : GP D b M (gW cI cL gv) H) (hS : va_S (gA b) s.heap H locs) {i : Int32} {g2 : Nat → GV} (h : gars gv a i x = some g2) (hdg : decode cc pc = .ok (.aastore, 1))
    (kk : ∀ (H1 : Heap) (locs1 : List Loc), GP D b M (gW cI cL g2) H1 → va_S (gA b) s.heap H1 locs1 → W p l e R s m args below meth c H1 locs1 cells slots Q (F0 m (pc + 1) ls rest)) : W p l e R s m args below meth c H locs cells slots Q (F0 m pc ls (va_rf x :: .int i :: .ref a :: rest)) := by
  obtain ⟨o, h1, h2⟩ := gb_b h
  obtain ⟨h3, h4⟩ := gb_ix h2
  have he : gW cI cL gv a = gRef cL o.1 o.2 := by unfold gW; rw [gaR_s h1]; rfl
  cases x with
  | none =>
    have h5 := Option.some.inj h4
    subst h5
    exact gp_aastN hexec hb hKn.1 hG hS he h3 (gW_up (e := .inr (.inr (o.1, va_up o.2 i.toNatClampNeg none)))) hdg kk
  | some v =>
    obtain ⟨q, h5, h6⟩ := gb_b h4
    have h6 := Option.some.inj h6
    subst h6
    obtain ⟨h7, h8⟩ := gfO_s h5
    obtain ⟨kc, fc⟩ := q
    dsimp only at h8
    have fin : ∀ {r : vw_C}, vwCl[kc]? = some r → (r.1 = "LampsThatRemember$Lamp" ∨ va_Nw (.castable r.1 "LampsThatRemember$Lamp") s) → W p l e R s m args below meth c H locs cells slots Q (F0 m pc ls (.ref v :: .int i :: .ref a :: rest)) := fun hc hca => gp_aast2 hexec hb hKn.1 hG hS he (cp_obj h7) hc hca h3 (gW_up (e := .inr (.inr (o.1, va_up o.2 i.toNatClampNeg (some v))))) hdg kk
    rcases gLC_7 h8 with rfl | rfl | rfl | rfl | rfl | rfl | rfl
    · exact fin rfl (Or.inr (hKn.2.2.1 "LampsThatRemember$Candle" (by simp [gCa])))
    · exact fin rfl (Or.inr (hKn.2.2.1 "LampsThatRemember$Carried" (by simp [gCa])))
    · exact fin rfl (Or.inr (hKn.2.2.1 "LampsThatRemember$Dim" (by simp [gCa])))
    · exact fin rfl (Or.inr (hKn.2.2.1 "LampsThatRemember$Flickering" (by simp [gCa])))
    · exact fin rfl (Or.inl rfl)
    · exact fin rfl (Or.inr (hKn.2.2.1 "LampsThatRemember$Moon" (by simp [gCa])))
    · exact fin rfl (Or.inr (hKn.2.2.1 "LampsThatRemember$Overlaid" (by simp [gCa])))
theorem gp_retS {mc ms : Nat} {i : Nat} {cn : String} (hexec : p.tables.exec = Jvm.exec) (hb : c.code = cc) (hr : meth.sig.returnType = some (.object cn)) (hlocks : meth.locks = false) (hG : GP D b M gh H) (hS : va_S (gA b) s.heap H locs) (h1 : cells ≤ mc) (h2 : slots ≤ ms) (hdg : decode cc pc = .ok (.areturn, 1)) : W p l e R s m args below meth c H locs cells slots (MQ below (gQ D b (some (.ref i)) M gh) args s mc ms (gA b)) (F0 m pc ls [.ref i]) :=
  W.widen h1 h2 (W.aret hexec hb hr (Or.inl ⟨_, rfl⟩) (Or.inr ⟨_, rfl⟩) (fun t ht hW => ⟨rfl, by rw [ht]; exact hG, hS.F ht⟩) hS.2.2 hdg hlocks)
theorem gp_retC {mc ms : Nat} {v : Int32} (hexec : p.tables.exec = Jvm.exec) (hb : c.code = cc) (hr : meth.sig.returnType = some .char) (hn : narrow .char (.int v) = .int v) (hlocks : meth.locks = false) (hG : GP D b M gh H) (hS : va_S (gA b) s.heap H locs) (h1 : cells ≤ mc) (h2 : slots ≤ ms) (hdg : decode cc pc = .ok (.ireturn, 1)) : W p l e R s m args below meth c H locs cells slots (MQ below (gQ D b (some (.int v)) M gh) args s mc ms (gA b)) (F0 m pc ls [.int v]) :=
  W.widen h1 h2 (W.zret hexec hb hr hn (fun t ht hW => ⟨rfl, by rw [ht]; exact hG, hS.F ht⟩) hS.2.2 hdg hlocks)
theorem gp_retB {mc ms : Nat} {v : Int32} (hexec : p.tables.exec = Jvm.exec) (hb : c.code = cc) (hr : meth.sig.returnType = some .byte) (hn : narrow .byte (.int v) = .int v) (hlocks : meth.locks = false) (hG : GP D b M gh H) (hS : va_S (gA b) s.heap H locs) (h1 : cells ≤ mc) (h2 : slots ≤ ms) (hdg : decode cc pc = .ok (.ireturn, 1)) : W p l e R s m args below meth c H locs cells slots (MQ below (gQ D b (some (.int v)) M gh) args s mc ms (gA b)) (F0 m pc ls [.int v]) :=
  W.widen h1 h2 (W.zret hexec hb hr hn (fun t ht hW => ⟨rfl, by rw [ht]; exact hG, hS.F ht⟩) hS.2.2 hdg hlocks)
theorem gp_callS {mc ms : Nat} {ar : Array Value} {v : Nat} {M1 : Nat} (hr : va_Run p l e R s m args below meth c H locs cells slots mc ms (F0 m pc ls st0) rest (gQ D b (some (.ref v)) M1 g1 ar) (gA b)) (hS : va_S (gA b) s.heap H locs)
    (kk : ∀ (H1 : Heap) (locs1 : List Loc), GP D b M1 g1 H1 → va_S (gA b) s.heap H1 locs1 → W p l e R s m args below meth c H1 locs1 (cells + mc) (slots + ms) Q (F0 m (pc + 3) ls (.ref v :: rest))) : W p l e R s m args below meth c H locs cells slots Q (F0 m pc ls st0) := gp_callG hr hS kk
end GCS
/-- a constructor -/
theorem gp_metI {l : Launch} {y : MethodName} {ws ws' : List Cond} {rm : Room} {av : List Value} {D : va_G} {b : GB} {M M1 : Nat} {gh g1 : Nat → va_E} {ty : List (ClassId × FieldType)} {v : Option Value} {mc ms : Nat} {cc : ByteArray} {maxL : Nat} {ret : Option FieldType} {own : String} (hy : plainName y.cls = true) (hw : ws = Cond.code y cc maxL ret :: ws') (hlen : (lg_sl av).length ≤ maxL)
    (body : ∀ (p : Program) (e : Env) (s : State) (m : MethodId) (below : List Frame) (meth : Method) (c : Code), gC p s m av.toArray meth c cc maxL ret ws own D b ty → meth.name = "<init>" → ∀ (ls : Array Slot), GP D b M gh s.heap → lv_has ls maxL (lv_args 0 av) → W p l e rm s m av.toArray below meth c s.heap [] 0 0 (MQ below (gQ D b v M1 g1) av.toArray s mc ms (gA b)) (F0 m 0 ls [])) (ho : y.cls = own := by rfl) (hn : y.name = "<init>" := by rfl) : Met l y ws rm (va_Pc av (gPre D b M gh ty)) (gQ D b v M1 g1) mc ms (gA b) := by
  refine Met.ofW (cc := cc) (maxL := maxL) (ret := ret) hy hw ?_
  intro p e s m args below meth c s₁ B hml hv
  obtain ⟨rfl, hG, hK⟩ := hv
  have hl := lv_entry av hlen
  rw [lg_entry_eq]
  exact body p e s m below meth c ⟨B.exec, B.bytes, B.returns, hml, by rw [← ho]; exact findClass_of_methodNamed B.named, atoms_spec (ws := ws) B.pre, B.notSynchronized, hK, hG.2.2.2⟩ ((name_of_methodNamed B.named B.method).1.trans hn) _ hG hl
