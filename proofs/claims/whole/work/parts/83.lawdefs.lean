/-! THE CLAIM OUT OF ONE WALK OF THE LAW'S BODY. Your part is whole_start (and what it stands on); all else here is the same for every law, but numbers. -/
def R_law : String := "LampsThatRememberLaw"
def lw_P (b : Addr) (xs : List Int32) (args : Array Value) (s : State) : Prop := args = #[.ref b] ∧ s.IntsAt b xs ∧ xs.length ≤ 2048 ∧ (Jvm.Cond.and given_1 narrow_1).before args s = true
def lw_Q (_ : Array Value) (s : State) (o : Outcome) (t : State) : Prop := o = .returned (some (.int 1)) ∧ Framed s o t [] 600000 7302250
def lw_Z (below : List Frame) (a : Array Value) (s : State) : State → Prop := fun t => ∃ o, t.status = .running ∧ Ended t below o ∧ lw_Q a s o t
/-- the law's own end, with 1 on the stack, nothing written that was there before, its room as the claim has it -/
theorem lw_ret {p : Program} {l : Launch} {e : Env} {s : State} {m : MethodId} {below : List Frame} {meth : Method} {c : Code} {b : Nat} (hx : p.tables.exec = Jvm.exec) (hb : c.code = code) (hr : meth.sig.returnType = ret) (hlocks : meth.locks = false) {pc : Nat} {H : Heap} {ls : Array Slot} (hdg : decode code pc = .ok (.ireturn, 1)) : W p l e room_1 s m #[Value.ref b] below meth c H [] 600000 7302250 (lw_Z below #[Value.ref b] s) (F0 m pc ls [.int 1]) := by
  intro T hT X
  obtain ⟨fs, hret, hrun, hended, hW, hframe⟩ := X.leave (v := some (.int 1)) (hlocks := hlocks) (fun h => by rw [hr] at h; cases h)
  have hmeth' : T.vm.method? m = some meth := X.method'
  refine ⟨T.setFrames fs, ?_, .returned (some (.int 1)), hrun, hended, rfl, ⟨_, rfl⟩, hW, hframe⟩
  jvm_step X.here [X.here.top, hx, hb, hdg, hmeth', hr, ret, narrow_b1]
  (try refine ⟨rfl, ?_⟩); (try refine ⟨rfl, ?_⟩)
  first | (intro acts; rw [hret _ acts rfl rfl rfl]) | rw [hret _ _ rfl rfl rfl]
  exact Steps.refl _
/-- what holds at the law's entry: the machine, the code, the tables' words (any of lw_tbl by 'hts w (by decide +kernel)'), the script of L ints xs at the cell b, what the Statement gives of the start (any of its parts by flat_of_before) -/
def lw_At (p : Program) (s : State) (m : MethodId) (meth : Method) (c : Code) (b L : Nat) (xs : Nat → Int32) : Prop :=
  p.tables.exec = Jvm.exec ∧ c.code = code ∧ meth.sig.returnType = ret ∧ c.maxLocals = 4 ∧ s.vm.findClass R_law = some m.cls ∧ (∀ w ∈ lw_tbl, w.before #[Value.ref b] s = true) ∧ va_X b L xs s s.heap ∧ b < s.heap.size ∧ meth.locks = false ∧ (Jvm.Cond.and given_1 narrow_1).before #[Value.ref b] s = true
/-- what holds in the law beside its own heap -/
def lC (p : Program) (s : State) (m : MethodId) (meth : Method) (c : Code) (b Ln : Nat) (xs : Nat → Int32) (D : va_G) (gb : GB) (cI cL : ClassId) : Prop := p.tables.exec = Jvm.exec ∧ c.code = code ∧ meth.sig.returnType = ret ∧ c.maxLocals = 4 ∧ s.vm.findClass RL = some m.cls ∧ (∀ w ∈ lw_tbl, w.before #[Value.ref b] s = true) ∧ va_X b Ln xs s s.heap ∧ b < s.heap.size ∧ ¬ gA gb b ∧ meth.locks = false ∧ gb.1 = s.heap.size ∧ gKn D gb (gTy cI cL) s
theorem mgv_W {cI cL : ClassId} {h0 : Nat} {gv : Nat → GV} {a_refused : Nat → Int32} {a_isWall : Nat → Int32} {a_kind : Nat → Int32} {a_lampCell : Nat → Int32} {a_range : Nat → Int32} {a_lit : Nat → Int32} {a_scenes : Nat → Int32} {a_who : Nat → Int32} {a_cell : Nat → Int32} {a_minuteOf : Nat → Int32} {a_standsAt : Nat → Int32} {i_lampMany : Int32} {i_people : Int32} {i_minute : Int32} {a_tape : Nat → Int32} {a_letter : Nat → Int32} {a_letterAt : Nat → Int32} {a_told : Nat → Int32} {i_taped : Int32} {i_at : Int32} {i_statements : Int32} {a_kept : Nat → Int32} {i_hasImage : Int32} {i_isKeeping : Int32} {i_cursor : Int32} {a_far : Nat → Int32} {a_shut : Nat → Int32} {a_queue : Nat → Int32} {i_queued : Int32} {a_litBy : Nat → Int32} {a_may : Nat → Int32} {a_row : Nat → Int32} {i_rowMany : Int32} : gW cI cL (mgv h0 a_refused a_isWall a_kind a_lampCell a_range a_lit a_scenes a_who a_cell a_minuteOf a_standsAt i_lampMany i_people i_minute a_tape a_letter a_letterAt a_told i_taped i_at i_statements a_kept i_hasImage i_isKeeping i_cursor a_far a_shut a_queue i_queued a_litBy a_may a_row i_rowMany gv) = mg cI h0 a_refused a_isWall a_kind a_lampCell a_range a_lit a_scenes a_who a_cell a_minuteOf a_standsAt i_lampMany i_people i_minute a_tape a_letter a_letterAt a_told i_taped i_at i_statements a_kept i_hasImage i_isKeeping i_cursor a_far a_shut a_queue i_queued a_litBy a_may a_row i_rowMany (gW cI cL gv) := by
  funext q
  unfold gW mgv mg
  by_cases e : q = h0
  · rw [if_pos e, if_pos e]
    rfl
  rw [if_neg e, if_neg e]
  by_cases e : q = h0 + 1
  · rw [if_pos e, if_pos e]
    rfl
  rw [if_neg e, if_neg e]
  by_cases e : q = h0 + 2
  · rw [if_pos e, if_pos e]
    rfl
  rw [if_neg e, if_neg e]
  by_cases e : q = h0 + 3
  · rw [if_pos e, if_pos e]
    rfl
  rw [if_neg e, if_neg e]
  by_cases e : q = h0 + 4
  · rw [if_pos e, if_pos e]
    rfl
  rw [if_neg e, if_neg e]
  by_cases e : q = h0 + 5
  · rw [if_pos e, if_pos e]
    rfl
  rw [if_neg e, if_neg e]
  by_cases e : q = h0 + 6
  · rw [if_pos e, if_pos e]
    rfl
  rw [if_neg e, if_neg e]
  by_cases e : q = h0 + 7
  · rw [if_pos e, if_pos e]
    rfl
  rw [if_neg e, if_neg e]
  by_cases e : q = h0 + 8
  · rw [if_pos e, if_pos e]
    rfl
  rw [if_neg e, if_neg e]
  by_cases e : q = h0 + 9
  · rw [if_pos e, if_pos e]
    rfl
  rw [if_neg e, if_neg e]
  by_cases e : q = h0 + 10
  · rw [if_pos e, if_pos e]
    rfl
  rw [if_neg e, if_neg e]
  by_cases e : q = h0 + 11
  · rw [if_pos e, if_pos e]
    rfl
  rw [if_neg e, if_neg e]
  by_cases e : q = h0 + 12
  · rw [if_pos e, if_pos e]
    rfl
  rw [if_neg e, if_neg e]
  by_cases e : q = h0 + 13
  · rw [if_pos e, if_pos e]
    rfl
  rw [if_neg e, if_neg e]
  by_cases e : q = h0 + 14
  · rw [if_pos e, if_pos e]
    rfl
  rw [if_neg e, if_neg e]
  by_cases e : q = h0 + 15
  · rw [if_pos e, if_pos e]
    rfl
  rw [if_neg e, if_neg e]
  by_cases e : q = h0 + 16
  · rw [if_pos e, if_pos e]
    rfl
  rw [if_neg e, if_neg e]
  by_cases e : q = h0 + 17
  · rw [if_pos e, if_pos e]
    rfl
  rw [if_neg e, if_neg e]
  by_cases e : q = h0 + 18
  · rw [if_pos e, if_pos e]
    rfl
  rw [if_neg e, if_neg e]
  by_cases e : q = h0 + 19
  · rw [if_pos e, if_pos e]
    rfl
  rw [if_neg e, if_neg e]
  by_cases e : q = h0 + 20
  · rw [if_pos e, if_pos e]
    rfl
  rw [if_neg e, if_neg e]
  by_cases e : q = h0 + 21
  · rw [if_pos e, if_pos e]
    rfl
  rw [if_neg e, if_neg e]
  by_cases e : q = h0 + 22
  · rw [if_pos e, if_pos e]
    rfl
  rw [if_neg e, if_neg e]
