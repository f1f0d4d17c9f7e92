/-! THE START: both objects made -/
def gv0 : Nat → GV := fun _ => .inl (1000, [])
theorem init11 {M : Nat} : ∃ g, f_X11_init (va_up gv0 M (.inl (9, [.null, .null, .null, .null, .null, .null, .int 0, .int 0]))) (M + 1) M = some (g, M + 14) ∧ g M = .inl (9, [.ref (M + 1), .ref (M + 3), .ref (M + 4), .ref (M + 5), .ref (M + 8), .ref (M + 11), .int 0, .int 0]) ∧ g (M + 1) = .inl (5, [.ref (M + 2), .int 0]) ∧ g (M + 2) = .inr (.inl (96, fun _ => 0)) ∧ g (M + 3) = .inr (.inl (12, fun _ => 0)) ∧ g (M + 4) = .inr (.inl (7, fun _ => 0)) ∧ ∀ i, i = 5 ∨ i = 8 ∨ i = 11 → g (M + i) = .inl (8, [.ref (M + i + 1), .ref (M + i + 2), .long 0, .int 0, .int 0, .int 0]) ∧ g (M + i + 1) = .inr (.inr (6, fun _ => none)) ∧ g (M + i + 2) = .inr (.inl (4, fun _ => 0)) := by
  refine ⟨?_, ?_⟩
  rotate_left
  · refine ⟨?_, ?_, ?_, ?_, ?_, ?_, ?_⟩
    · unfold f_X11_init f_X6_init f_X10_init
      simp [gpu, gfO, va_up, Nat.add_assoc]
      rfl
    · simp [va_up, Nat.add_assoc]
    · simp [va_up, Nat.add_assoc]
    · simp [va_up, Nat.add_assoc]
    · simp [va_up, Nat.add_assoc]
    · simp [va_up, Nat.add_assoc]
    · rintro i (rfl | rfl | rfl) <;> simp [va_up, Nat.add_assoc]
theorem st12 {g : Nat → GV} {M a k n : Nat} {fs : List Value} (h : g M = .inl (10, fs)) (ha : a ≠ M) (hk : k < fs.length) : ∃ g', gpu (va_up g a (.inr (.inl (n, fun _ => 0)))) M [10] k (.ref a) = some g' ∧ g' M = .inl (10, fs.set k (.ref a)) ∧ g' a = .inr (.inl (n, fun _ => 0)) ∧ ∀ q, q ≠ M → q ≠ a → g' q = g q :=
  ⟨_, gpu_of ((va_ne (Ne.symm ha)).trans h) (by decide) hk, va_up_self _ _ _, (va_ne ha).trans (va_up_self _ _ _), fun q q1 q2 => (va_ne q1).trans (va_ne q2)⟩
theorem init12 {M : Nat} {g : Nat → GV} : ∃ g2, f_X12_init (va_up g M (.inl (10, [.null, .null, .null, .null, .null, .null, .null, .null, .null, .null, .null, .int 0, .int 0, .int 0, .null, .null, .null, .null, .int 0, .int 0, .int 0, .null, .int 0, .int 0, .int 0, .null, .null, .null, .int 0, .null, .null, .null, .int 0]))) (M + 1) M = some (g2, M + 23) ∧ (g2 M = .inl (10, [.ref (M + 1), .ref (M + 2), .ref (M + 3), .ref (M + 4), .ref (M + 5), .ref (M + 6), .ref (M + 7), .ref (M + 8), .ref (M + 9), .ref (M + 10), .ref (M + 11), .int 0, .int 0, .int 0, .ref (M + 12), .ref (M + 13), .ref (M + 14), .ref (M + 15), .int 0, .int 0, .int 0, .ref (M + 16), .int 0, .int 0, .int 0, .ref (M + 17), .ref (M + 18), .ref (M + 19), .int 0, .ref (M + 20), .ref (M + 21), .ref (M + 22), .int 0]) ∧ g2 (M + 1) = .inr (.inl (7, fun _ => 0)) ∧ g2 (M + 2) = .inr (.inl (36, fun _ => 0)) ∧ g2 (M + 3) = .inr (.inl (6, fun _ => 0)) ∧ g2 (M + 4) = .inr (.inl (6, fun _ => 0)) ∧ g2 (M + 5) = .inr (.inl (6, fun _ => 0)) ∧ g2 (M + 6) = .inr (.inl (6, fun _ => 0)) ∧ g2 (M + 7) = .inr (.inl (6, fun _ => 0)) ∧ g2 (M + 8) = .inr (.inl (54, fun _ => 0)) ∧ g2 (M + 9) = .inr (.inl (54, fun _ => 0)) ∧ g2 (M + 10) = .inr (.inl (54, fun _ => 0)) ∧ g2 (M + 11) = .inr (.inl (4, fun _ => 0)) ∧ g2 (M + 12) = .inr (.inl (96, fun _ => 0)) ∧ g2 (M + 13) = .inr (.inl (48, fun _ => 0)) ∧ g2 (M + 14) = .inr (.inl (48, fun _ => 0)) ∧ g2 (M + 15) = .inr (.inl (144, fun _ => 0)) ∧ g2 (M + 16) = .inr (.inl (600, fun _ => 0)) ∧ g2 (M + 17) = .inr (.inl (36, fun _ => 0)) ∧ g2 (M + 18) = .inr (.inl (36, fun _ => 0)) ∧ g2 (M + 19) = .inr (.inl (36, fun _ => 0)) ∧ g2 (M + 20) = .inr (.inl (36, fun _ => 0)) ∧ g2 (M + 21) = .inr (.inl (36, fun _ => 0)) ∧ g2 (M + 22) = .inr (.inl (12, fun _ => 0))) ∧ ∀ q, (∀ i, i < 23 → q ≠ M + i) → g2 q = g q := by
  obtain ⟨t0, ht0⟩ : ∃ t0, t0 = va_up g M (.inl (10, [.null, .null, .null, .null, .null, .null, .null, .null, .null, .null, .null, .int 0, .int 0, .int 0, .null, .null, .null, .null, .int 0, .int 0, .int 0, .null, .int 0, .int 0, .int 0, .null, .null, .null, .int 0, .null, .null, .null, .int 0])) := ⟨_, rfl⟩
  have o0 : t0 M = .inl (10, [.null, .null, .null, .null, .null, .null, .null, .null, .null, .null, .null, .int 0, .int 0, .int 0, .null, .null, .null, .null, .int 0, .int 0, .int 0, .null, .int 0, .int 0, .int 0, .null, .null, .null, .int 0, .null, .null, .null, .int 0]) := by rw [ht0, va_up_self]
  have z0 : ∀ q, q ≠ M → t0 q = g q := fun q hq => by rw [ht0, va_ne hq]
  rw [← ht0]
  obtain ⟨t1, p1, o1, r1, z1⟩ := st12 (a := M + 1) (k := 0) (n := 7) o0 (by omega) (by simp)
  have o1 : t1 M = .inl (10, [.ref (M + 1), .null, .null, .null, .null, .null, .null, .null, .null, .null, .null, .int 0, .int 0, .int 0, .null, .null, .null, .null, .int 0, .int 0, .int 0, .null, .int 0, .int 0, .int 0, .null, .null, .null, .int 0, .null, .null, .null, .int 0]) := o1
  obtain ⟨t2, p2, o2, r2, z2⟩ := st12 (a := M + 1 + 1) (k := 1) (n := 36) o1 (by omega) (by simp)
  have o2 : t2 M = .inl (10, [.ref (M + 1), .ref (M + 2), .null, .null, .null, .null, .null, .null, .null, .null, .null, .int 0, .int 0, .int 0, .null, .null, .null, .null, .int 0, .int 0, .int 0, .null, .int 0, .int 0, .int 0, .null, .null, .null, .int 0, .null, .null, .null, .int 0]) := o2
  obtain ⟨t3, p3, o3, r3, z3⟩ := st12 (a := M + 1 + 1 + 1) (k := 2) (n := 6) o2 (by omega) (by simp)
  have o3 : t3 M = .inl (10, [.ref (M + 1), .ref (M + 2), .ref (M + 3), .null, .null, .null, .null, .null, .null, .null, .null, .int 0, .int 0, .int 0, .null, .null, .null, .null, .int 0, .int 0, .int 0, .null, .int 0, .int 0, .int 0, .null, .null, .null, .int 0, .null, .null, .null, .int 0]) := o3
  obtain ⟨t4, p4, o4, r4, z4⟩ := st12 (a := M + 1 + 1 + 1 + 1) (k := 3) (n := 6) o3 (by omega) (by simp)
  have o4 : t4 M = .inl (10, [.ref (M + 1), .ref (M + 2), .ref (M + 3), .ref (M + 4), .null, .null, .null, .null, .null, .null, .null, .int 0, .int 0, .int 0, .null, .null, .null, .null, .int 0, .int 0, .int 0, .null, .int 0, .int 0, .int 0, .null, .null, .null, .int 0, .null, .null, .null, .int 0]) := o4
  obtain ⟨t5, p5, o5, r5, z5⟩ := st12 (a := M + 1 + 1 + 1 + 1 + 1) (k := 4) (n := 6) o4 (by omega) (by simp)
  have o5 : t5 M = .inl (10, [.ref (M + 1), .ref (M + 2), .ref (M + 3), .ref (M + 4), .ref (M + 5), .null, .null, .null, .null, .null, .null, .int 0, .int 0, .int 0, .null, .null, .null, .null, .int 0, .int 0, .int 0, .null, .int 0, .int 0, .int 0, .null, .null, .null, .int 0, .null, .null, .null, .int 0]) := o5
  obtain ⟨t6, p6, o6, r6, z6⟩ := st12 (a := M + 1 + 1 + 1 + 1 + 1 + 1) (k := 5) (n := 6) o5 (by omega) (by simp)
  have o6 : t6 M = .inl (10, [.ref (M + 1), .ref (M + 2), .ref (M + 3), .ref (M + 4), .ref (M + 5), .ref (M + 6), .null, .null, .null, .null, .null, .int 0, .int 0, .int 0, .null, .null, .null, .null, .int 0, .int 0, .int 0, .null, .int 0, .int 0, .int 0, .null, .null, .null, .int 0, .null, .null, .null, .int 0]) := o6
  obtain ⟨t7, p7, o7, r7, z7⟩ := st12 (a := M + 1 + 1 + 1 + 1 + 1 + 1 + 1) (k := 6) (n := 6) o6 (by omega) (by simp)
  have o7 : t7 M = .inl (10, [.ref (M + 1), .ref (M + 2), .ref (M + 3), .ref (M + 4), .ref (M + 5), .ref (M + 6), .ref (M + 7), .null, .null, .null, .null, .int 0, .int 0, .int 0, .null, .null, .null, .null, .int 0, .int 0, .int 0, .null, .int 0, .int 0, .int 0, .null, .null, .null, .int 0, .null, .null, .null, .int 0]) := o7
  obtain ⟨t8, p8, o8, r8, z8⟩ := st12 (a := M + 1 + 1 + 1 + 1 + 1 + 1 + 1 + 1) (k := 7) (n := 54) o7 (by omega) (by simp)
  have o8 : t8 M = .inl (10, [.ref (M + 1), .ref (M + 2), .ref (M + 3), .ref (M + 4), .ref (M + 5), .ref (M + 6), .ref (M + 7), .ref (M + 8), .null, .null, .null, .int 0, .int 0, .int 0, .null, .null, .null, .null, .int 0, .int 0, .int 0, .null, .int 0, .int 0, .int 0, .null, .null, .null, .int 0, .null, .null, .null, .int 0]) := o8
  obtain ⟨t9, p9, o9, r9, z9⟩ := st12 (a := M + 1 + 1 + 1 + 1 + 1 + 1 + 1 + 1 + 1) (k := 8) (n := 54) o8 (by omega) (by simp)
  have o9 : t9 M = .inl (10, [.ref (M + 1), .ref (M + 2), .ref (M + 3), .ref (M + 4), .ref (M + 5), .ref (M + 6), .ref (M + 7), .ref (M + 8), .ref (M + 9), .null, .null, .int 0, .int 0, .int 0, .null, .null, .null, .null, .int 0, .int 0, .int 0, .null, .int 0, .int 0, .int 0, .null, .null, .null, .int 0, .null, .null, .null, .int 0]) := o9
  obtain ⟨t10, p10, o10, r10, z10⟩ := st12 (a := M + 1 + 1 + 1 + 1 + 1 + 1 + 1 + 1 + 1 + 1) (k := 9) (n := 54) o9 (by omega) (by simp)
  have o10 : t10 M = .inl (10, [.ref (M + 1), .ref (M + 2), .ref (M + 3), .ref (M + 4), .ref (M + 5), .ref (M + 6), .ref (M + 7), .ref (M + 8), .ref (M + 9), .ref (M + 10), .null, .int 0, .int 0, .int 0, .null, .null, .null, .null, .int 0, .int 0, .int 0, .null, .int 0, .int 0, .int 0, .null, .null, .null, .int 0, .null, .null, .null, .int 0]) := o10
  obtain ⟨t11, p11, o11, r11, z11⟩ := st12 (a := M + 1 + 1 + 1 + 1 + 1 + 1 + 1 + 1 + 1 + 1 + 1) (k := 10) (n := 4) o10 (by omega) (by simp)
  have o11 : t11 M = .inl (10, [.ref (M + 1), .ref (M + 2), .ref (M + 3), .ref (M + 4), .ref (M + 5), .ref (M + 6), .ref (M + 7), .ref (M + 8), .ref (M + 9), .ref (M + 10), .ref (M + 11), .int 0, .int 0, .int 0, .null, .null, .null, .null, .int 0, .int 0, .int 0, .null, .int 0, .int 0, .int 0, .null, .null, .null, .int 0, .null, .null, .null, .int 0]) := o11
  obtain ⟨t12, p12, o12, r12, z12⟩ := st12 (a := M + 1 + 1 + 1 + 1 + 1 + 1 + 1 + 1 + 1 + 1 + 1 + 1) (k := 14) (n := 96) o11 (by omega) (by simp)
  have o12 : t12 M = .inl (10, [.ref (M + 1), .ref (M + 2), .ref (M + 3), .ref (M + 4), .ref (M + 5), .ref (M + 6), .ref (M + 7), .ref (M + 8), .ref (M + 9), .ref (M + 10), .ref (M + 11), .int 0, .int 0, .int 0, .ref (M + 12), .null, .null, .null, .int 0, .int 0, .int 0, .null, .int 0, .int 0, .int 0, .null, .null, .null, .int 0, .null, .null, .null, .int 0]) := o12
  obtain ⟨t13, p13, o13, r13, z13⟩ := st12 (a := M + 1 + 1 + 1 + 1 + 1 + 1 + 1 + 1 + 1 + 1 + 1 + 1 + 1) (k := 15) (n := 48) o12 (by omega) (by simp)
  have o13 : t13 M = .inl (10, [.ref (M + 1), .ref (M + 2), .ref (M + 3), .ref (M + 4), .ref (M + 5), .ref (M + 6), .ref (M + 7), .ref (M + 8), .ref (M + 9), .ref (M + 10), .ref (M + 11), .int 0, .int 0, .int 0, .ref (M + 12), .ref (M + 13), .null, .null, .int 0, .int 0, .int 0, .null, .int 0, .int 0, .int 0, .null, .null, .null, .int 0, .null, .null, .null, .int 0]) := o13
  obtain ⟨t14, p14, o14, r14, z14⟩ := st12 (a := M + 1 + 1 + 1 + 1 + 1 + 1 + 1 + 1 + 1 + 1 + 1 + 1 + 1 + 1) (k := 16) (n := 48) o13 (by omega) (by simp)
  have o14 : t14 M = .inl (10, [.ref (M + 1), .ref (M + 2), .ref (M + 3), .ref (M + 4), .ref (M + 5), .ref (M + 6), .ref (M + 7), .ref (M + 8), .ref (M + 9), .ref (M + 10), .ref (M + 11), .int 0, .int 0, .int 0, .ref (M + 12), .ref (M + 13), .ref (M + 14), .null, .int 0, .int 0, .int 0, .null, .int 0, .int 0, .int 0, .null, .null, .null, .int 0, .null, .null, .null, .int 0]) := o14
  obtain ⟨t15, p15, o15, r15, z15⟩ := st12 (a := M + 1 + 1 + 1 + 1 + 1 + 1 + 1 + 1 + 1 + 1 + 1 + 1 + 1 + 1 + 1) (k := 17) (n := 144) o14 (by omega) (by simp)
  have o15 : t15 M = .inl (10, [.ref (M + 1), .ref (M + 2), .ref (M + 3), .ref (M + 4), .ref (M + 5), .ref (M + 6), .ref (M + 7), .ref (M + 8), .ref (M + 9), .ref (M + 10), .ref (M + 11), .int 0, .int 0, .int 0, .ref (M + 12), .ref (M + 13), .ref (M + 14), .ref (M + 15), .int 0, .int 0, .int 0, .null, .int 0, .int 0, .int 0, .null, .null, .null, .int 0, .null, .null, .null, .int 0]) := o15
  obtain ⟨t16, p16, o16, r16, z16⟩ := st12 (a := M + 1 + 1 + 1 + 1 + 1 + 1 + 1 + 1 + 1 + 1 + 1 + 1 + 1 + 1 + 1 + 1) (k := 21) (n := 600) o15 (by omega) (by simp)
  have o16 : t16 M = .inl (10, [.ref (M + 1), .ref (M + 2), .ref (M + 3), .ref (M + 4), .ref (M + 5), .ref (M + 6), .ref (M + 7), .ref (M + 8), .ref (M + 9), .ref (M + 10), .ref (M + 11), .int 0, .int 0, .int 0, .ref (M + 12), .ref (M + 13), .ref (M + 14), .ref (M + 15), .int 0, .int 0, .int 0, .ref (M + 16), .int 0, .int 0, .int 0, .null, .null, .null, .int 0, .null, .null, .null, .int 0]) := o16
  obtain ⟨t17, p17, o17, r17, z17⟩ := st12 (a := M + 1 + 1 + 1 + 1 + 1 + 1 + 1 + 1 + 1 + 1 + 1 + 1 + 1 + 1 + 1 + 1 + 1) (k := 25) (n := 36) o16 (by omega) (by simp)
  have o17 : t17 M = .inl (10, [.ref (M + 1), .ref (M + 2), .ref (M + 3), .ref (M + 4), .ref (M + 5), .ref (M + 6), .ref (M + 7), .ref (M + 8), .ref (M + 9), .ref (M + 10), .ref (M + 11), .int 0, .int 0, .int 0, .ref (M + 12), .ref (M + 13), .ref (M + 14), .ref (M + 15), .int 0, .int 0, .int 0, .ref (M + 16), .int 0, .int 0, .int 0, .ref (M + 17), .null, .null, .int 0, .null, .null, .null, .int 0]) := o17
  obtain ⟨t18, p18, o18, r18, z18⟩ := st12 (a := M + 1 + 1 + 1 + 1 + 1 + 1 + 1 + 1 + 1 + 1 + 1 + 1 + 1 + 1 + 1 + 1 + 1 + 1) (k := 26) (n := 36) o17 (by omega) (by simp)
  have o18 : t18 M = .inl (10, [.ref (M + 1), .ref (M + 2), .ref (M + 3), .ref (M + 4), .ref (M + 5), .ref (M + 6), .ref (M + 7), .ref (M + 8), .ref (M + 9), .ref (M + 10), .ref (M + 11), .int 0, .int 0, .int 0, .ref (M + 12), .ref (M + 13), .ref (M + 14), .ref (M + 15), .int 0, .int 0, .int 0, .ref (M + 16), .int 0, .int 0, .int 0, .ref (M + 17), .ref (M + 18), .null, .int 0, .null, .null, .null, .int 0]) := o18
  obtain ⟨t19, p19, o19, r19, z19⟩ := st12 (a := M + 1 + 1 + 1 + 1 + 1 + 1 + 1 + 1 + 1 + 1 + 1 + 1 + 1 + 1 + 1 + 1 + 1 + 1 + 1) (k := 27) (n := 36) o18 (by omega) (by simp)
  have o19 : t19 M = .inl (10, [.ref (M + 1), .ref (M + 2), .ref (M + 3), .ref (M + 4), .ref (M + 5), .ref (M + 6), .ref (M + 7), .ref (M + 8), .ref (M + 9), .ref (M + 10), .ref (M + 11), .int 0, .int 0, .int 0, .ref (M + 12), .ref (M + 13), .ref (M + 14), .ref (M + 15), .int 0, .int 0, .int 0, .ref (M + 16), .int 0, .int 0, .int 0, .ref (M + 17), .ref (M + 18), .ref (M + 19), .int 0, .null, .null, .null, .int 0]) := o19
  obtain ⟨t20, p20, o20, r20, z20⟩ := st12 (a := M + 1 + 1 + 1 + 1 + 1 + 1 + 1 + 1 + 1 + 1 + 1 + 1 + 1 + 1 + 1 + 1 + 1 + 1 + 1 + 1) (k := 29) (n := 36) o19 (by omega) (by simp)
  have o20 : t20 M = .inl (10, [.ref (M + 1), .ref (M + 2), .ref (M + 3), .ref (M + 4), .ref (M + 5), .ref (M + 6), .ref (M + 7), .ref (M + 8), .ref (M + 9), .ref (M + 10), .ref (M + 11), .int 0, .int 0, .int 0, .ref (M + 12), .ref (M + 13), .ref (M + 14), .ref (M + 15), .int 0, .int 0, .int 0, .ref (M + 16), .int 0, .int 0, .int 0, .ref (M + 17), .ref (M + 18), .ref (M + 19), .int 0, .ref (M + 20), .null, .null, .int 0]) := o20
  obtain ⟨t21, p21, o21, r21, z21⟩ := st12 (a := M + 1 + 1 + 1 + 1 + 1 + 1 + 1 + 1 + 1 + 1 + 1 + 1 + 1 + 1 + 1 + 1 + 1 + 1 + 1 + 1 + 1) (k := 30) (n := 36) o20 (by omega) (by simp)
  have o21 : t21 M = .inl (10, [.ref (M + 1), .ref (M + 2), .ref (M + 3), .ref (M + 4), .ref (M + 5), .ref (M + 6), .ref (M + 7), .ref (M + 8), .ref (M + 9), .ref (M + 10), .ref (M + 11), .int 0, .int 0, .int 0, .ref (M + 12), .ref (M + 13), .ref (M + 14), .ref (M + 15), .int 0, .int 0, .int 0, .ref (M + 16), .int 0, .int 0, .int 0, .ref (M + 17), .ref (M + 18), .ref (M + 19), .int 0, .ref (M + 20), .ref (M + 21), .null, .int 0]) := o21
  obtain ⟨t22, p22, o22, r22, z22⟩ := st12 (a := M + 1 + 1 + 1 + 1 + 1 + 1 + 1 + 1 + 1 + 1 + 1 + 1 + 1 + 1 + 1 + 1 + 1 + 1 + 1 + 1 + 1 + 1) (k := 31) (n := 12) o21 (by omega) (by simp)
  have o22 : t22 M = .inl (10, [.ref (M + 1), .ref (M + 2), .ref (M + 3), .ref (M + 4), .ref (M + 5), .ref (M + 6), .ref (M + 7), .ref (M + 8), .ref (M + 9), .ref (M + 10), .ref (M + 11), .int 0, .int 0, .int 0, .ref (M + 12), .ref (M + 13), .ref (M + 14), .ref (M + 15), .int 0, .int 0, .int 0, .ref (M + 16), .int 0, .int 0, .int 0, .ref (M + 17), .ref (M + 18), .ref (M + 19), .int 0, .ref (M + 20), .ref (M + 21), .ref (M + 22), .int 0]) := o22
  obtain ⟨t23, ht23⟩ : ∃ t23, t23 = va_up t22 M (.inl (10, [.ref (M + 1), .ref (M + 2), .ref (M + 3), .ref (M + 4), .ref (M + 5), .ref (M + 6), .ref (M + 7), .ref (M + 8), .ref (M + 9), .ref (M + 10), .ref (M + 11), .int 0, .int 0, .int 0, .ref (M + 12), .ref (M + 13), .ref (M + 14), .ref (M + 15), .int 0, .int 0, .int 0, .ref (M + 16), .int 0, .int 0, .int 0, .ref (M + 17), .ref (M + 18), .ref (M + 19), .int 0, .ref (M + 20), .ref (M + 21), .ref (M + 22), .int 0])) := ⟨_, rfl⟩
  have p23 : gpu t22 M [10] 11 (.int 0) = some t23 := by
    rw [ht23]
    exact gpu_of o22 (by decide) (by show 11 < 33; decide)
  have o23 : t23 M = .inl (10, [.ref (M + 1), .ref (M + 2), .ref (M + 3), .ref (M + 4), .ref (M + 5), .ref (M + 6), .ref (M + 7), .ref (M + 8), .ref (M + 9), .ref (M + 10), .ref (M + 11), .int 0, .int 0, .int 0, .ref (M + 12), .ref (M + 13), .ref (M + 14), .ref (M + 15), .int 0, .int 0, .int 0, .ref (M + 16), .int 0, .int 0, .int 0, .ref (M + 17), .ref (M + 18), .ref (M + 19), .int 0, .ref (M + 20), .ref (M + 21), .ref (M + 22), .int 0]) := by rw [ht23, va_up_self]
  have z23 : ∀ q, q ≠ M → t23 q = t22 q := fun q hq => by rw [ht23, va_ne hq]
  refine ⟨t23, ?_, ⟨o23, ?_, ?_, ?_, ?_, ?_, ?_, ?_, ?_, ?_, ?_, ?_, ?_, ?_, ?_, ?_, ?_, ?_, ?_, ?_, ?_, ?_, ?_⟩, fun q hq => ?_⟩
  · unfold f_X12_init
    simp only [obs, p1, p2, p3, p4, p5, p6, p7, p8, p9, p10, p11, p12, p13, p14, p15, p16, p17, p18, p19, p20, p21, p22, p23]
  · exact (z23 (M + 1) (by omega)).trans ((z22 (M + 1) (by omega) (by omega)).trans ((z21 (M + 1) (by omega) (by omega)).trans ((z20 (M + 1) (by omega) (by omega)).trans ((z19 (M + 1) (by omega) (by omega)).trans ((z18 (M + 1) (by omega) (by omega)).trans ((z17 (M + 1) (by omega) (by omega)).trans ((z16 (M + 1) (by omega) (by omega)).trans ((z15 (M + 1) (by omega) (by omega)).trans ((z14 (M + 1) (by omega) (by omega)).trans ((z13 (M + 1) (by omega) (by omega)).trans ((z12 (M + 1) (by omega) (by omega)).trans ((z11 (M + 1) (by omega) (by omega)).trans ((z10 (M + 1) (by omega) (by omega)).trans ((z9 (M + 1) (by omega) (by omega)).trans ((z8 (M + 1) (by omega) (by omega)).trans ((z7 (M + 1) (by omega) (by omega)).trans ((z6 (M + 1) (by omega) (by omega)).trans ((z5 (M + 1) (by omega) (by omega)).trans ((z4 (M + 1) (by omega) (by omega)).trans ((z3 (M + 1) (by omega) (by omega)).trans ((z2 (M + 1) (by omega) (by omega)).trans (r1))))))))))))))))))))))
  · exact (z23 (M + 2) (by omega)).trans ((z22 (M + 2) (by omega) (by omega)).trans ((z21 (M + 2) (by omega) (by omega)).trans ((z20 (M + 2) (by omega) (by omega)).trans ((z19 (M + 2) (by omega) (by omega)).trans ((z18 (M + 2) (by omega) (by omega)).trans ((z17 (M + 2) (by omega) (by omega)).trans ((z16 (M + 2) (by omega) (by omega)).trans ((z15 (M + 2) (by omega) (by omega)).trans ((z14 (M + 2) (by omega) (by omega)).trans ((z13 (M + 2) (by omega) (by omega)).trans ((z12 (M + 2) (by omega) (by omega)).trans ((z11 (M + 2) (by omega) (by omega)).trans ((z10 (M + 2) (by omega) (by omega)).trans ((z9 (M + 2) (by omega) (by omega)).trans ((z8 (M + 2) (by omega) (by omega)).trans ((z7 (M + 2) (by omega) (by omega)).trans ((z6 (M + 2) (by omega) (by omega)).trans ((z5 (M + 2) (by omega) (by omega)).trans ((z4 (M + 2) (by omega) (by omega)).trans ((z3 (M + 2) (by omega) (by omega)).trans (r2)))))))))))))))))))))
  · exact (z23 (M + 3) (by omega)).trans ((z22 (M + 3) (by omega) (by omega)).trans ((z21 (M + 3) (by omega) (by omega)).trans ((z20 (M + 3) (by omega) (by omega)).trans ((z19 (M + 3) (by omega) (by omega)).trans ((z18 (M + 3) (by omega) (by omega)).trans ((z17 (M + 3) (by omega) (by omega)).trans ((z16 (M + 3) (by omega) (by omega)).trans ((z15 (M + 3) (by omega) (by omega)).trans ((z14 (M + 3) (by omega) (by omega)).trans ((z13 (M + 3) (by omega) (by omega)).trans ((z12 (M + 3) (by omega) (by omega)).trans ((z11 (M + 3) (by omega) (by omega)).trans ((z10 (M + 3) (by omega) (by omega)).trans ((z9 (M + 3) (by omega) (by omega)).trans ((z8 (M + 3) (by omega) (by omega)).trans ((z7 (M + 3) (by omega) (by omega)).trans ((z6 (M + 3) (by omega) (by omega)).trans ((z5 (M + 3) (by omega) (by omega)).trans ((z4 (M + 3) (by omega) (by omega)).trans (r3))))))))))))))))))))
  · exact (z23 (M + 4) (by omega)).trans ((z22 (M + 4) (by omega) (by omega)).trans ((z21 (M + 4) (by omega) (by omega)).trans ((z20 (M + 4) (by omega) (by omega)).trans ((z19 (M + 4) (by omega) (by omega)).trans ((z18 (M + 4) (by omega) (by omega)).trans ((z17 (M + 4) (by omega) (by omega)).trans ((z16 (M + 4) (by omega) (by omega)).trans ((z15 (M + 4) (by omega) (by omega)).trans ((z14 (M + 4) (by omega) (by omega)).trans ((z13 (M + 4) (by omega) (by omega)).trans ((z12 (M + 4) (by omega) (by omega)).trans ((z11 (M + 4) (by omega) (by omega)).trans ((z10 (M + 4) (by omega) (by omega)).trans ((z9 (M + 4) (by omega) (by omega)).trans ((z8 (M + 4) (by omega) (by omega)).trans ((z7 (M + 4) (by omega) (by omega)).trans ((z6 (M + 4) (by omega) (by omega)).trans ((z5 (M + 4) (by omega) (by omega)).trans (r4)))))))))))))))))))
  · exact (z23 (M + 5) (by omega)).trans ((z22 (M + 5) (by omega) (by omega)).trans ((z21 (M + 5) (by omega) (by omega)).trans ((z20 (M + 5) (by omega) (by omega)).trans ((z19 (M + 5) (by omega) (by omega)).trans ((z18 (M + 5) (by omega) (by omega)).trans ((z17 (M + 5) (by omega) (by omega)).trans ((z16 (M + 5) (by omega) (by omega)).trans ((z15 (M + 5) (by omega) (by omega)).trans ((z14 (M + 5) (by omega) (by omega)).trans ((z13 (M + 5) (by omega) (by omega)).trans ((z12 (M + 5) (by omega) (by omega)).trans ((z11 (M + 5) (by omega) (by omega)).trans ((z10 (M + 5) (by omega) (by omega)).trans ((z9 (M + 5) (by omega) (by omega)).trans ((z8 (M + 5) (by omega) (by omega)).trans ((z7 (M + 5) (by omega) (by omega)).trans ((z6 (M + 5) (by omega) (by omega)).trans (r5))))))))))))))))))
  · exact (z23 (M + 6) (by omega)).trans ((z22 (M + 6) (by omega) (by omega)).trans ((z21 (M + 6) (by omega) (by omega)).trans ((z20 (M + 6) (by omega) (by omega)).trans ((z19 (M + 6) (by omega) (by omega)).trans ((z18 (M + 6) (by omega) (by omega)).trans ((z17 (M + 6) (by omega) (by omega)).trans ((z16 (M + 6) (by omega) (by omega)).trans ((z15 (M + 6) (by omega) (by omega)).trans ((z14 (M + 6) (by omega) (by omega)).trans ((z13 (M + 6) (by omega) (by omega)).trans ((z12 (M + 6) (by omega) (by omega)).trans ((z11 (M + 6) (by omega) (by omega)).trans ((z10 (M + 6) (by omega) (by omega)).trans ((z9 (M + 6) (by omega) (by omega)).trans ((z8 (M + 6) (by omega) (by omega)).trans ((z7 (M + 6) (by omega) (by omega)).trans (r6)))))))))))))))))
  · exact (z23 (M + 7) (by omega)).trans ((z22 (M + 7) (by omega) (by omega)).trans ((z21 (M + 7) (by omega) (by omega)).trans ((z20 (M + 7) (by omega) (by omega)).trans ((z19 (M + 7) (by omega) (by omega)).trans ((z18 (M + 7) (by omega) (by omega)).trans ((z17 (M + 7) (by omega) (by omega)).trans ((z16 (M + 7) (by omega) (by omega)).trans ((z15 (M + 7) (by omega) (by omega)).trans ((z14 (M + 7) (by omega) (by omega)).trans ((z13 (M + 7) (by omega) (by omega)).trans ((z12 (M + 7) (by omega) (by omega)).trans ((z11 (M + 7) (by omega) (by omega)).trans ((z10 (M + 7) (by omega) (by omega)).trans ((z9 (M + 7) (by omega) (by omega)).trans ((z8 (M + 7) (by omega) (by omega)).trans (r7))))))))))))))))
  · exact (z23 (M + 8) (by omega)).trans ((z22 (M + 8) (by omega) (by omega)).trans ((z21 (M + 8) (by omega) (by omega)).trans ((z20 (M + 8) (by omega) (by omega)).trans ((z19 (M + 8) (by omega) (by omega)).trans ((z18 (M + 8) (by omega) (by omega)).trans ((z17 (M + 8) (by omega) (by omega)).trans ((z16 (M + 8) (by omega) (by omega)).trans ((z15 (M + 8) (by omega) (by omega)).trans ((z14 (M + 8) (by omega) (by omega)).trans ((z13 (M + 8) (by omega) (by omega)).trans ((z12 (M + 8) (by omega) (by omega)).trans ((z11 (M + 8) (by omega) (by omega)).trans ((z10 (M + 8) (by omega) (by omega)).trans ((z9 (M + 8) (by omega) (by omega)).trans (r8)))))))))))))))
  · exact (z23 (M + 9) (by omega)).trans ((z22 (M + 9) (by omega) (by omega)).trans ((z21 (M + 9) (by omega) (by omega)).trans ((z20 (M + 9) (by omega) (by omega)).trans ((z19 (M + 9) (by omega) (by omega)).trans ((z18 (M + 9) (by omega) (by omega)).trans ((z17 (M + 9) (by omega) (by omega)).trans ((z16 (M + 9) (by omega) (by omega)).trans ((z15 (M + 9) (by omega) (by omega)).trans ((z14 (M + 9) (by omega) (by omega)).trans ((z13 (M + 9) (by omega) (by omega)).trans ((z12 (M + 9) (by omega) (by omega)).trans ((z11 (M + 9) (by omega) (by omega)).trans ((z10 (M + 9) (by omega) (by omega)).trans (r9))))))))))))))
  · exact (z23 (M + 10) (by omega)).trans ((z22 (M + 10) (by omega) (by omega)).trans ((z21 (M + 10) (by omega) (by omega)).trans ((z20 (M + 10) (by omega) (by omega)).trans ((z19 (M + 10) (by omega) (by omega)).trans ((z18 (M + 10) (by omega) (by omega)).trans ((z17 (M + 10) (by omega) (by omega)).trans ((z16 (M + 10) (by omega) (by omega)).trans ((z15 (M + 10) (by omega) (by omega)).trans ((z14 (M + 10) (by omega) (by omega)).trans ((z13 (M + 10) (by omega) (by omega)).trans ((z12 (M + 10) (by omega) (by omega)).trans ((z11 (M + 10) (by omega) (by omega)).trans (r10)))))))))))))
  · exact (z23 (M + 11) (by omega)).trans ((z22 (M + 11) (by omega) (by omega)).trans ((z21 (M + 11) (by omega) (by omega)).trans ((z20 (M + 11) (by omega) (by omega)).trans ((z19 (M + 11) (by omega) (by omega)).trans ((z18 (M + 11) (by omega) (by omega)).trans ((z17 (M + 11) (by omega) (by omega)).trans ((z16 (M + 11) (by omega) (by omega)).trans ((z15 (M + 11) (by omega) (by omega)).trans ((z14 (M + 11) (by omega) (by omega)).trans ((z13 (M + 11) (by omega) (by omega)).trans ((z12 (M + 11) (by omega) (by omega)).trans (r11))))))))))))
  · exact (z23 (M + 12) (by omega)).trans ((z22 (M + 12) (by omega) (by omega)).trans ((z21 (M + 12) (by omega) (by omega)).trans ((z20 (M + 12) (by omega) (by omega)).trans ((z19 (M + 12) (by omega) (by omega)).trans ((z18 (M + 12) (by omega) (by omega)).trans ((z17 (M + 12) (by omega) (by omega)).trans ((z16 (M + 12) (by omega) (by omega)).trans ((z15 (M + 12) (by omega) (by omega)).trans ((z14 (M + 12) (by omega) (by omega)).trans ((z13 (M + 12) (by omega) (by omega)).trans (r12)))))))))))
  · exact (z23 (M + 13) (by omega)).trans ((z22 (M + 13) (by omega) (by omega)).trans ((z21 (M + 13) (by omega) (by omega)).trans ((z20 (M + 13) (by omega) (by omega)).trans ((z19 (M + 13) (by omega) (by omega)).trans ((z18 (M + 13) (by omega) (by omega)).trans ((z17 (M + 13) (by omega) (by omega)).trans ((z16 (M + 13) (by omega) (by omega)).trans ((z15 (M + 13) (by omega) (by omega)).trans ((z14 (M + 13) (by omega) (by omega)).trans (r13))))))))))
  · exact (z23 (M + 14) (by omega)).trans ((z22 (M + 14) (by omega) (by omega)).trans ((z21 (M + 14) (by omega) (by omega)).trans ((z20 (M + 14) (by omega) (by omega)).trans ((z19 (M + 14) (by omega) (by omega)).trans ((z18 (M + 14) (by omega) (by omega)).trans ((z17 (M + 14) (by omega) (by omega)).trans ((z16 (M + 14) (by omega) (by omega)).trans ((z15 (M + 14) (by omega) (by omega)).trans (r14)))))))))
  · exact (z23 (M + 15) (by omega)).trans ((z22 (M + 15) (by omega) (by omega)).trans ((z21 (M + 15) (by omega) (by omega)).trans ((z20 (M + 15) (by omega) (by omega)).trans ((z19 (M + 15) (by omega) (by omega)).trans ((z18 (M + 15) (by omega) (by omega)).trans ((z17 (M + 15) (by omega) (by omega)).trans ((z16 (M + 15) (by omega) (by omega)).trans (r15))))))))
  · exact (z23 (M + 16) (by omega)).trans ((z22 (M + 16) (by omega) (by omega)).trans ((z21 (M + 16) (by omega) (by omega)).trans ((z20 (M + 16) (by omega) (by omega)).trans ((z19 (M + 16) (by omega) (by omega)).trans ((z18 (M + 16) (by omega) (by omega)).trans ((z17 (M + 16) (by omega) (by omega)).trans (r16)))))))
  · exact (z23 (M + 17) (by omega)).trans ((z22 (M + 17) (by omega) (by omega)).trans ((z21 (M + 17) (by omega) (by omega)).trans ((z20 (M + 17) (by omega) (by omega)).trans ((z19 (M + 17) (by omega) (by omega)).trans ((z18 (M + 17) (by omega) (by omega)).trans (r17))))))
  · exact (z23 (M + 18) (by omega)).trans ((z22 (M + 18) (by omega) (by omega)).trans ((z21 (M + 18) (by omega) (by omega)).trans ((z20 (M + 18) (by omega) (by omega)).trans ((z19 (M + 18) (by omega) (by omega)).trans (r18)))))
  · exact (z23 (M + 19) (by omega)).trans ((z22 (M + 19) (by omega) (by omega)).trans ((z21 (M + 19) (by omega) (by omega)).trans ((z20 (M + 19) (by omega) (by omega)).trans (r19))))
  · exact (z23 (M + 20) (by omega)).trans ((z22 (M + 20) (by omega) (by omega)).trans ((z21 (M + 20) (by omega) (by omega)).trans (r20)))
  · exact (z23 (M + 21) (by omega)).trans ((z22 (M + 21) (by omega) (by omega)).trans (r21))
  · exact (z23 (M + 22) (by omega)).trans (r22)
  · have h0 : q ≠ M := hq 0 (by decide)
    exact (z23 q h0).trans ((z22 q h0 (hq 22 (by decide))).trans ((z21 q h0 (hq 21 (by decide))).trans ((z20 q h0 (hq 20 (by decide))).trans ((z19 q h0 (hq 19 (by decide))).trans ((z18 q h0 (hq 18 (by decide))).trans ((z17 q h0 (hq 17 (by decide))).trans ((z16 q h0 (hq 16 (by decide))).trans ((z15 q h0 (hq 15 (by decide))).trans ((z14 q h0 (hq 14 (by decide))).trans ((z13 q h0 (hq 13 (by decide))).trans ((z12 q h0 (hq 12 (by decide))).trans ((z11 q h0 (hq 11 (by decide))).trans ((z10 q h0 (hq 10 (by decide))).trans ((z9 q h0 (hq 9 (by decide))).trans ((z8 q h0 (hq 8 (by decide))).trans ((z7 q h0 (hq 7 (by decide))).trans ((z6 q h0 (hq 6 (by decide))).trans ((z5 q h0 (hq 5 (by decide))).trans ((z4 q h0 (hq 4 (by decide))).trans ((z3 q h0 (hq 3 (by decide))).trans ((z2 q h0 (hq 2 (by decide))).trans ((z1 q h0 (hq 1 (by decide))).trans (z0 q h0)))))))))))))))))))))))
def owL : List Nat := [101, 102, 103, 104, 105, 61, 62, 63, 21, 22, 23, 41, 42, 43, 200, 201, 202, 203, 204, 205, 206, 207, 208, 209, 210, 211, 212, 213, 214, 215, 216, 217, 218, 219, 220, 221, 222]
def ow0 (M : Nat) : Nat → Nat := fun q => if q < M then 0 else owL.getD (q - M) 0
theorem ow0_at (M i : Nat) : ow0 M (M + i) = owL.getD i 0 := by
  unfold ow0
  rw [if_neg (by omega), Nat.add_sub_cancel_left]
def TS0 : TS := (fun _ => false, fun _ => 0, fun _ => 0, fun _ => 0, fun _ => false, fun _ => 0, fun _ _ => 0, fun _ _ => 0, fun _ _ => 0, fun _ => 0, 0, 0, 0)
def SS0 : SS := (TS0, false, TS0, fun _ => 0, fun _ => 0, 0, fun _ => 0, 0)
theorem TOK0 : TOK TS0 := ⟨fun c hc => absurd hc Bool.false_ne_true, by decide, by decide, by decide, by decide, fun p hp => absurd hp (Nat.not_lt_zero p), fun l hl => absurd hl (Nat.not_lt_zero l)⟩
theorem RT0 {wa ka la ra li sa wh ce mi st : Nat → Int32} (h : ∀ c, c < 36 → wa c = 0) : RT TS0 wa ka la ra li sa wh ce mi st := ⟨fun c hc => h c hc, fun p hp => absurd hp (Nat.not_lt_zero p), fun l hl => absurd hl (Nat.not_lt_zero l)⟩
theorem lN0 : lN (bm (tW TS0) 36) = 0 := by decide +kernel
theorem init_rel {M : Nat} : ∃ g1 g2, f_X11_init (va_up gv0 M (.inl (9, [.null, .null, .null, .null, .null, .null, .int 0, .int 0]))) (M + 1) M = some (g1, M + 14) ∧ f_X12_init (va_up g1 (M + 14) (.inl (10, [.null, .null, .null, .null, .null, .null, .null, .null, .null, .null, .null, .int 0, .int 0, .int 0, .null, .null, .null, .null, .int 0, .int 0, .int 0, .null, .int 0, .int 0, .int 0, .null, .null, .null, .int 0, .null, .null, .null, .int 0]))) (M + 14 + 1) (M + 14) = some (g2, M + 37) ∧ Rel M (M + 14) g2 (M + 37) (fun _ => 0) (fun _ => 0) (fun _ => 0) (fun _ => 0) (fun _ => 0) (fun _ => 0) (fun _ => 0) (fun _ => 0) (fun _ => 0) (fun _ => 0) (fun _ => 0) 0 0 0 (fun _ => 0) (fun _ => 0) (fun _ => 0) (fun _ => 0) 0 0 0 (fun _ => 0) 0 0 0 (fun _ => 0) (fun _ => 0) (fun _ => 0) 0 (fun _ => 0) (fun _ => 0) (fun _ => 0) 0 := by
  obtain ⟨g1, e1, a0, a1, a2, a3, a4, a5⟩ := init11 (M := M)
  obtain ⟨g2, e2, ⟨f0, f1, f2, f3, f4, f5, f6, f7, f8, f9, f10, f11, f12, f13, f14, f15, f16, f17, f18, f19, f20, f21, f22⟩, out⟩ := init12 (M := M + 14) (g := g1)
  have keep : ∀ i, i < 14 → g2 (M + i) = g1 (M + i) := fun i hi => out _ (fun j hj => by omega)
  have k0 : g2 M = g1 M := keep 0 (by decide)
  have th : ∀ t i, (t = 3 ∧ i = 5) ∨ (t = 1 ∧ i = 8) ∨ (t = 2 ∧ i = 11) → TH g2 (ow0 M) t (M + i) TS0 := by
    intro t i h
    obtain ⟨b1, b2, b3⟩ := a5 i (by omega)
    refine ⟨M + i + 1, M + i + 2, fun _ => none, fun _ => 0, fun _ => 0, fun _ => 0, fun _ _ => 0, ⟨?_, (keep (i + 1) (by omega)).trans b2, (keep (i + 2) (by omega)).trans b3, fun p hp => absurd hp (Nat.not_lt_zero p), fun l hl => absurd hl (Nat.not_lt_zero l)⟩, ?_, ?_, ?_, fun l hl => absurd hl (Nat.not_lt_zero l)⟩
    · rw [lN0]
      exact (keep i (by omega)).trans b1
    · rw [ow0_at]
      rcases h with ⟨rfl, rfl⟩ | ⟨rfl, rfl⟩ | ⟨rfl, rfl⟩ <;> rfl
    · rw [Nat.add_assoc, ow0_at]
      rcases h with ⟨rfl, rfl⟩ | ⟨rfl, rfl⟩ | ⟨rfl, rfl⟩ <;> rfl
    · rw [Nat.add_assoc, ow0_at]
      rcases h with ⟨rfl, rfl⟩ | ⟨rfl, rfl⟩ | ⟨rfl, rfl⟩ <;> rfl
  refine ⟨g1, g2, e1, e2, SS0, ow0 M, ⟨TOK0, fun h => absurd h Bool.false_ne_true, by decide, fun k hk => absurd hk (Nat.not_lt_zero k), by decide, fun k hk => absurd hk (Nat.not_lt_zero k)⟩, ⟨M + 1, M + 2, M + 3, M + 4, M + 5, M + 8, M + 11, 1, 2, fun _ => 0, fun _ => 0, fun _ => 0, ⟨k0.trans a0, (keep 1 (by decide)).trans a1, (keep 2 (by decide)).trans a2, (keep 3 (by decide)).trans a3, (keep 4 (by decide)).trans a4, ⟨ow0_at M 0, ow0_at M 1, ow0_at M 2, ow0_at M 3, ow0_at M 4⟩, fun k hk => absurd hk (Nat.not_lt_zero k), fun k hk => absurd hk (Nat.not_lt_zero k), fun k hk => rfl⟩, ⟨Or.inl ⟨rfl, rfl⟩, th 1 8 (by omega), (th 2 11 (by omega)).te, (th 3 5 (by omega)).te, fun h => absurd h Bool.false_ne_true⟩, fun q hq => ?_⟩, fun i hi => ?_, ⟨fun k hk => rfl, RT0 (fun c hc => rfl), ⟨rfl, rfl, rfl⟩, ⟨rfl, fun k hk => absurd hk (Nat.not_lt_zero k)⟩, ⟨rfl, fun h => absurd h Bool.false_ne_true⟩, rfl, fun k hk => absurd hk (Nat.not_lt_zero k)⟩, ?_⟩
  · obtain ⟨j, rfl⟩ : ∃ j, q = M + j := ⟨q - M, by omega⟩
    rw [ow0_at]
    unfold owL
    have h37 : owL.length ≤ j := by
      show 37 ≤ j
      omega
    unfold owL at h37
    simp [List.getD, List.getElem?_eq_none h37]
  · rw [Nat.add_assoc, ow0_at]
    have all : ∀ i, i < 23 → owL.getD (14 + i) 0 = 200 + i := by decide
    exact all i hi
  · funext q
    unfold mgv
    by_cases h0 : q = M + 14
    · rw [if_pos h0, h0]
      exact f0.symm
    by_cases h1 : q = M + 14 + 1
    · rw [if_neg h0, if_pos h1, h1]
      exact f1.symm
    by_cases h2 : q = M + 14 + 2
    · rw [if_neg h0, if_neg h1, if_pos h2, h2]
      exact f2.symm
    by_cases h3 : q = M + 14 + 3
    · rw [if_neg h0, if_neg h1, if_neg h2, if_pos h3, h3]
      exact f3.symm
    by_cases h4 : q = M + 14 + 4
    · rw [if_neg h0, if_neg h1, if_neg h2, if_neg h3, if_pos h4, h4]
      exact f4.symm
    by_cases h5 : q = M + 14 + 5
    · rw [if_neg h0, if_neg h1, if_neg h2, if_neg h3, if_neg h4, if_pos h5, h5]
      exact f5.symm
    by_cases h6 : q = M + 14 + 6
    · rw [if_neg h0, if_neg h1, if_neg h2, if_neg h3, if_neg h4, if_neg h5, if_pos h6, h6]
      exact f6.symm
    by_cases h7 : q = M + 14 + 7
    · rw [if_neg h0, if_neg h1, if_neg h2, if_neg h3, if_neg h4, if_neg h5, if_neg h6, if_pos h7, h7]
      exact f7.symm
    by_cases h8 : q = M + 14 + 8
    · rw [if_neg h0, if_neg h1, if_neg h2, if_neg h3, if_neg h4, if_neg h5, if_neg h6, if_neg h7, if_pos h8, h8]
      exact f8.symm
    by_cases h9 : q = M + 14 + 9
    · rw [if_neg h0, if_neg h1, if_neg h2, if_neg h3, if_neg h4, if_neg h5, if_neg h6, if_neg h7, if_neg h8, if_pos h9, h9]
      exact f9.symm
    by_cases h10 : q = M + 14 + 10
    · rw [if_neg h0, if_neg h1, if_neg h2, if_neg h3, if_neg h4, if_neg h5, if_neg h6, if_neg h7, if_neg h8, if_neg h9, if_pos h10, h10]
      exact f10.symm
    by_cases h11 : q = M + 14 + 11
    · rw [if_neg h0, if_neg h1, if_neg h2, if_neg h3, if_neg h4, if_neg h5, if_neg h6, if_neg h7, if_neg h8, if_neg h9, if_neg h10, if_pos h11, h11]
      exact f11.symm
    by_cases h12 : q = M + 14 + 12
    · rw [if_neg h0, if_neg h1, if_neg h2, if_neg h3, if_neg h4, if_neg h5, if_neg h6, if_neg h7, if_neg h8, if_neg h9, if_neg h10, if_neg h11, if_pos h12, h12]
      exact f12.symm
    by_cases h13 : q = M + 14 + 13
    · rw [if_neg h0, if_neg h1, if_neg h2, if_neg h3, if_neg h4, if_neg h5, if_neg h6, if_neg h7, if_neg h8, if_neg h9, if_neg h10, if_neg h11, if_neg h12, if_pos h13, h13]
      exact f13.symm
    by_cases h14 : q = M + 14 + 14
    · rw [if_neg h0, if_neg h1, if_neg h2, if_neg h3, if_neg h4, if_neg h5, if_neg h6, if_neg h7, if_neg h8, if_neg h9, if_neg h10, if_neg h11, if_neg h12, if_neg h13, if_pos h14, h14]
      exact f14.symm
    by_cases h15 : q = M + 14 + 15
    · rw [if_neg h0, if_neg h1, if_neg h2, if_neg h3, if_neg h4, if_neg h5, if_neg h6, if_neg h7, if_neg h8, if_neg h9, if_neg h10, if_neg h11, if_neg h12, if_neg h13, if_neg h14, if_pos h15, h15]
      exact f15.symm
    by_cases h16 : q = M + 14 + 16
    · rw [if_neg h0, if_neg h1, if_neg h2, if_neg h3, if_neg h4, if_neg h5, if_neg h6, if_neg h7, if_neg h8, if_neg h9, if_neg h10, if_neg h11, if_neg h12, if_neg h13, if_neg h14, if_neg h15, if_pos h16, h16]
      exact f16.symm
    by_cases h17 : q = M + 14 + 17
    · rw [if_neg h0, if_neg h1, if_neg h2, if_neg h3, if_neg h4, if_neg h5, if_neg h6, if_neg h7, if_neg h8, if_neg h9, if_neg h10, if_neg h11, if_neg h12, if_neg h13, if_neg h14, if_neg h15, if_neg h16, if_pos h17, h17]
      exact f17.symm
    by_cases h18 : q = M + 14 + 18
    · rw [if_neg h0, if_neg h1, if_neg h2, if_neg h3, if_neg h4, if_neg h5, if_neg h6, if_neg h7, if_neg h8, if_neg h9, if_neg h10, if_neg h11, if_neg h12, if_neg h13, if_neg h14, if_neg h15, if_neg h16, if_neg h17, if_pos h18, h18]
      exact f18.symm
    by_cases h19 : q = M + 14 + 19
    · rw [if_neg h0, if_neg h1, if_neg h2, if_neg h3, if_neg h4, if_neg h5, if_neg h6, if_neg h7, if_neg h8, if_neg h9, if_neg h10, if_neg h11, if_neg h12, if_neg h13, if_neg h14, if_neg h15, if_neg h16, if_neg h17, if_neg h18, if_pos h19, h19]
      exact f19.symm
    by_cases h20 : q = M + 14 + 20
    · rw [if_neg h0, if_neg h1, if_neg h2, if_neg h3, if_neg h4, if_neg h5, if_neg h6, if_neg h7, if_neg h8, if_neg h9, if_neg h10, if_neg h11, if_neg h12, if_neg h13, if_neg h14, if_neg h15, if_neg h16, if_neg h17, if_neg h18, if_neg h19, if_pos h20, h20]
      exact f20.symm
    by_cases h21 : q = M + 14 + 21
    · rw [if_neg h0, if_neg h1, if_neg h2, if_neg h3, if_neg h4, if_neg h5, if_neg h6, if_neg h7, if_neg h8, if_neg h9, if_neg h10, if_neg h11, if_neg h12, if_neg h13, if_neg h14, if_neg h15, if_neg h16, if_neg h17, if_neg h18, if_neg h19, if_neg h20, if_pos h21, h21]
      exact f21.symm
    by_cases h22 : q = M + 14 + 22
    · rw [if_neg h0, if_neg h1, if_neg h2, if_neg h3, if_neg h4, if_neg h5, if_neg h6, if_neg h7, if_neg h8, if_neg h9, if_neg h10, if_neg h11, if_neg h12, if_neg h13, if_neg h14, if_neg h15, if_neg h16, if_neg h17, if_neg h18, if_neg h19, if_neg h20, if_neg h21, if_pos h22, h22]
      exact f22.symm
    repeat rw [if_neg (by assumption)]
