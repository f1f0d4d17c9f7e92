/-! SETS AS NUMBERS -/
def bm (p : Nat → Bool) : Nat → Nat
  | 0 => 0
  | n + 1 => bm p n + if p n then 2 ^ n else 0
theorem bm_lt (p : Nat → Bool) : ∀ n, bm p n < 2 ^ n
  | 0 => by
    show 0 < 2 ^ 0
    decide
  | n + 1 => by
    have h := bm_lt p n
    show bm p n + (if p n then 2 ^ n else 0) < 2 ^ (n + 1)
    rw [Nat.pow_succ]
    split <;> omega
theorem bm_tb (p : Nat → Bool) : ∀ n k, (bm p n).testBit k = (decide (k < n) && p k)
  | 0, k => by
    show Nat.testBit 0 k = _
    simp
  | n + 1, k => by
    have ih := bm_tb p n k
    have hl := bm_lt p n
    show (bm p n + (if p n then 2 ^ n else 0)).testBit k = _
    cases hp : p n with
    | false =>
      simp only [Bool.false_eq_true, if_false, Nat.add_zero]
      rw [ih]
      by_cases hk : k = n
      · subst hk; simp [hp]
      · have e : decide (k < n) = decide (k < n + 1) := by
          by_cases h2 : k < n
          · simp [h2, show k < n + 1 by omega]
          · simp [h2, show ¬ k < n + 1 by omega]
        rw [e]
    | true =>
      simp only [if_true]
      have h2 := Nat.testBit_two_pow_mul_add 1 hl k
      rw [Nat.mul_one, Nat.add_comm (2 ^ n)] at h2
      rw [h2]
      by_cases hk : k < n
      · rw [if_pos hk, ih]
        simp [hk, show k < n + 1 by omega]
      · rw [if_neg hk]
        by_cases hkn : k = n
        · subst hkn; simp [hp]
        · rw [Nat.testBit_lt_two_pow (Nat.one_lt_two_pow (by omega))]
          simp [show ¬ k < n + 1 by omega]
theorem bm_eq {n N : Nat} {p : Nat → Bool} (h : n < 2 ^ N) (hp : ∀ d, d < N → n.testBit d = p d) : n = bm p N := by
  refine Nat.eq_of_testBit_eq (fun i => ?_)
  rw [bm_tb]
  rcases Nat.lt_or_ge i N with q | q
  · rw [hp i q]; simp [q]
  · rw [Nat.testBit_lt_two_pow (Nat.lt_of_lt_of_le h (Nat.pow_le_pow_right (by decide) q))]
    simp [Nat.not_lt.mpr q]
theorem bm_cong {p q : Nat → Bool} {n : Nat} (h : ∀ k, k < n → p k = q k) : bm p n = bm q n := bm_eq (bm_lt p n) (fun d hd => by rw [bm_tb, h d hd]; simp [hd])
theorem bm_or (p q : Nat → Bool) (n : Nat) : bm p n ||| bm q n = bm (fun k => p k || q k) n := bm_eq (Nat.or_lt_two_pow (bm_lt p n) (bm_lt q n)) (fun d hd => by rw [Nat.testBit_or, bm_tb, bm_tb]; simp [hd])
theorem bm_and (p q : Nat → Bool) (n : Nat) : bm p n &&& bm q n = bm (fun k => p k && q k) n := bm_eq (Nat.lt_of_le_of_lt Nat.and_le_left (bm_lt p n)) (fun d hd => by rw [Nat.testBit_and, bm_tb, bm_tb]; simp [hd])
theorem bm_one {c N : Nat} (hc : c < N) : 2 ^ c = bm (fun d => decide (d = c)) N := bm_eq (Nat.pow_lt_pow_right (by decide) hc) (fun d _ => one_tb)
theorem bm_flip (p : Nat → Bool) {c N : Nat} (hc : c < N) : bm p N ^^^ 2 ^ c = bm (fun k => if k = c then !p k else p k) N := bm_eq (Nat.xor_lt_two_pow (bm_lt p N) (Nat.pow_lt_pow_right (by decide) hc)) (fun d hd => by
  rw [Nat.testBit_xor, bm_tb, one_tb]
  by_cases h : d = c
  · simp [h, hc]
  · simp [h, hd])
theorem bm_zero {p : Nat → Bool} {n : Nat} : bm p n = 0 ↔ ∀ k, k < n → p k = false := by
  constructor
  · intro h k hk
    have h1 := bm_tb p n k
    rw [h] at h1
    cases hp : p k with
    | false => rfl
    | true => rw [hp] at h1; simp [hk] at h1
  · intro h
    refine Nat.eq_of_testBit_eq (fun i => ?_)
    rw [bm_tb]
    by_cases hi : i < n
    · rw [h i hi]; simp
    · simp [hi]
theorem bm_succ (p : Nat → Bool) (n : Nat) : bm p (n + 1) = bm p n ||| (if p n then 2 ^ n else 0) := by
  symm
  refine bm_eq (Nat.or_lt_two_pow (Nat.lt_trans (bm_lt p n) (Nat.pow_lt_pow_right (by decide) (Nat.lt_succ_self n))) ?_) (fun d hd => ?_)
  · split
    · exact Nat.pow_lt_pow_right (by decide) (Nat.lt_succ_self n)
    · exact Nat.two_pow_pos (n + 1)
  · rw [Nat.testBit_or, bm_tb]
    by_cases h : d = n
    · subst h
      cases hp : p d <;> simp [hp]
    · have h2 : d < n := by omega
      have h3 : (if p n then 2 ^ n else 0 : Nat).testBit d = false := by
        split
        · rw [one_tb]; simp [h]
        · simp
      rw [h3]
      simp [h2]
theorem cnt_bm {p : Nat → Bool} {n : Nat} : cnt (bm p n).testBit n = cnt p n := cnt_cong (fun k hk => by rw [bm_tb]; simp [hk])
theorem cnt_ct (p : Nat → Bool) : ∀ n, cnt p n = fb_ct p n
  | 0 => rfl
  | n + 1 => by
    show cnt p n + (if p n then 1 else 0) = fb_ct p n + (if p n then 1 else 0)
    rw [cnt_ct p n]
/-! long sets -/
theorem lN_m1 : (-1 : Int64) = lN (2 ^ 64 - 1) := by decide
theorem lb_and (p q : Nat → Bool) : lN (bm p 36) &&& lN (bm q 36) = lN (bm (fun k => p k && q k) 36) := by rw [fb_andL, bm_and]
theorem lb_or (p q : Nat → Bool) : lN (bm p 36) ||| lN (bm q 36) = lN (bm (fun k => p k || q k) 36) := by rw [fb_orL, bm_or]
theorem lb_andN (p q : Nat → Bool) : lN (bm p 36) &&& (lN (bm q 36) ^^^ (-1 : Int64)) = lN (bm (fun k => p k && !q k) 36) := by
  rw [lN_m1, fb_xorL, fb_andL]
  congr 1
  refine bm_eq (Nat.lt_of_le_of_lt Nat.and_le_left (bm_lt p 36)) (fun d hd => ?_)
  rw [Nat.testBit_and, Nat.testBit_xor, bm_tb, bm_tb, Nat.testBit_two_pow_sub_one]
  simp [hd, show d < 64 by omega]
theorem bm_all : bm (fun _ => true) 36 = 68719476735 := by decide +kernel
theorem lb_all : (68719476735 : Int64) = lN (bm (fun _ => true) 36) := by rw [bm_all]; rfl
theorem bm_none : bm (fun _ => false) 36 = 0 := by decide +kernel
theorem lb_none : (0 : Int64) = lN (bm (fun _ => false) 36) := by rw [bm_none]; rfl
theorem has_b {p : Nat → Bool} {c : Nat} (hc : c < 36) : f_X2_has (lN (bm p 36)) (nI c) = some (if p c then 1 else 0) := by
  rw [has_ok (bm_lt p 36) hc, bm_tb]
  simp [hc]
theorem only_b {c : Nat} (hc : c < 36) : f_X2_only (nI c) = some (lN (bm (fun d => decide (d = c)) 36)) := by rw [only_ok c hc, bm_one hc]
theorem only_bn {v : Int32} (h : v < 0 ∨ 36 ≤ v) : f_X2_only v = some (lN (bm (fun _ => false) 36)) := by rw [only_no h, bm_none]
theorem howMany_b {p : Nat → Bool} : f_X2_howMany (lN (bm p 36)) = some (nI (cnt p 36)) := by rw [howMany_ok (bm_lt p 36), cnt_bm]
/-! int sets -/
theorem i_or (a b : Nat) : nI a ||| nI b = nI (a ||| b) := by
  apply Int32.toBitVec_inj.mp
  show (nI a ||| nI b).toBitVec = (nI (a ||| b)).toBitVec
  rw [Int32.toBitVec_or]
  show BitVec.ofNat 32 a ||| BitVec.ofNat 32 b = BitVec.ofNat 32 (a ||| b)
  exact (BitVec.ofNat_or (w := 32)).symm
theorem sh1 {k : Nat} (hk : k < 31) : (1 : Int32) <<< (nI k &&& 31) = nI (2 ^ k) := by
  have h : 2 ^ k < 2 ^ 31 := Nat.pow_lt_pow_right (by decide) hk
  have := pk_shlN (n := 1) (nI k &&& 31) k (s_l k (by omega)) (by omega)
  rw [Nat.one_mul] at this
  exact this
theorem ib_or (p : Nat → Bool) {k : Nat} (hk : k < 31) : nI (bm p k) ||| (if p k then (1 : Int32) <<< (nI k &&& 31) else 0) = nI (bm p (k + 1)) := by
  rw [bm_succ, ← i_or]
  cases p k with
  | true => simp only [if_true]; rw [sh1 hk]
  | false => simp only [Bool.false_eq_true, if_false]; rfl
theorem ib_bit {n k : Nat} (hn : n < 2 ^ 31) (hk : k < 31) : ((nI n >>> (nI k &&& 31)) &&& 1) = nI (if n.testBit k then 1 else 0) := by
  rw [pk_shrN hn _ k (s_l k (by omega)), show (1 : Int32) = nI 1 from rfl, nx_and, Nat.and_one_is_mod, Nat.testBit_eq_decide_div_mod_eq]
  congr 1
  by_cases h : n / 2 ^ k % 2 = 1
  · simp [h]
  · simp [h]; omega
theorem ib_bit1 {n k : Nat} (hn : n < 2 ^ 31) (hk : k < 31) : ((nI n >>> (nI k &&& 31)) &&& 1) = 1 ↔ n.testBit k = true := by
  rw [ib_bit hn hk]
  cases n.testBit k with
  | true => simp; rfl
  | false => simp; decide
theorem xhas_ok {n k : Nat} (hn : n < 2 ^ 31) (hk : k < 31) : f_X12_has (nI n) (nI k) = some (if n.testBit k then 1 else 0) := by
  unfold f_X12_has
  rw [gzb_if]
  congr 1
  by_cases h : n.testBit k = true
  · rw [if_pos ((ib_bit1 hn hk).mpr h), if_pos h]
  · rw [if_neg (fun h2 => h ((ib_bit1 hn hk).mp h2)), if_neg h]
theorem bm_i {p : Nat → Bool} {n : Nat} (hn : n ≤ 31) : bm p n < 2 ^ 31 := Nat.lt_of_lt_of_le (bm_lt p n) (Nat.pow_le_pow_right (by decide) hn)
/-! ints -/
theorem i9 (a : Nat) : (9 : Int32) * nI a = nI (9 * a) := pk_mul 9 a
theorem i3 (a : Nat) : (3 : Int32) * nI a = nI (3 * a) := pk_mul 3 a
theorem i10 (a : Nat) : (10 : Int32) * nI a = nI (10 * a) := pk_mul 10 a
theorem nI_s1 {a : Nat} (h : 0 < a) : nI a - 1 = nI (a - 1) := pk_sub (a := a) (b := 1) h
theorem nI_m1 {a : Nat} (h : 0 < a) : nI a + (-1) = nI (a - 1) := sb_m1 h
theorem i_iff {c : Prop} [Decidable c] : ((if c then 1 else 0 : Int32) = 0) ↔ ¬ c := by by_cases h : c <;> simp [h]
theorem i_iff1 {c : Prop} [Decidable c] : ((if c then 1 else 0 : Int32) = 1) ↔ c := by by_cases h : c <;> simp [h]
theorem bind_ite {α β : Type} {c : Prop} [Decidable c] {x y : Option α} {g : α → Option β} : (if c then x else y : Option α).bind g = if c then x.bind g else y.bind g := by by_cases h : c <;> simp [h]
/-- an int is below 0, or a number -/
theorem i_cas (v : Int32) : v < 0 ∨ ∃ j, j < 2 ^ 31 ∧ v = nI j := by
  by_cases h : v < 0
  · exact Or.inl h
  · exact Or.inr (nI_of h)
theorem scn_ok {w c m : Nat} : ((nI m * 1000) + (nI c * 10)) + nI w = nI (m * 1000 + c * 10 + w) := by
  rw [show (1000 : Int32) = nI 1000 from rfl, show (10 : Int32) = nI 10 from rfl, pk_mul, pk_mul, nI_add, nI_add]
theorem scn_who {w c m : Nat} (hw : w < 10) (hm : m ≤ 9999) (hc : c < 100) : f_X9_whoIn (nI (m * 1000 + c * 10 + w)) = some (nI w) := by
  unfold f_X9_whoIn
  rw [show (10 : Int32) = nI 10 from rfl, pk_rem (by omega) (by decide) (by decide)]
  congr 2
  omega
theorem scn_min {w c m : Nat} (hw : w < 10) (hm : m ≤ 9999) (hc : c < 100) : f_X9_minuteIn (nI (m * 1000 + c * 10 + w)) = some (nI m) := by
  unfold f_X9_minuteIn
  rw [show (1000 : Int32) = nI 1000 from rfl, pk_div (by omega) (by decide) (by decide)]
  congr 2
  omega
theorem scn_cell {w c m : Nat} (hw : w < 10) (hm : m ≤ 9999) (hc : c < 100) : f_X9_cellIn (nI (m * 1000 + c * 10 + w)) = some (nI c) := by
  unfold f_X9_cellIn
  rw [show (10 : Int32) = nI 10 from rfl, show (100 : Int32) = nI 100 from rfl, pk_div (by omega) (by decide) (by decide), pk_rem (by omega) (by decide) (by decide)]
  congr 2
  omega
