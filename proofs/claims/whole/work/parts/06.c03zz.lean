/-! how many bits -/
theorem and_byte (v r m M : Nat) (hv : v < 256) (hm : m < 256) : (v + 256 * r) &&& (m + 256 * M) = (v &&& m) + 256 * (r &&& M) := by
  have h1 : ((v + 256 * r) &&& (m + 256 * M)) % 2 ^ 8 = (v + 256 * r) % 2 ^ 8 &&& (m + 256 * M) % 2 ^ 8 := Nat.and_mod_two_pow
  have h2 : ((v + 256 * r) &&& (m + 256 * M)) / 2 ^ 8 = (v + 256 * r) / 2 ^ 8 &&& (m + 256 * M) / 2 ^ 8 := Nat.and_div_two_pow
  have e1 : (v + 256 * r) % 2 ^ 8 = v := by omega
  have e2 : (m + 256 * M) % 2 ^ 8 = m := by omega
  have e3 : (v + 256 * r) / 2 ^ 8 = r := by omega
  have e4 : (m + 256 * M) / 2 ^ 8 = M := by omega
  rw [e1, e2] at h1
  rw [e3, e4] at h2
  omega
/-- a byte's pairs, its fours, its ones -/
def bA (v : Nat) : Nat := v - ((v / 2) &&& 85)
def bB (v : Nat) : Nat := (v &&& 51) + ((v / 4) &&& 51)
def bC (v : Nat) : Nat := (v + v / 16) &&& 15
theorem bA_ok : ∀ v, v < 256 → ((v / 2) &&& 85) ≤ v ∧ ((v / 2 + 128) &&& 85) = ((v / 2) &&& 85) ∧ bA v < 256 := by decide +kernel
theorem bB_ok : ∀ v, v < 256 → ∀ t, t < 4 → ((v / 4 + 64 * t) &&& 51) = ((v / 4) &&& 51) := by decide +kernel
theorem bB_ok2 : ∀ v, v < 256 → bB (bA v) < 256 ∧ bB (bA v) % 16 ≤ 4 ∧ bB (bA v) / 16 ≤ 4 := by decide +kernel
theorem bC_ok : ∀ v, v < 256 → bC (bB (bA v)) = cnt v.testBit 8 := by decide +kernel
theorem stA (v r M : Nat) (hv : v < 256) : (((v + 256 * r) / 2) &&& (85 + 256 * M)) = ((v / 2) &&& 85) + 256 * ((r / 2) &&& M) := by
  rcases (show r % 2 = 0 ∨ r % 2 = 1 by omega) with h | h
  · rw [show (v + 256 * r) / 2 = v / 2 + 256 * (r / 2) by omega, and_byte _ _ _ _ (by omega) (by decide)]
  · rw [show (v + 256 * r) / 2 = (v / 2 + 128) + 256 * (r / 2) by omega, and_byte _ _ _ _ (by omega) (by decide), (bA_ok v hv).2.1]
theorem stB (v r M : Nat) (hv : v < 256) : (((v + 256 * r) / 4) &&& (51 + 256 * M)) = ((v / 4) &&& 51) + 256 * ((r / 4) &&& M) := by
  rw [show (v + 256 * r) / 4 = (v / 4 + 64 * (r % 4)) + 256 * (r / 4) by omega, and_byte _ _ _ _ (by omega) (by decide), bB_ok v hv (r % 4) (by omega)]
theorem stA0 (v r M : Nat) (hv : v < 256) (hr : (r / 2) &&& M ≤ r) : (v + 256 * r) - (((v + 256 * r) / 2) &&& (85 + 256 * M)) = bA v + 256 * (r - ((r / 2) &&& M)) := by
  rw [stA v r M hv]
  have := (bA_ok v hv).1
  unfold bA
  omega
def bcA (n : Nat) : Nat := n - ((n / 2 ^ 1) &&& 6148914691236517205)
def bcB (n : Nat) : Nat := (n &&& 3689348814741910323) + ((n / 2 ^ 2) &&& 3689348814741910323)
def bcC (n : Nat) : Nat := (n + n / 2 ^ 4) &&& 1085102592571150095
def bcF (c : Nat) : Nat := (c + c / 2 ^ 8) + (c + c / 2 ^ 8) / 2 ^ 16 + ((c + c / 2 ^ 8) + (c + c / 2 ^ 8) / 2 ^ 16) / 2 ^ 32
theorem five (n : Nat) (hn : n < 2 ^ 36) : ∃ a b c d e, a < 256 ∧ b < 256 ∧ c < 256 ∧ d < 256 ∧ e < 16 ∧ n = a + 256 * (b + 256 * (c + 256 * (d + 256 * e))) := by
  refine ⟨n % 256, n / 256 % 256, n / 65536 % 256, n / 16777216 % 256, n / 4294967296, ?_, ?_, ?_, ?_, ?_, ?_⟩ <;> omega
theorem sub5 (a b c d e : Nat) (ha : a < 256) (hb : b < 256) (hc : c < 256) (hd : d < 256) (he : e < 256) : bcA (a + 256 * (b + 256 * (c + 256 * (d + 256 * e)))) = bA a + 256 * (bA b + 256 * (bA c + 256 * (bA d + 256 * bA e))) ∧ (((a + 256 * (b + 256 * (c + 256 * (d + 256 * e)))) / 2 ^ 1) &&& 6148914691236517205) ≤ a + 256 * (b + 256 * (c + 256 * (d + 256 * e))) := by
  have m0 : (6148914691236517205 : Nat) = 85 + 256 * (85 + 256 * (85 + 256 * (85 + 256 * (85 + 256 * 5592405)))) := by decide
  have e1 : (((a + 256 * (b + 256 * (c + 256 * (d + 256 * e)))) / 2 ^ 1) &&& 6148914691236517205) = ((a / 2) &&& 85) + 256 * (((b / 2) &&& 85) + 256 * (((c / 2) &&& 85) + 256 * (((d / 2) &&& 85) + 256 * ((e / 2) &&& 85)))) := by
    rw [m0, show (2 : Nat) ^ 1 = 2 from rfl, stA _ _ _ ha, stA _ _ _ hb, stA _ _ _ hc, stA _ _ _ hd]
    have h := stA e 0 5592405 he
    rw [show e + 256 * 0 = e by omega] at h
    rw [h]
    simp
  have a1 := (bA_ok a ha).1
  have b1 := (bA_ok b hb).1
  have c1 := (bA_ok c hc).1
  have d1 := (bA_ok d hd).1
  have f1 := (bA_ok e he).1
  unfold bcA
  rw [e1]
  unfold bA
  constructor <;> omega
theorem fours5 (a b c d e : Nat) (ha : a < 256) (hb : b < 256) (hc : c < 256) (hd : d < 256) (he : e < 256) : bcB (a + 256 * (b + 256 * (c + 256 * (d + 256 * e)))) = bB a + 256 * (bB b + 256 * (bB c + 256 * (bB d + 256 * bB e))) := by
  have m0 : (3689348814741910323 : Nat) = 51 + 256 * (51 + 256 * (51 + 256 * (51 + 256 * (51 + 256 * 3355443)))) := by decide
  unfold bcB
  rw [m0, show (2 : Nat) ^ 2 = 4 from rfl, stB _ _ _ ha, stB _ _ _ hb, stB _ _ _ hc, stB _ _ _ hd, and_byte _ _ _ _ ha (by decide), and_byte _ _ _ _ hb (by decide), and_byte _ _ _ _ hc (by decide), and_byte _ _ _ _ hd (by decide)]
  have h := stB e 0 3355443 he
  have h2 := and_byte e 0 51 3355443 he (by decide)
  rw [show e + 256 * 0 = e by omega] at h h2
  rw [h, h2]
  unfold bB
  simp
  omega
theorem ones5 (a b c d e : Nat) (ha : a < 256 ∧ a % 16 ≤ 4 ∧ a / 16 ≤ 4) (hb : b < 256 ∧ b % 16 ≤ 4 ∧ b / 16 ≤ 4) (hc : c < 256 ∧ c % 16 ≤ 4 ∧ c / 16 ≤ 4) (hd : d < 256 ∧ d % 16 ≤ 4 ∧ d / 16 ≤ 4) (he : e < 256 ∧ e % 16 ≤ 4 ∧ e / 16 ≤ 4) : bcC (a + 256 * (b + 256 * (c + 256 * (d + 256 * e)))) = bC a + 256 * (bC b + 256 * (bC c + 256 * (bC d + 256 * bC e))) := by
  have m0 : (1085102592571150095 : Nat) = 15 + 256 * (15 + 256 * (15 + 256 * (15 + 256 * (15 + 256 * 986895)))) := by decide
  have low : ∀ x y, x < 256 → x % 16 ≤ 4 → x / 16 ≤ 4 → y % 16 ≤ 4 → (x + x / 16 + 16 * (y % 16)) < 256 ∧ ((x + x / 16 + 16 * (y % 16)) &&& 15) = bC x := by
    intro x y h1 h2 h3 h4
    refine ⟨by omega, ?_⟩
    unfold bC
    rw [show (15 : Nat) = 2 ^ 4 - 1 from rfl, Nat.and_two_pow_sub_one_eq_mod, Nat.and_two_pow_sub_one_eq_mod]
    omega
  have l1 := low a b ha.1 ha.2.1 ha.2.2 hb.2.1
  have l2 := low b c hb.1 hb.2.1 hb.2.2 hc.2.1
  have l3 := low c d hc.1 hc.2.1 hc.2.2 hd.2.1
  have l4 := low d e hd.1 hd.2.1 hd.2.2 he.2.1
  have l5 := low e 0 he.1 he.2.1 he.2.2 (by decide)
  unfold bcC
  have e0 : (a + 256 * (b + 256 * (c + 256 * (d + 256 * e)))) + (a + 256 * (b + 256 * (c + 256 * (d + 256 * e)))) / 2 ^ 4 = (a + a / 16 + 16 * (b % 16)) + 256 * ((b + b / 16 + 16 * (c % 16)) + 256 * ((c + c / 16 + 16 * (d % 16)) + 256 * ((d + d / 16 + 16 * (e % 16)) + 256 * (e + e / 16 + 16 * (0 % 16))))) := by omega
  rw [e0, m0, and_byte _ _ _ _ l1.1 (by decide), and_byte _ _ _ _ l2.1 (by decide), and_byte _ _ _ _ l3.1 (by decide), and_byte _ _ _ _ l4.1 (by decide), l1.2, l2.2, l3.2, l4.2]
  have h := and_byte (e + e / 16 + 16 * (0 % 16)) 0 15 986895 l5.1 (by decide)
  rw [show e + e / 16 + 16 * (0 % 16) + 256 * 0 = e + e / 16 + 16 * (0 % 16) by omega] at h
  rw [h, l5.2]
  simp
theorem cnt_split (p : Nat → Bool) (m : Nat) : ∀ n, cnt p (m + n) = cnt p m + cnt (fun k => p (m + k)) n
  | 0 => rfl
  | n + 1 => by
    show cnt p (m + n) + (if p (m + n) then 1 else 0) = cnt p m + (cnt (fun k => p (m + k)) n + if p (m + n) then 1 else 0)
    rw [cnt_split p m n]
    omega
theorem tb_byte {v r k : Nat} (hv : v < 256) : (v + 256 * r).testBit k = if k < 8 then v.testBit k else r.testBit (k - 8) := by
  have := Nat.testBit_two_pow_mul_add r (b := v) (i := 8) hv k
  rw [show v + 256 * r = 2 ^ 8 * r + v by omega]
  exact this
theorem cnt_byte {v r n : Nat} (hv : v < 256) : cnt (v + 256 * r).testBit (8 + n) = cnt v.testBit 8 + cnt r.testBit n := by
  rw [cnt_split, cnt_cong (q := v.testBit) (fun k hk => by rw [tb_byte hv, if_pos hk]), cnt_cong (p := fun k => (v + 256 * r).testBit (8 + k)) (q := r.testBit) (fun k hk => by rw [tb_byte hv, if_neg (by omega), Nat.add_sub_cancel_left])]
theorem cnt_e : ∀ e, e < 16 → cnt e.testBit 8 = cnt e.testBit 4 := by decide +kernel
theorem cnt8 : ∀ v, v < 256 → cnt v.testBit 8 ≤ 8 := fun v _ => cnt_le _ _
theorem bcF_ok (a b c d e : Nat) (ha : a ≤ 8) (hb : b ≤ 8) (hc : c ≤ 8) (hd : d ≤ 8) (he : e ≤ 8) : bcF (a + 256 * (b + 256 * (c + 256 * (d + 256 * e)))) % 128 = a + (b + (c + (d + e))) := by
  unfold bcF
  have e1 : (a + 256 * (b + 256 * (c + 256 * (d + 256 * e)))) + (a + 256 * (b + 256 * (c + 256 * (d + 256 * e)))) / 2 ^ 8 = (a + b) + 256 * ((b + c) + 256 * ((c + d) + 256 * ((d + e) + 256 * e))) := by omega
  rw [e1]
  have e2 : ((a + b) + 256 * ((b + c) + 256 * ((c + d) + 256 * ((d + e) + 256 * e)))) + ((a + b) + 256 * ((b + c) + 256 * ((c + d) + 256 * ((d + e) + 256 * e)))) / 2 ^ 16 = (a + b + c + d) + 256 * ((b + c + d + e) + 256 * ((c + d + e) + 256 * ((d + e) + 256 * e))) := by omega
  rw [e2]
  have e3 : ((a + b + c + d) + 256 * ((b + c + d + e) + 256 * ((c + d + e) + 256 * ((d + e) + 256 * e)))) / 2 ^ 32 = e := by omega
  rw [e3]
  omega
theorem bc_ok (n : Nat) (hn : n < 2 ^ 36) : bcF (bcC (bcB (bcA n))) % 128 = cnt n.testBit 36 := by
  obtain ⟨a, b, c, d, e, ha, hb, hc, hd, he, rfl⟩ := five n hn
  have he2 : e < 256 := by omega
  rw [(sub5 a b c d e ha hb hc hd he2).1, fours5 _ _ _ _ _ (bA_ok a ha).2.2 (bA_ok b hb).2.2 (bA_ok c hc).2.2 (bA_ok d hd).2.2 (bA_ok e he2).2.2, ones5 _ _ _ _ _ (bB_ok2 a ha) (bB_ok2 b hb) (bB_ok2 c hc) (bB_ok2 d hd) (bB_ok2 e he2), bC_ok a ha, bC_ok b hb, bC_ok c hc, bC_ok d hd, bC_ok e he2]
  rw [show (36 : Nat) = 8 + (8 + (8 + (8 + 4))) from rfl, cnt_byte ha, cnt_byte hb, cnt_byte hc, cnt_byte hd, ← cnt_e e he]
  have h1 := cnt8 a ha
  have h2 := cnt8 b hb
  have h3 := cnt8 c hc
  have h4 := cnt8 d hd
  have h5 := cnt8 e he2
  exact bcF_ok _ _ _ _ _ h1 h2 h3 h4 h5
theorem bcA_lt {n : Nat} (hn : n < 2 ^ 36) : bcA n < 2 ^ 36 := Nat.lt_of_le_of_lt (Nat.sub_le _ _) hn
theorem howMany_ok {n : Nat} (hn : n < 2 ^ 36) : f_X2_howMany (lN n) = some (nI (cnt n.testBit 36)) := by
  unfold f_X2_howMany f_J13_bitCount_95d88
  have hA : (n / 2 ^ 1 &&& 6148914691236517205) ≤ n := by
    obtain ⟨a, b, c, d, e, ha, hb, hc, hd, he, rfl⟩ := five n hn
    exact (sub5 a b c d e ha hb hc hd (by omega)).2
  have l1 := bcA_lt hn
  have l2 : bcB (bcA n) < 2 ^ 38 := by
    unfold bcB
    have h1 : bcA n &&& 3689348814741910323 ≤ bcA n := Nat.and_le_left
    have h2 : bcA n / 2 ^ 2 &&& 3689348814741910323 ≤ bcA n / 2 ^ 2 := Nat.and_le_left
    omega
  have l3 : bcC (bcB (bcA n)) < 2 ^ 40 := by
    unfold bcC
    have h1 : bcB (bcA n) + bcB (bcA n) / 2 ^ 4 &&& 1085102592571150095 ≤ bcB (bcA n) + bcB (bcA n) / 2 ^ 4 := Nat.and_le_left
    omega
  rw [show (68719476735 : Int64) = lN (2 ^ 36 - 1) from by decide, show (6148914691236517205 : Int64) = lN 6148914691236517205 from rfl, show (3689348814741910323 : Int64) = lN 3689348814741910323 from rfl, show (1085102592571150095 : Int64) = lN 1085102592571150095 from rfl]
  rw [show (1 : Int32) = nI 1 from rfl, show (2 : Int32) = nI 2 from rfl, show (4 : Int32) = nI 4 from rfl, show (8 : Int32) = nI 8 from rfl, show (16 : Int32) = nI 16 from rfl, show (32 : Int32) = nI 32 from rfl]
  rw [show lN n &&& lN (2 ^ 36 - 1) = lN n from by rw [fb_maskL, Nat.mod_eq_of_lt hn]]
  rw [wb_shr (n := n) (by omega) (by decide), fb_andL, lN_sub hA]
  rw [show n - (n / 2 ^ 1 &&& 6148914691236517205) = bcA n from rfl]
  rw [wb_shr (n := bcA n) (by omega) (by decide), fb_andL, fb_andL, lN_add]
  rw [show (bcA n &&& 3689348814741910323) + (bcA n / 2 ^ 2 &&& 3689348814741910323) = bcB (bcA n) from rfl]
  rw [wb_shr (n := bcB (bcA n)) (by omega) (by decide), lN_add, fb_andL]
  rw [show (bcB (bcA n) + bcB (bcA n) / 2 ^ 4 &&& 1085102592571150095) = bcC (bcB (bcA n)) from rfl]
  generalize hc : bcC (bcB (bcA n)) = C at *
  rw [wb_shr (n := C) (by omega) (by decide), lN_add, wb_shr (n := C + C / 2 ^ 8) (by omega) (by decide), lN_add, wb_shr (by omega) (by decide), lN_add, lN_i]
  simp only [Option.bind_some]
  rw [show (127 : Int32) = nI (2 ^ 7 - 1) from rfl, nx_and, Nat.and_two_pow_sub_one_eq_mod, ← bc_ok n hn, hc]
  rfl
