/-! THE IMAGE ON THE REFERENCE'S SIDE: rows kept, and put back -/
section
variable {wa ka la ra li sa wh ce mi st ke : Nat → Int32} {ik cu : Int32} {T : TS}
theorem pk_isWall {c : Nat} (hc : c + 36 ≤ 600) : ∃ ke', f_X12_passes_isWall wa ke 1 (nI c) = some (wa, ke', nI (c + 36)) ∧ (∀ j, j < 36 → ke' (c + j) = wa j) ∧ ∀ j, (j < c ∨ c + 36 ≤ j) → ke' j = ke j := by
  unfold f_X12_passes_isWall
  refine gloop (σ := Nat → Int32) (ρ := Option ((Nat → Int32) × (Nat → Int32) × Int32)) (fun n k s => L_X12_passes_isWall_2 (fun x2_58 => some (x2_58.1, x2_58.2.1, x2_58.2.2)) 1 n (nI k) wa s (nI (c + k))) 36 (fun k s => (∀ j, j < k → s (c + j) = wa j) ∧ ∀ j, (j < c ∨ c + 36 ≤ j) → s j = ke j) (fun r => ∃ ke', r = some (wa, ke', nI (c + 36)) ∧ (∀ j, j < 36 → ke' (c + j) = wa j) ∧ ∀ j, (j < c ∨ c + 36 ≤ j) → ke' j = ke j) ?_ ?_ gF 0 ke (by decide) (by decide) ⟨fun j hj => by omega, fun _ _ => rfl⟩
  · intro n s hI
    refine ⟨s, ?_, hI⟩
    show L_X12_passes_isWall_2 _ 1 (n + 1) (nI 36) wa s (nI (c + 36)) = _
    rw [L_X12_passes_isWall_2.eq_2, if_pos (by decide)]
  · intro n k s hk hI
    right
    refine ⟨upd s (c + k) (wa k), ?_, fun j hj => ?_, fun j hj => (upd_n (by omega)).trans (hI.2 j hj)⟩
    · show L_X12_passes_isWall_2 _ 1 (n + 1) (nI k) wa s (nI (c + k)) = L_X12_passes_isWall_2 _ 1 n (nI (k + 1)) wa (upd s (c + k) (wa k)) (nI (c + (k + 1)))
      rw [L_X12_passes_isWall_2.eq_2, if_neg (by rw [show (36 : Int32) = nI 36 from rfl, nI_leI (by decide) (by omega)]; omega), if_neg (by decide), gix_ok hk (by decide), gix_ok (show c + k < 600 by omega) (by decide), nI_clamp (show k < 2 ^ 31 by omega), nI_clamp (show c + k < 2 ^ 31 by omega), nI_1, nI_1]
      simp only [obs]
      rfl
    · by_cases e : j = k
      · rw [e, upd_s]
      · rw [upd_n (by omega)]
        exact hI.1 j (by omega)
theorem pr_isWall {c : Nat} (hc : c + 36 ≤ 600) : ∃ wa', f_X12_passes_isWall wa ke 0 (nI c) = some (wa', ke, nI (c + 36)) ∧ ∀ j, j < 36 → wa' j = ke (c + j) := by
  unfold f_X12_passes_isWall
  refine gloop (σ := Nat → Int32) (ρ := Option ((Nat → Int32) × (Nat → Int32) × Int32)) (fun n k s => L_X12_passes_isWall_2 (fun x2_58 => some (x2_58.1, x2_58.2.1, x2_58.2.2)) 0 n (nI k) s ke (nI (c + k))) 36 (fun k s => ∀ j, j < k → s j = ke (c + j)) (fun r => ∃ wa', r = some (wa', ke, nI (c + 36)) ∧ ∀ j, j < 36 → wa' j = ke (c + j)) ?_ ?_ gF 0 wa (by decide) (by decide) (fun j hj => by omega)
  · intro n s hI
    refine ⟨s, ?_, hI⟩
    show L_X12_passes_isWall_2 _ 0 (n + 1) (nI 36) s ke (nI (c + 36)) = _
    rw [L_X12_passes_isWall_2.eq_2, if_pos (by decide)]
  · intro n k s hk hI
    right
    refine ⟨upd s k (ke (c + k)), ?_, fun j hj => ?_⟩
    · show L_X12_passes_isWall_2 _ 0 (n + 1) (nI k) s ke (nI (c + k)) = L_X12_passes_isWall_2 _ 0 n (nI (k + 1)) (upd s k (ke (c + k))) ke (nI (c + (k + 1)))
      rw [L_X12_passes_isWall_2.eq_2, if_neg (by rw [show (36 : Int32) = nI 36 from rfl, nI_leI (by decide) (by omega)]; omega), if_pos rfl, gix_ok (show c + k < 600 by omega) (by decide), gix_ok hk (by decide), nI_clamp (show k < 2 ^ 31 by omega), nI_clamp (show c + k < 2 ^ 31 by omega), nI_1, nI_1]
      simp only [obs]
      rfl
    · by_cases e : j = k
      · rw [e, upd_s]
      · rw [upd_n e]
        exact hI j (by omega)
theorem pk_kind {c : Nat} (hc : c + 6 ≤ 600) : ∃ ke', f_X12_passes_kind ka ke 1 (nI c) = some (ka, ke', nI (c + 6)) ∧ (∀ j, j < 6 → ke' (c + j) = ka j) ∧ ∀ j, (j < c ∨ c + 6 ≤ j) → ke' j = ke j := by
  unfold f_X12_passes_kind
  refine gloop (σ := Nat → Int32) (ρ := Option ((Nat → Int32) × (Nat → Int32) × Int32)) (fun n k s => L_X12_passes_kind_2 (fun x2_58 => some (x2_58.1, x2_58.2.1, x2_58.2.2)) 1 n (nI k) ka s (nI (c + k))) 6 (fun k s => (∀ j, j < k → s (c + j) = ka j) ∧ ∀ j, (j < c ∨ c + 6 ≤ j) → s j = ke j) (fun r => ∃ ke', r = some (ka, ke', nI (c + 6)) ∧ (∀ j, j < 6 → ke' (c + j) = ka j) ∧ ∀ j, (j < c ∨ c + 6 ≤ j) → ke' j = ke j) ?_ ?_ gF 0 ke (by decide) (by decide) ⟨fun j hj => by omega, fun _ _ => rfl⟩
  · intro n s hI
    refine ⟨s, ?_, hI⟩
    show L_X12_passes_kind_2 _ 1 (n + 1) (nI 6) ka s (nI (c + 6)) = _
    rw [L_X12_passes_kind_2.eq_2, if_pos (by decide)]
  · intro n k s hk hI
    right
    refine ⟨upd s (c + k) (ka k), ?_, fun j hj => ?_, fun j hj => (upd_n (by omega)).trans (hI.2 j hj)⟩
    · show L_X12_passes_kind_2 _ 1 (n + 1) (nI k) ka s (nI (c + k)) = L_X12_passes_kind_2 _ 1 n (nI (k + 1)) ka (upd s (c + k) (ka k)) (nI (c + (k + 1)))
      rw [L_X12_passes_kind_2.eq_2, if_neg (by rw [show (6 : Int32) = nI 6 from rfl, nI_leI (by decide) (by omega)]; omega), if_neg (by decide), gix_ok hk (by decide), gix_ok (show c + k < 600 by omega) (by decide), nI_clamp (show k < 2 ^ 31 by omega), nI_clamp (show c + k < 2 ^ 31 by omega), nI_1, nI_1]
      simp only [obs]
      rfl
    · by_cases e : j = k
      · rw [e, upd_s]
      · rw [upd_n (by omega)]
        exact hI.1 j (by omega)
theorem pr_kind {c : Nat} (hc : c + 6 ≤ 600) : ∃ ka', f_X12_passes_kind ka ke 0 (nI c) = some (ka', ke, nI (c + 6)) ∧ ∀ j, j < 6 → ka' j = ke (c + j) := by
  unfold f_X12_passes_kind
  refine gloop (σ := Nat → Int32) (ρ := Option ((Nat → Int32) × (Nat → Int32) × Int32)) (fun n k s => L_X12_passes_kind_2 (fun x2_58 => some (x2_58.1, x2_58.2.1, x2_58.2.2)) 0 n (nI k) s ke (nI (c + k))) 6 (fun k s => ∀ j, j < k → s j = ke (c + j)) (fun r => ∃ ka', r = some (ka', ke, nI (c + 6)) ∧ ∀ j, j < 6 → ka' j = ke (c + j)) ?_ ?_ gF 0 ka (by decide) (by decide) (fun j hj => by omega)
  · intro n s hI
    refine ⟨s, ?_, hI⟩
    show L_X12_passes_kind_2 _ 0 (n + 1) (nI 6) s ke (nI (c + 6)) = _
    rw [L_X12_passes_kind_2.eq_2, if_pos (by decide)]
  · intro n k s hk hI
    right
    refine ⟨upd s k (ke (c + k)), ?_, fun j hj => ?_⟩
    · show L_X12_passes_kind_2 _ 0 (n + 1) (nI k) s ke (nI (c + k)) = L_X12_passes_kind_2 _ 0 n (nI (k + 1)) (upd s k (ke (c + k))) ke (nI (c + (k + 1)))
      rw [L_X12_passes_kind_2.eq_2, if_neg (by rw [show (6 : Int32) = nI 6 from rfl, nI_leI (by decide) (by omega)]; omega), if_pos rfl, gix_ok (show c + k < 600 by omega) (by decide), gix_ok hk (by decide), nI_clamp (show k < 2 ^ 31 by omega), nI_clamp (show c + k < 2 ^ 31 by omega), nI_1, nI_1]
      simp only [obs]
      rfl
    · by_cases e : j = k
      · rw [e, upd_s]
      · rw [upd_n e]
        exact hI j (by omega)
theorem pk_lampCell {c : Nat} (hc : c + 6 ≤ 600) : ∃ ke', f_X12_passes_lampCell la ke 1 (nI c) = some (la, ke', nI (c + 6)) ∧ (∀ j, j < 6 → ke' (c + j) = la j) ∧ ∀ j, (j < c ∨ c + 6 ≤ j) → ke' j = ke j := by
  unfold f_X12_passes_lampCell
  refine gloop (σ := Nat → Int32) (ρ := Option ((Nat → Int32) × (Nat → Int32) × Int32)) (fun n k s => L_X12_passes_lampCell_2 (fun x2_58 => some (x2_58.1, x2_58.2.1, x2_58.2.2)) 1 n (nI k) la s (nI (c + k))) 6 (fun k s => (∀ j, j < k → s (c + j) = la j) ∧ ∀ j, (j < c ∨ c + 6 ≤ j) → s j = ke j) (fun r => ∃ ke', r = some (la, ke', nI (c + 6)) ∧ (∀ j, j < 6 → ke' (c + j) = la j) ∧ ∀ j, (j < c ∨ c + 6 ≤ j) → ke' j = ke j) ?_ ?_ gF 0 ke (by decide) (by decide) ⟨fun j hj => by omega, fun _ _ => rfl⟩
  · intro n s hI
    refine ⟨s, ?_, hI⟩
    show L_X12_passes_lampCell_2 _ 1 (n + 1) (nI 6) la s (nI (c + 6)) = _
    rw [L_X12_passes_lampCell_2.eq_2, if_pos (by decide)]
  · intro n k s hk hI
    right
    refine ⟨upd s (c + k) (la k), ?_, fun j hj => ?_, fun j hj => (upd_n (by omega)).trans (hI.2 j hj)⟩
    · show L_X12_passes_lampCell_2 _ 1 (n + 1) (nI k) la s (nI (c + k)) = L_X12_passes_lampCell_2 _ 1 n (nI (k + 1)) la (upd s (c + k) (la k)) (nI (c + (k + 1)))
      rw [L_X12_passes_lampCell_2.eq_2, if_neg (by rw [show (6 : Int32) = nI 6 from rfl, nI_leI (by decide) (by omega)]; omega), if_neg (by decide), gix_ok hk (by decide), gix_ok (show c + k < 600 by omega) (by decide), nI_clamp (show k < 2 ^ 31 by omega), nI_clamp (show c + k < 2 ^ 31 by omega), nI_1, nI_1]
      simp only [obs]
      rfl
    · by_cases e : j = k
      · rw [e, upd_s]
      · rw [upd_n (by omega)]
        exact hI.1 j (by omega)
theorem pr_lampCell {c : Nat} (hc : c + 6 ≤ 600) : ∃ la', f_X12_passes_lampCell la ke 0 (nI c) = some (la', ke, nI (c + 6)) ∧ ∀ j, j < 6 → la' j = ke (c + j) := by
  unfold f_X12_passes_lampCell
  refine gloop (σ := Nat → Int32) (ρ := Option ((Nat → Int32) × (Nat → Int32) × Int32)) (fun n k s => L_X12_passes_lampCell_2 (fun x2_58 => some (x2_58.1, x2_58.2.1, x2_58.2.2)) 0 n (nI k) s ke (nI (c + k))) 6 (fun k s => ∀ j, j < k → s j = ke (c + j)) (fun r => ∃ la', r = some (la', ke, nI (c + 6)) ∧ ∀ j, j < 6 → la' j = ke (c + j)) ?_ ?_ gF 0 la (by decide) (by decide) (fun j hj => by omega)
  · intro n s hI
    refine ⟨s, ?_, hI⟩
    show L_X12_passes_lampCell_2 _ 0 (n + 1) (nI 6) s ke (nI (c + 6)) = _
    rw [L_X12_passes_lampCell_2.eq_2, if_pos (by decide)]
  · intro n k s hk hI
    right
    refine ⟨upd s k (ke (c + k)), ?_, fun j hj => ?_⟩
    · show L_X12_passes_lampCell_2 _ 0 (n + 1) (nI k) s ke (nI (c + k)) = L_X12_passes_lampCell_2 _ 0 n (nI (k + 1)) (upd s k (ke (c + k))) ke (nI (c + (k + 1)))
      rw [L_X12_passes_lampCell_2.eq_2, if_neg (by rw [show (6 : Int32) = nI 6 from rfl, nI_leI (by decide) (by omega)]; omega), if_pos rfl, gix_ok (show c + k < 600 by omega) (by decide), gix_ok hk (by decide), nI_clamp (show k < 2 ^ 31 by omega), nI_clamp (show c + k < 2 ^ 31 by omega), nI_1, nI_1]
      simp only [obs]
      rfl
    · by_cases e : j = k
      · rw [e, upd_s]
      · rw [upd_n e]
        exact hI j (by omega)
theorem pk_range {c : Nat} (hc : c + 6 ≤ 600) : ∃ ke', f_X12_passes_range ra ke 1 (nI c) = some (ra, ke', nI (c + 6)) ∧ (∀ j, j < 6 → ke' (c + j) = ra j) ∧ ∀ j, (j < c ∨ c + 6 ≤ j) → ke' j = ke j := by
  unfold f_X12_passes_range
  refine gloop (σ := Nat → Int32) (ρ := Option ((Nat → Int32) × (Nat → Int32) × Int32)) (fun n k s => L_X12_passes_range_2 (fun x2_58 => some (x2_58.1, x2_58.2.1, x2_58.2.2)) 1 n (nI k) ra s (nI (c + k))) 6 (fun k s => (∀ j, j < k → s (c + j) = ra j) ∧ ∀ j, (j < c ∨ c + 6 ≤ j) → s j = ke j) (fun r => ∃ ke', r = some (ra, ke', nI (c + 6)) ∧ (∀ j, j < 6 → ke' (c + j) = ra j) ∧ ∀ j, (j < c ∨ c + 6 ≤ j) → ke' j = ke j) ?_ ?_ gF 0 ke (by decide) (by decide) ⟨fun j hj => by omega, fun _ _ => rfl⟩
  · intro n s hI
    refine ⟨s, ?_, hI⟩
    show L_X12_passes_range_2 _ 1 (n + 1) (nI 6) ra s (nI (c + 6)) = _
    rw [L_X12_passes_range_2.eq_2, if_pos (by decide)]
  · intro n k s hk hI
    right
    refine ⟨upd s (c + k) (ra k), ?_, fun j hj => ?_, fun j hj => (upd_n (by omega)).trans (hI.2 j hj)⟩
    · show L_X12_passes_range_2 _ 1 (n + 1) (nI k) ra s (nI (c + k)) = L_X12_passes_range_2 _ 1 n (nI (k + 1)) ra (upd s (c + k) (ra k)) (nI (c + (k + 1)))
      rw [L_X12_passes_range_2.eq_2, if_neg (by rw [show (6 : Int32) = nI 6 from rfl, nI_leI (by decide) (by omega)]; omega), if_neg (by decide), gix_ok hk (by decide), gix_ok (show c + k < 600 by omega) (by decide), nI_clamp (show k < 2 ^ 31 by omega), nI_clamp (show c + k < 2 ^ 31 by omega), nI_1, nI_1]
      simp only [obs]
      rfl
    · by_cases e : j = k
      · rw [e, upd_s]
      · rw [upd_n (by omega)]
        exact hI.1 j (by omega)
theorem pr_range {c : Nat} (hc : c + 6 ≤ 600) : ∃ ra', f_X12_passes_range ra ke 0 (nI c) = some (ra', ke, nI (c + 6)) ∧ ∀ j, j < 6 → ra' j = ke (c + j) := by
  unfold f_X12_passes_range
  refine gloop (σ := Nat → Int32) (ρ := Option ((Nat → Int32) × (Nat → Int32) × Int32)) (fun n k s => L_X12_passes_range_2 (fun x2_58 => some (x2_58.1, x2_58.2.1, x2_58.2.2)) 0 n (nI k) s ke (nI (c + k))) 6 (fun k s => ∀ j, j < k → s j = ke (c + j)) (fun r => ∃ ra', r = some (ra', ke, nI (c + 6)) ∧ ∀ j, j < 6 → ra' j = ke (c + j)) ?_ ?_ gF 0 ra (by decide) (by decide) (fun j hj => by omega)
  · intro n s hI
    refine ⟨s, ?_, hI⟩
    show L_X12_passes_range_2 _ 0 (n + 1) (nI 6) s ke (nI (c + 6)) = _
    rw [L_X12_passes_range_2.eq_2, if_pos (by decide)]
  · intro n k s hk hI
    right
    refine ⟨upd s k (ke (c + k)), ?_, fun j hj => ?_⟩
    · show L_X12_passes_range_2 _ 0 (n + 1) (nI k) s ke (nI (c + k)) = L_X12_passes_range_2 _ 0 n (nI (k + 1)) (upd s k (ke (c + k))) ke (nI (c + (k + 1)))
      rw [L_X12_passes_range_2.eq_2, if_neg (by rw [show (6 : Int32) = nI 6 from rfl, nI_leI (by decide) (by omega)]; omega), if_pos rfl, gix_ok (show c + k < 600 by omega) (by decide), gix_ok hk (by decide), nI_clamp (show k < 2 ^ 31 by omega), nI_clamp (show c + k < 2 ^ 31 by omega), nI_1, nI_1]
      simp only [obs]
      rfl
    · by_cases e : j = k
      · rw [e, upd_s]
      · rw [upd_n e]
        exact hI j (by omega)
theorem pk_lit {c : Nat} (hc : c + 6 ≤ 600) : ∃ ke', f_X12_passes_lit li ke 1 (nI c) = some (li, ke', nI (c + 6)) ∧ (∀ j, j < 6 → ke' (c + j) = li j) ∧ ∀ j, (j < c ∨ c + 6 ≤ j) → ke' j = ke j := by
  unfold f_X12_passes_lit
  refine gloop (σ := Nat → Int32) (ρ := Option ((Nat → Int32) × (Nat → Int32) × Int32)) (fun n k s => L_X12_passes_lit_2 (fun x2_58 => some (x2_58.1, x2_58.2.1, x2_58.2.2)) 1 n (nI k) li s (nI (c + k))) 6 (fun k s => (∀ j, j < k → s (c + j) = li j) ∧ ∀ j, (j < c ∨ c + 6 ≤ j) → s j = ke j) (fun r => ∃ ke', r = some (li, ke', nI (c + 6)) ∧ (∀ j, j < 6 → ke' (c + j) = li j) ∧ ∀ j, (j < c ∨ c + 6 ≤ j) → ke' j = ke j) ?_ ?_ gF 0 ke (by decide) (by decide) ⟨fun j hj => by omega, fun _ _ => rfl⟩
  · intro n s hI
    refine ⟨s, ?_, hI⟩
    show L_X12_passes_lit_2 _ 1 (n + 1) (nI 6) li s (nI (c + 6)) = _
    rw [L_X12_passes_lit_2.eq_2, if_pos (by decide)]
  · intro n k s hk hI
    right
    refine ⟨upd s (c + k) (li k), ?_, fun j hj => ?_, fun j hj => (upd_n (by omega)).trans (hI.2 j hj)⟩
    · show L_X12_passes_lit_2 _ 1 (n + 1) (nI k) li s (nI (c + k)) = L_X12_passes_lit_2 _ 1 n (nI (k + 1)) li (upd s (c + k) (li k)) (nI (c + (k + 1)))
      rw [L_X12_passes_lit_2.eq_2, if_neg (by rw [show (6 : Int32) = nI 6 from rfl, nI_leI (by decide) (by omega)]; omega), if_neg (by decide), gix_ok hk (by decide), gix_ok (show c + k < 600 by omega) (by decide), nI_clamp (show k < 2 ^ 31 by omega), nI_clamp (show c + k < 2 ^ 31 by omega), nI_1, nI_1]
      simp only [obs]
      rfl
    · by_cases e : j = k
      · rw [e, upd_s]
      · rw [upd_n (by omega)]
        exact hI.1 j (by omega)
theorem pr_lit {c : Nat} (hc : c + 6 ≤ 600) : ∃ li', f_X12_passes_lit li ke 0 (nI c) = some (li', ke, nI (c + 6)) ∧ ∀ j, j < 6 → li' j = ke (c + j) := by
  unfold f_X12_passes_lit
  refine gloop (σ := Nat → Int32) (ρ := Option ((Nat → Int32) × (Nat → Int32) × Int32)) (fun n k s => L_X12_passes_lit_2 (fun x2_58 => some (x2_58.1, x2_58.2.1, x2_58.2.2)) 0 n (nI k) s ke (nI (c + k))) 6 (fun k s => ∀ j, j < k → s j = ke (c + j)) (fun r => ∃ li', r = some (li', ke, nI (c + 6)) ∧ ∀ j, j < 6 → li' j = ke (c + j)) ?_ ?_ gF 0 li (by decide) (by decide) (fun j hj => by omega)
  · intro n s hI
    refine ⟨s, ?_, hI⟩
    show L_X12_passes_lit_2 _ 0 (n + 1) (nI 6) s ke (nI (c + 6)) = _
    rw [L_X12_passes_lit_2.eq_2, if_pos (by decide)]
  · intro n k s hk hI
    right
    refine ⟨upd s k (ke (c + k)), ?_, fun j hj => ?_⟩
    · show L_X12_passes_lit_2 _ 0 (n + 1) (nI k) s ke (nI (c + k)) = L_X12_passes_lit_2 _ 0 n (nI (k + 1)) (upd s k (ke (c + k))) ke (nI (c + (k + 1)))
      rw [L_X12_passes_lit_2.eq_2, if_neg (by rw [show (6 : Int32) = nI 6 from rfl, nI_leI (by decide) (by omega)]; omega), if_pos rfl, gix_ok (show c + k < 600 by omega) (by decide), gix_ok hk (by decide), nI_clamp (show k < 2 ^ 31 by omega), nI_clamp (show c + k < 2 ^ 31 by omega), nI_1, nI_1]
      simp only [obs]
      rfl
    · by_cases e : j = k
      · rw [e, upd_s]
      · rw [upd_n e]
        exact hI j (by omega)
theorem pk_scenes {c : Nat} (hc : c + 6 ≤ 600) : ∃ ke', f_X12_passes_scenes sa ke 1 (nI c) = some (sa, ke', nI (c + 6)) ∧ (∀ j, j < 6 → ke' (c + j) = sa j) ∧ ∀ j, (j < c ∨ c + 6 ≤ j) → ke' j = ke j := by
  unfold f_X12_passes_scenes
  refine gloop (σ := Nat → Int32) (ρ := Option ((Nat → Int32) × (Nat → Int32) × Int32)) (fun n k s => L_X12_passes_scenes_2 (fun x2_58 => some (x2_58.1, x2_58.2.1, x2_58.2.2)) 1 n (nI k) sa s (nI (c + k))) 6 (fun k s => (∀ j, j < k → s (c + j) = sa j) ∧ ∀ j, (j < c ∨ c + 6 ≤ j) → s j = ke j) (fun r => ∃ ke', r = some (sa, ke', nI (c + 6)) ∧ (∀ j, j < 6 → ke' (c + j) = sa j) ∧ ∀ j, (j < c ∨ c + 6 ≤ j) → ke' j = ke j) ?_ ?_ gF 0 ke (by decide) (by decide) ⟨fun j hj => by omega, fun _ _ => rfl⟩
  · intro n s hI
    refine ⟨s, ?_, hI⟩
    show L_X12_passes_scenes_2 _ 1 (n + 1) (nI 6) sa s (nI (c + 6)) = _
    rw [L_X12_passes_scenes_2.eq_2, if_pos (by decide)]
  · intro n k s hk hI
    right
    refine ⟨upd s (c + k) (sa k), ?_, fun j hj => ?_, fun j hj => (upd_n (by omega)).trans (hI.2 j hj)⟩
    · show L_X12_passes_scenes_2 _ 1 (n + 1) (nI k) sa s (nI (c + k)) = L_X12_passes_scenes_2 _ 1 n (nI (k + 1)) sa (upd s (c + k) (sa k)) (nI (c + (k + 1)))
      rw [L_X12_passes_scenes_2.eq_2, if_neg (by rw [show (6 : Int32) = nI 6 from rfl, nI_leI (by decide) (by omega)]; omega), if_neg (by decide), gix_ok hk (by decide), gix_ok (show c + k < 600 by omega) (by decide), nI_clamp (show k < 2 ^ 31 by omega), nI_clamp (show c + k < 2 ^ 31 by omega), nI_1, nI_1]
      simp only [obs]
      rfl
    · by_cases e : j = k
      · rw [e, upd_s]
      · rw [upd_n (by omega)]
        exact hI.1 j (by omega)
theorem pr_scenes {c : Nat} (hc : c + 6 ≤ 600) : ∃ sa', f_X12_passes_scenes sa ke 0 (nI c) = some (sa', ke, nI (c + 6)) ∧ ∀ j, j < 6 → sa' j = ke (c + j) := by
  unfold f_X12_passes_scenes
  refine gloop (σ := Nat → Int32) (ρ := Option ((Nat → Int32) × (Nat → Int32) × Int32)) (fun n k s => L_X12_passes_scenes_2 (fun x2_58 => some (x2_58.1, x2_58.2.1, x2_58.2.2)) 0 n (nI k) s ke (nI (c + k))) 6 (fun k s => ∀ j, j < k → s j = ke (c + j)) (fun r => ∃ sa', r = some (sa', ke, nI (c + 6)) ∧ ∀ j, j < 6 → sa' j = ke (c + j)) ?_ ?_ gF 0 sa (by decide) (by decide) (fun j hj => by omega)
  · intro n s hI
    refine ⟨s, ?_, hI⟩
    show L_X12_passes_scenes_2 _ 0 (n + 1) (nI 6) s ke (nI (c + 6)) = _
    rw [L_X12_passes_scenes_2.eq_2, if_pos (by decide)]
  · intro n k s hk hI
    right
    refine ⟨upd s k (ke (c + k)), ?_, fun j hj => ?_⟩
    · show L_X12_passes_scenes_2 _ 0 (n + 1) (nI k) s ke (nI (c + k)) = L_X12_passes_scenes_2 _ 0 n (nI (k + 1)) (upd s k (ke (c + k))) ke (nI (c + (k + 1)))
      rw [L_X12_passes_scenes_2.eq_2, if_neg (by rw [show (6 : Int32) = nI 6 from rfl, nI_leI (by decide) (by omega)]; omega), if_pos rfl, gix_ok (show c + k < 600 by omega) (by decide), gix_ok hk (by decide), nI_clamp (show k < 2 ^ 31 by omega), nI_clamp (show c + k < 2 ^ 31 by omega), nI_1, nI_1]
      simp only [obs]
      rfl
    · by_cases e : j = k
      · rw [e, upd_s]
      · rw [upd_n e]
        exact hI j (by omega)
theorem pk_who {c : Nat} (hc : c + 54 ≤ 600) : ∃ ke', f_X12_passes_who wh ke 1 (nI c) = some (wh, ke', nI (c + 54)) ∧ (∀ j, j < 54 → ke' (c + j) = wh j) ∧ ∀ j, (j < c ∨ c + 54 ≤ j) → ke' j = ke j := by
  unfold f_X12_passes_who
  refine gloop (σ := Nat → Int32) (ρ := Option ((Nat → Int32) × (Nat → Int32) × Int32)) (fun n k s => L_X12_passes_who_2 (fun x2_58 => some (x2_58.1, x2_58.2.1, x2_58.2.2)) 1 n (nI k) wh s (nI (c + k))) 54 (fun k s => (∀ j, j < k → s (c + j) = wh j) ∧ ∀ j, (j < c ∨ c + 54 ≤ j) → s j = ke j) (fun r => ∃ ke', r = some (wh, ke', nI (c + 54)) ∧ (∀ j, j < 54 → ke' (c + j) = wh j) ∧ ∀ j, (j < c ∨ c + 54 ≤ j) → ke' j = ke j) ?_ ?_ gF 0 ke (by decide) (by decide) ⟨fun j hj => by omega, fun _ _ => rfl⟩
  · intro n s hI
    refine ⟨s, ?_, hI⟩
    show L_X12_passes_who_2 _ 1 (n + 1) (nI 54) wh s (nI (c + 54)) = _
    rw [L_X12_passes_who_2.eq_2, if_pos (by decide)]
  · intro n k s hk hI
    right
    refine ⟨upd s (c + k) (wh k), ?_, fun j hj => ?_, fun j hj => (upd_n (by omega)).trans (hI.2 j hj)⟩
    · show L_X12_passes_who_2 _ 1 (n + 1) (nI k) wh s (nI (c + k)) = L_X12_passes_who_2 _ 1 n (nI (k + 1)) wh (upd s (c + k) (wh k)) (nI (c + (k + 1)))
      rw [L_X12_passes_who_2.eq_2, if_neg (by rw [show (54 : Int32) = nI 54 from rfl, nI_leI (by decide) (by omega)]; omega), if_neg (by decide), gix_ok hk (by decide), gix_ok (show c + k < 600 by omega) (by decide), nI_clamp (show k < 2 ^ 31 by omega), nI_clamp (show c + k < 2 ^ 31 by omega), nI_1, nI_1]
      simp only [obs]
      rfl
    · by_cases e : j = k
      · rw [e, upd_s]
      · rw [upd_n (by omega)]
        exact hI.1 j (by omega)
theorem pr_who {c : Nat} (hc : c + 54 ≤ 600) : ∃ wh', f_X12_passes_who wh ke 0 (nI c) = some (wh', ke, nI (c + 54)) ∧ ∀ j, j < 54 → wh' j = ke (c + j) := by
  unfold f_X12_passes_who
  refine gloop (σ := Nat → Int32) (ρ := Option ((Nat → Int32) × (Nat → Int32) × Int32)) (fun n k s => L_X12_passes_who_2 (fun x2_58 => some (x2_58.1, x2_58.2.1, x2_58.2.2)) 0 n (nI k) s ke (nI (c + k))) 54 (fun k s => ∀ j, j < k → s j = ke (c + j)) (fun r => ∃ wh', r = some (wh', ke, nI (c + 54)) ∧ ∀ j, j < 54 → wh' j = ke (c + j)) ?_ ?_ gF 0 wh (by decide) (by decide) (fun j hj => by omega)
  · intro n s hI
    refine ⟨s, ?_, hI⟩
    show L_X12_passes_who_2 _ 0 (n + 1) (nI 54) s ke (nI (c + 54)) = _
    rw [L_X12_passes_who_2.eq_2, if_pos (by decide)]
  · intro n k s hk hI
    right
    refine ⟨upd s k (ke (c + k)), ?_, fun j hj => ?_⟩
    · show L_X12_passes_who_2 _ 0 (n + 1) (nI k) s ke (nI (c + k)) = L_X12_passes_who_2 _ 0 n (nI (k + 1)) (upd s k (ke (c + k))) ke (nI (c + (k + 1)))
      rw [L_X12_passes_who_2.eq_2, if_neg (by rw [show (54 : Int32) = nI 54 from rfl, nI_leI (by decide) (by omega)]; omega), if_pos rfl, gix_ok (show c + k < 600 by omega) (by decide), gix_ok hk (by decide), nI_clamp (show k < 2 ^ 31 by omega), nI_clamp (show c + k < 2 ^ 31 by omega), nI_1, nI_1]
      simp only [obs]
      rfl
    · by_cases e : j = k
      · rw [e, upd_s]
      · rw [upd_n e]
        exact hI j (by omega)
theorem pk_cell {c : Nat} (hc : c + 54 ≤ 600) : ∃ ke', f_X12_passes_cell ce ke 1 (nI c) = some (ce, ke', nI (c + 54)) ∧ (∀ j, j < 54 → ke' (c + j) = ce j) ∧ ∀ j, (j < c ∨ c + 54 ≤ j) → ke' j = ke j := by
  unfold f_X12_passes_cell
  refine gloop (σ := Nat → Int32) (ρ := Option ((Nat → Int32) × (Nat → Int32) × Int32)) (fun n k s => L_X12_passes_cell_2 (fun x2_58 => some (x2_58.1, x2_58.2.1, x2_58.2.2)) 1 n (nI k) ce s (nI (c + k))) 54 (fun k s => (∀ j, j < k → s (c + j) = ce j) ∧ ∀ j, (j < c ∨ c + 54 ≤ j) → s j = ke j) (fun r => ∃ ke', r = some (ce, ke', nI (c + 54)) ∧ (∀ j, j < 54 → ke' (c + j) = ce j) ∧ ∀ j, (j < c ∨ c + 54 ≤ j) → ke' j = ke j) ?_ ?_ gF 0 ke (by decide) (by decide) ⟨fun j hj => by omega, fun _ _ => rfl⟩
  · intro n s hI
    refine ⟨s, ?_, hI⟩
    show L_X12_passes_cell_2 _ 1 (n + 1) (nI 54) ce s (nI (c + 54)) = _
    rw [L_X12_passes_cell_2.eq_2, if_pos (by decide)]
  · intro n k s hk hI
    right
    refine ⟨upd s (c + k) (ce k), ?_, fun j hj => ?_, fun j hj => (upd_n (by omega)).trans (hI.2 j hj)⟩
    · show L_X12_passes_cell_2 _ 1 (n + 1) (nI k) ce s (nI (c + k)) = L_X12_passes_cell_2 _ 1 n (nI (k + 1)) ce (upd s (c + k) (ce k)) (nI (c + (k + 1)))
      rw [L_X12_passes_cell_2.eq_2, if_neg (by rw [show (54 : Int32) = nI 54 from rfl, nI_leI (by decide) (by omega)]; omega), if_neg (by decide), gix_ok hk (by decide), gix_ok (show c + k < 600 by omega) (by decide), nI_clamp (show k < 2 ^ 31 by omega), nI_clamp (show c + k < 2 ^ 31 by omega), nI_1, nI_1]
      simp only [obs]
      rfl
    · by_cases e : j = k
      · rw [e, upd_s]
      · rw [upd_n (by omega)]
        exact hI.1 j (by omega)
theorem pr_cell {c : Nat} (hc : c + 54 ≤ 600) : ∃ ce', f_X12_passes_cell ce ke 0 (nI c) = some (ce', ke, nI (c + 54)) ∧ ∀ j, j < 54 → ce' j = ke (c + j) := by
  unfold f_X12_passes_cell
  refine gloop (σ := Nat → Int32) (ρ := Option ((Nat → Int32) × (Nat → Int32) × Int32)) (fun n k s => L_X12_passes_cell_2 (fun x2_58 => some (x2_58.1, x2_58.2.1, x2_58.2.2)) 0 n (nI k) s ke (nI (c + k))) 54 (fun k s => ∀ j, j < k → s j = ke (c + j)) (fun r => ∃ ce', r = some (ce', ke, nI (c + 54)) ∧ ∀ j, j < 54 → ce' j = ke (c + j)) ?_ ?_ gF 0 ce (by decide) (by decide) (fun j hj => by omega)
  · intro n s hI
    refine ⟨s, ?_, hI⟩
    show L_X12_passes_cell_2 _ 0 (n + 1) (nI 54) s ke (nI (c + 54)) = _
    rw [L_X12_passes_cell_2.eq_2, if_pos (by decide)]
  · intro n k s hk hI
    right
    refine ⟨upd s k (ke (c + k)), ?_, fun j hj => ?_⟩
    · show L_X12_passes_cell_2 _ 0 (n + 1) (nI k) s ke (nI (c + k)) = L_X12_passes_cell_2 _ 0 n (nI (k + 1)) (upd s k (ke (c + k))) ke (nI (c + (k + 1)))
      rw [L_X12_passes_cell_2.eq_2, if_neg (by rw [show (54 : Int32) = nI 54 from rfl, nI_leI (by decide) (by omega)]; omega), if_pos rfl, gix_ok (show c + k < 600 by omega) (by decide), gix_ok hk (by decide), nI_clamp (show k < 2 ^ 31 by omega), nI_clamp (show c + k < 2 ^ 31 by omega), nI_1, nI_1]
      simp only [obs]
      rfl
    · by_cases e : j = k
      · rw [e, upd_s]
      · rw [upd_n e]
        exact hI j (by omega)
theorem pk_minuteOf {c : Nat} (hc : c + 54 ≤ 600) : ∃ ke', f_X12_passes_minuteOf mi ke 1 (nI c) = some (mi, ke', nI (c + 54)) ∧ (∀ j, j < 54 → ke' (c + j) = mi j) ∧ ∀ j, (j < c ∨ c + 54 ≤ j) → ke' j = ke j := by
  unfold f_X12_passes_minuteOf
  refine gloop (σ := Nat → Int32) (ρ := Option ((Nat → Int32) × (Nat → Int32) × Int32)) (fun n k s => L_X12_passes_minuteOf_2 (fun x2_58 => some (x2_58.1, x2_58.2.1, x2_58.2.2)) 1 n (nI k) mi s (nI (c + k))) 54 (fun k s => (∀ j, j < k → s (c + j) = mi j) ∧ ∀ j, (j < c ∨ c + 54 ≤ j) → s j = ke j) (fun r => ∃ ke', r = some (mi, ke', nI (c + 54)) ∧ (∀ j, j < 54 → ke' (c + j) = mi j) ∧ ∀ j, (j < c ∨ c + 54 ≤ j) → ke' j = ke j) ?_ ?_ gF 0 ke (by decide) (by decide) ⟨fun j hj => by omega, fun _ _ => rfl⟩
  · intro n s hI
    refine ⟨s, ?_, hI⟩
    show L_X12_passes_minuteOf_2 _ 1 (n + 1) (nI 54) mi s (nI (c + 54)) = _
    rw [L_X12_passes_minuteOf_2.eq_2, if_pos (by decide)]
  · intro n k s hk hI
    right
    refine ⟨upd s (c + k) (mi k), ?_, fun j hj => ?_, fun j hj => (upd_n (by omega)).trans (hI.2 j hj)⟩
    · show L_X12_passes_minuteOf_2 _ 1 (n + 1) (nI k) mi s (nI (c + k)) = L_X12_passes_minuteOf_2 _ 1 n (nI (k + 1)) mi (upd s (c + k) (mi k)) (nI (c + (k + 1)))
      rw [L_X12_passes_minuteOf_2.eq_2, if_neg (by rw [show (54 : Int32) = nI 54 from rfl, nI_leI (by decide) (by omega)]; omega), if_neg (by decide), gix_ok hk (by decide), gix_ok (show c + k < 600 by omega) (by decide), nI_clamp (show k < 2 ^ 31 by omega), nI_clamp (show c + k < 2 ^ 31 by omega), nI_1, nI_1]
      simp only [obs]
      rfl
    · by_cases e : j = k
      · rw [e, upd_s]
      · rw [upd_n (by omega)]
        exact hI.1 j (by omega)
theorem pr_minuteOf {c : Nat} (hc : c + 54 ≤ 600) : ∃ mi', f_X12_passes_minuteOf mi ke 0 (nI c) = some (mi', ke, nI (c + 54)) ∧ ∀ j, j < 54 → mi' j = ke (c + j) := by
  unfold f_X12_passes_minuteOf
  refine gloop (σ := Nat → Int32) (ρ := Option ((Nat → Int32) × (Nat → Int32) × Int32)) (fun n k s => L_X12_passes_minuteOf_2 (fun x2_58 => some (x2_58.1, x2_58.2.1, x2_58.2.2)) 0 n (nI k) s ke (nI (c + k))) 54 (fun k s => ∀ j, j < k → s j = ke (c + j)) (fun r => ∃ mi', r = some (mi', ke, nI (c + 54)) ∧ ∀ j, j < 54 → mi' j = ke (c + j)) ?_ ?_ gF 0 mi (by decide) (by decide) (fun j hj => by omega)
  · intro n s hI
    refine ⟨s, ?_, hI⟩
    show L_X12_passes_minuteOf_2 _ 0 (n + 1) (nI 54) s ke (nI (c + 54)) = _
    rw [L_X12_passes_minuteOf_2.eq_2, if_pos (by decide)]
  · intro n k s hk hI
    right
    refine ⟨upd s k (ke (c + k)), ?_, fun j hj => ?_⟩
    · show L_X12_passes_minuteOf_2 _ 0 (n + 1) (nI k) s ke (nI (c + k)) = L_X12_passes_minuteOf_2 _ 0 n (nI (k + 1)) (upd s k (ke (c + k))) ke (nI (c + (k + 1)))
      rw [L_X12_passes_minuteOf_2.eq_2, if_neg (by rw [show (54 : Int32) = nI 54 from rfl, nI_leI (by decide) (by omega)]; omega), if_pos rfl, gix_ok (show c + k < 600 by omega) (by decide), gix_ok hk (by decide), nI_clamp (show k < 2 ^ 31 by omega), nI_clamp (show c + k < 2 ^ 31 by omega), nI_1, nI_1]
      simp only [obs]
      rfl
    · by_cases e : j = k
      · rw [e, upd_s]
      · rw [upd_n e]
        exact hI j (by omega)
theorem pk_standsAt {c : Nat} (hc : c + 4 ≤ 600) : ∃ ke', f_X12_passes_standsAt st ke 1 (nI c) = some (st, ke', nI (c + 4)) ∧ (∀ j, j < 4 → ke' (c + j) = st j) ∧ ∀ j, (j < c ∨ c + 4 ≤ j) → ke' j = ke j := by
  unfold f_X12_passes_standsAt
  refine gloop (σ := Nat → Int32) (ρ := Option ((Nat → Int32) × (Nat → Int32) × Int32)) (fun n k s => L_X12_passes_standsAt_2 (fun x2_58 => some (x2_58.1, x2_58.2.1, x2_58.2.2)) 1 n (nI k) st s (nI (c + k))) 4 (fun k s => (∀ j, j < k → s (c + j) = st j) ∧ ∀ j, (j < c ∨ c + 4 ≤ j) → s j = ke j) (fun r => ∃ ke', r = some (st, ke', nI (c + 4)) ∧ (∀ j, j < 4 → ke' (c + j) = st j) ∧ ∀ j, (j < c ∨ c + 4 ≤ j) → ke' j = ke j) ?_ ?_ gF 0 ke (by decide) (by decide) ⟨fun j hj => by omega, fun _ _ => rfl⟩
  · intro n s hI
    refine ⟨s, ?_, hI⟩
    show L_X12_passes_standsAt_2 _ 1 (n + 1) (nI 4) st s (nI (c + 4)) = _
    rw [L_X12_passes_standsAt_2.eq_2, if_pos (by decide)]
  · intro n k s hk hI
    right
    refine ⟨upd s (c + k) (st k), ?_, fun j hj => ?_, fun j hj => (upd_n (by omega)).trans (hI.2 j hj)⟩
    · show L_X12_passes_standsAt_2 _ 1 (n + 1) (nI k) st s (nI (c + k)) = L_X12_passes_standsAt_2 _ 1 n (nI (k + 1)) st (upd s (c + k) (st k)) (nI (c + (k + 1)))
      rw [L_X12_passes_standsAt_2.eq_2, if_neg (by rw [show (4 : Int32) = nI 4 from rfl, nI_leI (by decide) (by omega)]; omega), if_neg (by decide), gix_ok hk (by decide), gix_ok (show c + k < 600 by omega) (by decide), nI_clamp (show k < 2 ^ 31 by omega), nI_clamp (show c + k < 2 ^ 31 by omega), nI_1, nI_1]
      simp only [obs]
      rfl
    · by_cases e : j = k
      · rw [e, upd_s]
      · rw [upd_n (by omega)]
        exact hI.1 j (by omega)
theorem pr_standsAt {c : Nat} (hc : c + 4 ≤ 600) : ∃ st', f_X12_passes_standsAt st ke 0 (nI c) = some (st', ke, nI (c + 4)) ∧ ∀ j, j < 4 → st' j = ke (c + j) := by
  unfold f_X12_passes_standsAt
  refine gloop (σ := Nat → Int32) (ρ := Option ((Nat → Int32) × (Nat → Int32) × Int32)) (fun n k s => L_X12_passes_standsAt_2 (fun x2_58 => some (x2_58.1, x2_58.2.1, x2_58.2.2)) 0 n (nI k) s ke (nI (c + k))) 4 (fun k s => ∀ j, j < k → s j = ke (c + j)) (fun r => ∃ st', r = some (st', ke, nI (c + 4)) ∧ ∀ j, j < 4 → st' j = ke (c + j)) ?_ ?_ gF 0 st (by decide) (by decide) (fun j hj => by omega)
  · intro n s hI
    refine ⟨s, ?_, hI⟩
    show L_X12_passes_standsAt_2 _ 0 (n + 1) (nI 4) s ke (nI (c + 4)) = _
    rw [L_X12_passes_standsAt_2.eq_2, if_pos (by decide)]
  · intro n k s hk hI
    right
    refine ⟨upd s k (ke (c + k)), ?_, fun j hj => ?_⟩
    · show L_X12_passes_standsAt_2 _ 0 (n + 1) (nI k) s ke (nI (c + k)) = L_X12_passes_standsAt_2 _ 0 n (nI (k + 1)) (upd s k (ke (c + k))) ke (nI (c + (k + 1)))
      rw [L_X12_passes_standsAt_2.eq_2, if_neg (by rw [show (4 : Int32) = nI 4 from rfl, nI_leI (by decide) (by omega)]; omega), if_pos rfl, gix_ok (show c + k < 600 by omega) (by decide), gix_ok hk (by decide), nI_clamp (show k < 2 ^ 31 by omega), nI_clamp (show c + k < 2 ^ 31 by omega), nI_1, nI_1]
      simp only [obs]
      rfl
    · by_cases e : j = k
      · rw [e, upd_s]
      · rw [upd_n e]
        exact hI j (by omega)
theorem pk1_ok {c : Nat} (hc : c < 600) (v : Int32) : f_X12_passOne ke 1 (nI c) v = some (v, upd ke c v, nI (c + 1)) := by
  unfold f_X12_passOne
  rw [if_neg (by decide), if_neg (by decide), gix_ok hc (by decide), nI_clamp (show c < 2 ^ 31 by omega), nI_1]
  simp only [obs]
theorem pr1_ok {c : Nat} (hc : c < 600) (v : Int32) : f_X12_passOne ke 0 (nI c) v = some (ke c, ke, nI (c + 1)) := by
  unfold f_X12_passOne
  rw [if_pos rfl, if_pos rfl, gix_ok hc (by decide), nI_clamp (show c < 2 ^ 31 by omega), nI_1]
  simp only [obs]
theorem RT.cong {wa' ka' la' ra' li' sa' wh' ce' mi' st' : Nat → Int32} (hT : TOK T) (h : RT T wa ka la ra li sa wh ce mi st) (e0 : ∀ k, k < 36 → wa' k = wa k) (e1 : ∀ k, k < 6 → ka' k = ka k) (e2 : ∀ k, k < 6 → la' k = la k) (e3 : ∀ k, k < 6 → ra' k = ra k) (e4 : ∀ k, k < 6 → li' k = li k) (e5 : ∀ k, k < 6 → sa' k = sa k) (e6 : ∀ k, k < 54 → wh' k = wh k) (e7 : ∀ k, k < 54 → ce' k = ce k) (e8 : ∀ k, k < 54 → mi' k = mi k) (e9 : ∀ k, k < 4 → st' k = st k) : RT T wa' ka' la' ra' li' sa' wh' ce' mi' st' := by
  have hn : tn T ≤ 6 := hT.2.2.1
  have hp : tp T ≤ 4 := hT.2.2.2.1
  refine ⟨fun c hc => (e0 c hc).trans (h.1 c hc), fun p hp2 => (e9 p (by omega)).trans (h.2.1 p hp2), fun l hl => ?_⟩
  obtain ⟨k1, k2, k3, k4, k5, k6⟩ := h.2.2 l hl
  have h9 := hT.s9 hl
  refine ⟨(e1 l (by omega)).trans k1, (e2 l (by omega)).trans k2, (e3 l (by omega)).trans k3, (e4 l (by omega)).trans k4, (e5 l (by omega)).trans k5, fun k hk => ?_⟩
  obtain ⟨j1, j2, j3⟩ := k6 k hk
  exact ⟨(e6 _ (by omega)).trans j1, (e7 _ (by omega)).trans j2, (e8 _ (by omega)).trans j3⟩
/-- the kept rows from B on hold a town -/
def RK (T : TS) (ke : Nat → Int32) (B : Nat) : Prop := RT T (fun k => ke (B + k)) (fun k => ke (B + 36 + k)) (fun k => ke (B + 42 + k)) (fun k => ke (B + 48 + k)) (fun k => ke (B + 54 + k)) (fun k => ke (B + 60 + k)) (fun k => ke (B + 66 + k)) (fun k => ke (B + 120 + k)) (fun k => ke (B + 174 + k)) (fun k => ke (B + 228 + k)) ∧ ke (B + 232) = nI (tn T) ∧ ke (B + 233) = nI (tp T) ∧ ke (B + 234) = nI (tM T)
theorem xkeep_ok (hT : TOK T) (hR : RT T wa ka la ra li sa wh ce mi st) {b : Nat} (hb : b ≤ 1) : ∃ ke', f_X12_passesAll wa ka la ra li sa wh ce mi st (nI (tn T)) (nI (tp T)) (nI (tM T)) ke ik cu (nI b) 1 = some (wa, ka, la, ra, li, sa, wh, ce, mi, st, nI (tn T), nI (tp T), nI (tM T), ke', 1, nI (300 * b + 235)) ∧ RK T ke' (300 * b) ∧ ∀ j, (j < 300 * b ∨ 300 * b + 235 ≤ j) → ke' j = ke j := by
  unfold f_X12_passesAll
  rw [gzb_1, show (300 : Int32) = nI 300 from rfl, pk_mul]
  obtain ⟨ke0, p0, w0, f0⟩ := pk_isWall (ke := ke) (wa := wa) (c := 300 * b) (by omega)
  rw [p0]
  simp only [obs]
  obtain ⟨ke1, p1, w1, f1⟩ := pk_kind (ke := ke0) (ka := ka) (c := 300 * b + 36) (by omega)
  rw [p1]
  simp only [obs]
  rw [show 300 * b + 36 + 6 = 300 * b + 42 by omega]
  obtain ⟨ke2, p2, w2, f2⟩ := pk_lampCell (ke := ke1) (la := la) (c := 300 * b + 42) (by omega)
  rw [p2]
  simp only [obs]
  rw [show 300 * b + 42 + 6 = 300 * b + 48 by omega]
  obtain ⟨ke3, p3, w3, f3⟩ := pk_range (ke := ke2) (ra := ra) (c := 300 * b + 48) (by omega)
  rw [p3]
  simp only [obs]
  rw [show 300 * b + 48 + 6 = 300 * b + 54 by omega]
  obtain ⟨ke4, p4, w4, f4⟩ := pk_lit (ke := ke3) (li := li) (c := 300 * b + 54) (by omega)
  rw [p4]
  simp only [obs]
  rw [show 300 * b + 54 + 6 = 300 * b + 60 by omega]
  obtain ⟨ke5, p5, w5, f5⟩ := pk_scenes (ke := ke4) (sa := sa) (c := 300 * b + 60) (by omega)
  rw [p5]
  simp only [obs]
  rw [show 300 * b + 60 + 6 = 300 * b + 66 by omega]
  obtain ⟨ke6, p6, w6, f6⟩ := pk_who (ke := ke5) (wh := wh) (c := 300 * b + 66) (by omega)
  rw [p6]
  simp only [obs]
  rw [show 300 * b + 66 + 54 = 300 * b + 120 by omega]
  obtain ⟨ke7, p7, w7, f7⟩ := pk_cell (ke := ke6) (ce := ce) (c := 300 * b + 120) (by omega)
  rw [p7]
  simp only [obs]
  rw [show 300 * b + 120 + 54 = 300 * b + 174 by omega]
  obtain ⟨ke8, p8, w8, f8⟩ := pk_minuteOf (ke := ke7) (mi := mi) (c := 300 * b + 174) (by omega)
  rw [p8]
  simp only [obs]
  rw [show 300 * b + 174 + 54 = 300 * b + 228 by omega]
  obtain ⟨ke9, p9, w9, f9⟩ := pk_standsAt (ke := ke8) (st := st) (c := 300 * b + 228) (by omega)
  rw [p9]
  simp only [obs]
  rw [show 300 * b + 228 + 4 = 300 * b + 232 by omega, pk1_ok (show 300 * b + 232 < 600 by omega)]
  simp only [obs]
  rw [show 300 * b + 232 + 1 = 300 * b + 233 by omega, pk1_ok (show 300 * b + 233 < 600 by omega)]
  simp only [obs]
  rw [show 300 * b + 233 + 1 = 300 * b + 234 by omega, pk1_ok (show 300 * b + 234 < 600 by omega)]
  simp only [obs]
  rw [show 300 * b + 234 + 1 = 300 * b + 235 by omega]
  have up : ∀ j, j < 300 * b + 232 ∨ 300 * b + 235 ≤ j → upd (upd (upd ke9 (300 * b + 232) (nI (tn T))) (300 * b + 233) (nI (tp T))) (300 * b + 234) (nI (tM T)) j = ke9 j := fun j hj => by rw [upd_n (by omega), upd_n (by omega), upd_n (by omega)]
  refine ⟨_, rfl, ⟨hR.cong hT (fun k hk => (up _ (by omega)).trans (((((((((((f9 _ (by omega))).trans (f8 _ (by omega))).trans (f7 _ (by omega))).trans (f6 _ (by omega))).trans (f5 _ (by omega))).trans (f4 _ (by omega))).trans (f3 _ (by omega))).trans (f2 _ (by omega))).trans (f1 _ (by omega))).trans (w0 k hk))) (fun k hk => (up _ (by omega)).trans ((((((((((f9 _ (by omega))).trans (f8 _ (by omega))).trans (f7 _ (by omega))).trans (f6 _ (by omega))).trans (f5 _ (by omega))).trans (f4 _ (by omega))).trans (f3 _ (by omega))).trans (f2 _ (by omega))).trans (w1 k hk))) (fun k hk => (up _ (by omega)).trans (((((((((f9 _ (by omega))).trans (f8 _ (by omega))).trans (f7 _ (by omega))).trans (f6 _ (by omega))).trans (f5 _ (by omega))).trans (f4 _ (by omega))).trans (f3 _ (by omega))).trans (w2 k hk))) (fun k hk => (up _ (by omega)).trans ((((((((f9 _ (by omega))).trans (f8 _ (by omega))).trans (f7 _ (by omega))).trans (f6 _ (by omega))).trans (f5 _ (by omega))).trans (f4 _ (by omega))).trans (w3 k hk))) (fun k hk => (up _ (by omega)).trans (((((((f9 _ (by omega))).trans (f8 _ (by omega))).trans (f7 _ (by omega))).trans (f6 _ (by omega))).trans (f5 _ (by omega))).trans (w4 k hk))) (fun k hk => (up _ (by omega)).trans ((((((f9 _ (by omega))).trans (f8 _ (by omega))).trans (f7 _ (by omega))).trans (f6 _ (by omega))).trans (w5 k hk))) (fun k hk => (up _ (by omega)).trans (((((f9 _ (by omega))).trans (f8 _ (by omega))).trans (f7 _ (by omega))).trans (w6 k hk))) (fun k hk => (up _ (by omega)).trans ((((f9 _ (by omega))).trans (f8 _ (by omega))).trans (w7 k hk))) (fun k hk => (up _ (by omega)).trans (((f9 _ (by omega))).trans (w8 k hk))) (fun k hk => (up _ (by omega)).trans ((w9 k hk))), ?_, ?_, ?_⟩, fun j hj => (up j (by omega)).trans (((((((((((f9 j (by omega))).trans (f8 j (by omega))).trans (f7 j (by omega))).trans (f6 j (by omega))).trans (f5 j (by omega))).trans (f4 j (by omega))).trans (f3 j (by omega))).trans (f2 j (by omega))).trans (f1 j (by omega))).trans (f0 j (by omega)))⟩
  · rw [upd_n (by omega), upd_n (by omega), upd_s]
  · rw [upd_n (by omega), upd_s]
  · rw [upd_s]
theorem xrest_ok (hT : TOK T) {b : Nat} (hb : b ≤ 1) (hK : RK T ke (300 * b)) {lm pe mn : Int32} : ∃ wa' ka' la' ra' li' sa' wh' ce' mi' st', f_X12_passesAll wa ka la ra li sa wh ce mi st lm pe mn ke ik cu (nI b) 0 = some (wa', ka', la', ra', li', sa', wh', ce', mi', st', nI (tn T), nI (tp T), nI (tM T), ke, 0, nI (300 * b + 235)) ∧ RT T wa' ka' la' ra' li' sa' wh' ce' mi' st' := by
  unfold f_X12_passesAll
  rw [gzb_0, show (300 : Int32) = nI 300 from rfl, pk_mul]
  obtain ⟨wa', p0, w0⟩ := pr_isWall (ke := ke) (wa := wa) (c := 300 * b) (by omega)
  rw [p0]
  simp only [obs]
  obtain ⟨ka', p1, w1⟩ := pr_kind (ke := ke) (ka := ka) (c := 300 * b + 36) (by omega)
  rw [p1]
  simp only [obs]
  rw [show 300 * b + 36 + 6 = 300 * b + 42 by omega]
  obtain ⟨la', p2, w2⟩ := pr_lampCell (ke := ke) (la := la) (c := 300 * b + 42) (by omega)
  rw [p2]
  simp only [obs]
  rw [show 300 * b + 42 + 6 = 300 * b + 48 by omega]
  obtain ⟨ra', p3, w3⟩ := pr_range (ke := ke) (ra := ra) (c := 300 * b + 48) (by omega)
  rw [p3]
  simp only [obs]
  rw [show 300 * b + 48 + 6 = 300 * b + 54 by omega]
  obtain ⟨li', p4, w4⟩ := pr_lit (ke := ke) (li := li) (c := 300 * b + 54) (by omega)
  rw [p4]
  simp only [obs]
  rw [show 300 * b + 54 + 6 = 300 * b + 60 by omega]
  obtain ⟨sa', p5, w5⟩ := pr_scenes (ke := ke) (sa := sa) (c := 300 * b + 60) (by omega)
  rw [p5]
  simp only [obs]
  rw [show 300 * b + 60 + 6 = 300 * b + 66 by omega]
  obtain ⟨wh', p6, w6⟩ := pr_who (ke := ke) (wh := wh) (c := 300 * b + 66) (by omega)
  rw [p6]
  simp only [obs]
  rw [show 300 * b + 66 + 54 = 300 * b + 120 by omega]
  obtain ⟨ce', p7, w7⟩ := pr_cell (ke := ke) (ce := ce) (c := 300 * b + 120) (by omega)
  rw [p7]
  simp only [obs]
  rw [show 300 * b + 120 + 54 = 300 * b + 174 by omega]
  obtain ⟨mi', p8, w8⟩ := pr_minuteOf (ke := ke) (mi := mi) (c := 300 * b + 174) (by omega)
  rw [p8]
  simp only [obs]
  rw [show 300 * b + 174 + 54 = 300 * b + 228 by omega]
  obtain ⟨st', p9, w9⟩ := pr_standsAt (ke := ke) (st := st) (c := 300 * b + 228) (by omega)
  rw [p9]
  simp only [obs]
  rw [show 300 * b + 228 + 4 = 300 * b + 232 by omega, pr1_ok (show 300 * b + 232 < 600 by omega)]
  simp only [obs]
  rw [show 300 * b + 232 + 1 = 300 * b + 233 by omega, pr1_ok (show 300 * b + 233 < 600 by omega)]
  simp only [obs]
  rw [show 300 * b + 233 + 1 = 300 * b + 234 by omega, pr1_ok (show 300 * b + 234 < 600 by omega)]
  simp only [obs]
  rw [show 300 * b + 234 + 1 = 300 * b + 235 by omega, hK.2.1, hK.2.2.1, hK.2.2.2]
  exact ⟨wa', ka', la', ra', li', sa', wh', ce', mi', st', rfl, hK.1.cong hT w0 w1 w2 w3 w4 w5 w6 w7 w8 w9⟩
end
