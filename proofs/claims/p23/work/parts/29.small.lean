/-! small laws of numbers and rows -/
theorem va_up_s {g : Nat → Int32} {i : Nat} {v : Int32} : va_up g i v i = v := if_pos rfl
theorem va_up_n {g : Nat → Int32} {i j : Nat} {v : Int32} (h : j ≠ i) : va_up g i v j = g j := if_neg h
theorem nI_mul (a b : Nat) : nI a * nI b = nI (a * b) := (Int32.ofNat_mul a b).symm
theorem fw_b1 {P : Prop} [Decidable P] (h : ¬ (if P then (1 : Int32) else 0) = 0) : P := by
  by_cases z : P
  · exact z
  · exact absurd (if_neg z) h
theorem fw_b0 {P : Prop} [Decidable P] (h : (if P then (1 : Int32) else 0) = 0) : ¬ P := by
  intro z
  rw [if_pos z] at h
  exact absurd h (by decide)
theorem fw_bz {P : Prop} [Decidable P] : narrow .boolean (.int (if P then (1 : Int32) else 0)) = .int (if P then (1 : Int32) else 0) := by
  by_cases z : P
  · rw [if_pos z]; decide +kernel
  · rw [if_neg z]; decide +kernel
abbrev inr (v a b : Int32) : Prop := a ≤ v ∧ v ≤ b
theorem inr_of {v N : Int32} {n : Nat} (hN : N.toInt = n) (h : inr v 0 N) : ∃ j, j ≤ n ∧ v = nI j := nI_of2 hN (Int32.not_lt.mpr h.1) h.2
theorem inr_w {v : Int32} {n : Nat} (hn : n < 100000) (h : inr v 0 (nI n - 1)) : ∃ j, j < n ∧ v = nI j := by
  cases n with
  | zero =>
    have h2 := h.2
    have h1 := h.1
    rw [Int32.le_iff_toInt_le] at h1 h2
    have e : (nI 0 - 1 : Int32).toInt = -1 := by decide +kernel
    rw [e] at h2
    have e0 : (0 : Int32).toInt = 0 := rfl
    omega
  | succ n =>
    rw [nI_pred] at h
    obtain ⟨j, h1, h2⟩ := nI_of2 (nI_toInt (by omega)) (Int32.not_lt.mpr h.1) h.2
    exact ⟨j, by omega, h2⟩
theorem nI_inj2 {a b : Nat} (h : nI a = nI b) (ha : a < 2 ^ 31) (hb : b < 2 ^ 31) : a = b := (nI_eq ha hb).mp h
theorem inr_nI {j n : Nat} (h : j ≤ n) (hn : n < 2 ^ 31) : inr (nI j) 0 (nI n) := ⟨nI_pos' (by omega), nI_le h hn⟩
theorem inr_wI {j n : Nat} (h : j < n) (hn : n < 2 ^ 31) : inr (nI j) 0 (nI n - 1) := by
  obtain ⟨b, rfl⟩ : ∃ b, n = b + 1 := ⟨n - 1, by omega⟩
  rw [nI_pred]
  exact inr_nI (by omega) (by omega)
