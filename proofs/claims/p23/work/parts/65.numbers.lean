/-! THE LAW'S NUMBERS -/
theorem nI_div {a n : Nat} (ha : a < 2 ^ 31) (h0 : 0 < n) (hn : n < 2 ^ 31) : nI a / nI n = nI (a / n) := by
  apply i_ext
  have h1 := nI_toInt ha
  have h2 := nI_toInt hn
  have hd : a / n ≤ a := Nat.div_le_self a n
  have ht : ((a : Int).tdiv (n : Int)) = ((a / n : Nat) : Int) := by
    rw [Int.tdiv_eq_ediv_of_nonneg (by omega)]
    exact (Int.natCast_ediv a n).symm
  obtain ⟨q, eq⟩ : ∃ z, z = a / n := ⟨_, rfl⟩
  rw [← eq] at hd ht ⊢
  rw [Int32.toInt_div, h1, h2, nI_toInt (by omega), ht]
  exact Int.bmod_eq_of_le (by omega) (by omega)
theorem nI_rem {a n : Nat} (ha : a < 2 ^ 31) (h0 : 0 < n) (hn : n < 2 ^ 31) : nI a - nI a / nI n * nI n = nI (a % n) := by
  rw [nI_div ha h0 hn, nI_mul]
  have e : nI a = nI (a % n) + nI (a / n * n) := by
    rw [nI_add]
    exact congrArg nI (by have := Nat.mod_add_div a n; rw [Nat.mul_comm] at this; omega)
  rw [e, Int32.add_sub_cancel]
theorem and_nI (a : Int32) : ∃ x, x < 2 ^ 31 ∧ (a &&& 2147483647) = nI x := by
  refine ⟨(a.toBitVec &&& 2147483647#32).toNat, ?_, ?_⟩
  · rw [BitVec.toNat_and]
    exact Nat.lt_of_le_of_lt (Nat.and_le_right) (by decide)
  · apply Int32.toBitVec_inj.mp
    show a.toBitVec &&& 2147483647#32 = _
    unfold nI
    rw [Int32.toBitVec_ofNat']
    rw [BitVec.ofNat_toNat, BitVec.setWidth_eq]
theorem low_nI (a : Int32) {n : Nat} (h0 : 0 < n) (hn : n < 2 ^ 31) : ∃ q, q < n ∧ lowF a (nI n) = nI q := by
  obtain ⟨x, hx, e⟩ := and_nI a
  refine ⟨x % n, Nat.mod_lt _ h0, ?_⟩
  unfold lowF
  rw [e]
  exact nI_rem hx h0 hn
