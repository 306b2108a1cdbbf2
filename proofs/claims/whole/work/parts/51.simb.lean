/-! RULES: a value from some week on; the class holds each week's value, the reference the weeks told -/
theorem tld_none (r : Nat → Int32) : ∀ p j, tld r p < j → j ≤ p → r j = -1
  | 0, j, h1, h2 => by
    have : tld r 0 = 0 := rfl
    omega
  | n + 1, j, h1, h2 => by
    by_cases z : r (n + 1) = -1
    · by_cases q : j = n + 1
      · rw [q]; exact z
      · rw [tld_step (by omega) z] at h1
        exact tld_none r n j h1 (by omega)
    · rw [tld_stop z] at h1
      omega
theorem tld_eq {r : Nat → Int32} {p0 : Nat} (h0 : ¬ r p0 = -1) : ∀ p, p0 ≤ p → (∀ j, p0 < j → j ≤ p → r j = -1) → tld r p = p0
  | 0, h, _ => by
    have : p0 = 0 := by omega
    rw [this]; rfl
  | n + 1, h, hz => by
    by_cases q : p0 = n + 1
    · subst q
      exact tld_stop h0
    · rw [tld_step (by omega) (hz (n + 1) (by omega) (by omega))]
      exact tld_eq h0 n (by omega) (fun j h1 h2 => hz j h1 (by omega))
theorem tlV_out {t : Nat → Int32} {v : Int32} : ∀ (n i : Nat) (g : Nat → Int32) (k : Nat), k < i → tlV t v n i g k = g k
  | 0, _, _, _, _ => rfl
  | n + 1, i, g, k, hk => by
    unfold tlV
    by_cases z : t i = 0
    · rw [if_pos z, tlV_out n (i + 1) (va_up g i v) k (by omega), va_up_n (by omega)]
    · rw [if_neg z]
theorem tlV_in {t : Nat → Int32} {v : Int32} : ∀ (n i : Nat) (g : Nat → Int32) (k : Nat), i ≤ k → k < i + n → (∀ j, i ≤ j → j ≤ k → t j = 0) → tlV t v n i g k = v
  | 0, i, _, k, h1, h2, _ => by omega
  | n + 1, i, g, k, h1, h2, hz => by
    unfold tlV
    rw [if_pos (hz i (Nat.le_refl _) h1)]
    by_cases q : k = i
    · subst q
      rw [tlV_out n (k + 1) _ k (by omega), va_up_s]
    · exact tlV_in n (i + 1) _ k (by omega) (by omega) (fun j h3 h4 => hz j (by omega) h4)
theorem tlV_no {t : Nat → Int32} {v : Int32} : ∀ (n i : Nat) (g : Nat → Int32) (k j : Nat), i ≤ j → j ≤ k → ¬ t j = 0 → tlV t v n i g k = g k
  | 0, _, _, _, _, _, _, _ => rfl
  | n + 1, i, g, k, j, h1, h2, hj => by
    unfold tlV
    by_cases z : t i = 0
    · have hij : i ≠ j := fun q => hj (by rw [← q]; exact z)
      rw [if_pos z, tlV_no n (i + 1) (va_up g i v) k j (by omega) h2 hj, va_up_n (by omega)]
    · rw [if_neg z]
def sRl (g t r : Nat → Int32) (b : Nat) : Prop := (∀ k, k < 31 → g k = r (tld r (b + k))) ∧ (∀ k, 1 ≤ k → k < 31 → (t k = 0 ↔ r (b + k) = -1)) ∧ ¬ r b = -1
theorem sRl.tell {g t r : Nat → Int32} {b kv : Nat} {v : Int32} (h : sRl g t r b) (hk : kv < 31) (hv : ¬ v = -1) : sRl (tlV (va_up t kv 1) v (30 - kv) (kv + 1) (va_up g kv v)) (va_up t kv 1) (va_up r (b + kv) v) b := by
  obtain ⟨h1, h2, h3⟩ := h
  have hv2 : ¬ va_up r (b + kv) v (b + kv) = -1 := by rw [va_up_s]; exact hv
  refine ⟨fun k hk2 => ?_, fun k hk1 hk2 => ?_, ?_⟩
  · have hP1 := tld_le r (b + k)
    have hP2 := tld_ge h3 (b + k) (by omega)
    have hP3 := tld_ne h3 (b + k) (by omega)
    have hP4 := tld_none r (b + k)
    obtain ⟨P, eP⟩ : ∃ z, z = tld r (b + k) := ⟨_, rfl⟩
    rw [← eP] at hP1 hP2 hP3 hP4
    have hg := h1 k hk2
    rw [← eP] at hg
    rcases Nat.lt_or_ge k kv with q | q
    · rw [tlV_out _ _ _ k (by omega), va_up_n (by omega), tld_eq (r := va_up r (b + kv) v) (p0 := P) (by rw [va_up_n (by omega)]; exact hP3) (b + k) hP1 (fun j j1 j2 => by rw [va_up_n (by omega)]; exact hP4 j j1 j2), va_up_n (by omega)]
      exact hg
    · rcases Nat.lt_or_ge (b + kv) P with q2 | q2
      · have ht : ¬ va_up t kv 1 (P - b) = 0 := by
          rw [va_up_n (by omega)]
          intro z
          have := (h2 (P - b) (by omega) (by omega)).mp z
          rw [show b + (P - b) = P by omega] at this
          exact hP3 this
        rw [tlV_no _ _ _ k (P - b) (by omega) (by omega) ht, va_up_n (by omega), tld_eq (r := va_up r (b + kv) v) (p0 := P) (by rw [va_up_n (by omega)]; exact hP3) (b + k) hP1 (fun j j1 j2 => by rw [va_up_n (by omega)]; exact hP4 j j1 j2), va_up_n (by omega)]
        exact hg
      · rw [tld_eq (r := va_up r (b + kv) v) (p0 := b + kv) hv2 (b + k) (by omega) (fun j j1 j2 => by rw [va_up_n (by omega)]; exact hP4 j (by omega) j2), va_up_s]
        by_cases q3 : k = kv
        · subst q3
          rw [tlV_out _ _ _ k (by omega), va_up_s]
        · refine tlV_in _ _ _ k (by omega) (by omega) (fun j j1 j2 => ?_)
          rw [va_up_n (by omega)]
          exact (h2 j (by omega) (by omega)).mpr (hP4 (b + j) (by omega) (by omega))
  · by_cases q : k = kv
    · subst q
      rw [va_up_s, va_up_s]
      exact ⟨fun z => absurd z (by decide), fun z => absurd z hv⟩
    · rw [va_up_n q, va_up_n (by omega)]
      exact h2 k hk1 hk2
  · by_cases q : kv = 0
    · subst q
      exact hv2
    · rw [va_up_n (by omega)]
      exact h3
theorem sRl.other {g t r r2 : Nat → Int32} {b : Nat} (h : sRl g t r b) (he : ∀ j, b ≤ j → j < b + 31 → r2 j = r j) : sRl g t r2 b := by
  obtain ⟨h1, h2, h3⟩ := h
  refine ⟨fun k hk2 => ?_, fun k hk1 hk2 => ?_, ?_⟩
  · have hP1 := tld_le r (b + k)
    have hP2 := tld_ge h3 (b + k) (by omega)
    have hP3 := tld_ne h3 (b + k) (by omega)
    have hP4 := tld_none r (b + k)
    have hg := h1 k hk2
    obtain ⟨P, eP⟩ : ∃ z, z = tld r (b + k) := ⟨_, rfl⟩
    rw [← eP] at hP1 hP2 hP3 hP4 hg
    rw [tld_eq (r := r2) (p0 := P) (by rw [he P hP2 (by omega)]; exact hP3) (b + k) hP1 (fun j j1 j2 => by rw [he j (by omega) (by omega)]; exact hP4 j j1 j2), he P hP2 (by omega)]
    exact hg
  · rw [he (b + k) (by omega) (by omega)]
    exact h2 k hk1 hk2
  · rw [he b (by omega) (by omega)]
    exact h3
theorem tld_cg {r r2 : Nat → Int32} (h : ∀ i, r i = -1 ↔ r2 i = -1) : ∀ p, tld r p = tld r2 p
  | 0 => rfl
  | n + 1 => by
    by_cases z : r (n + 1) = -1
    · rw [tld_step (by omega) z, tld_step (by omega) ((h _).mp z)]
      exact tld_cg h n
    · rw [tld_stop z, tld_stop (fun q => z ((h _).mpr q))]
/-- the sheets that count -/
theorem cn_eq {g r : Nat → Int32} {b : Nat} (h : ∀ s, s < 20 → g s = r (b + s)) : ∀ n k, k + n ≤ 20 → cnR g n k = cntM r b n k
  | 0, _, _ => rfl
  | n + 1, k, hk => by
    unfold cnR cntM
    rw [h k (by omega), cn_eq h n (k + 1) (by omega)]
/-- counting goes on from where it stood -/
theorem cntM_go {r r2 : Nat → Int32} {b : Nat} : ∀ n k, (∀ j, k ≤ j → j < k + n → ¬ r (b + j) = -1 → ¬ r2 (b + j) = -1) → ∀ c, c = cntM r b n k → cntM r2 b n k = cntM r2 b (k + n - c) c
  | 0, k, _, c, hc => by
    have : c = k := hc
    rw [this, Nat.add_zero, Nat.sub_self]
  | n + 1, k, hz, c, hc => by
    unfold cntM at hc
    by_cases z : r (b + k) = -1
    · rw [if_pos z] at hc
      rw [hc, show k + (n + 1) - k = n + 1 by omega]
    · rw [if_neg z] at hc
      have ih := cntM_go n (k + 1) (fun j h1 h2 => hz j (by omega) (by omega)) c hc
      have hle := cntM_le (g := r) (b := b) n (k + 1)
      show (if r2 (b + k) = -1 then k else cntM r2 b n (k + 1)) = _
      rw [if_neg (hz k (Nat.le_refl _) (by omega) z), ih, show k + 1 + n - c = k + (n + 1) - c by omega]
