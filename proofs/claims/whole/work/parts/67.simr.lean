theorem sRl_new {r : Nat → Int32} {b : Nat} {v : Int32} (hv : ¬ v = -1) (h0 : r b = v) (h : ∀ k, 1 ≤ k → k < 31 → r (b + k) = -1) : sRl (fillv v 31) (fun _ => 0) r b := by
  have hb : ¬ r b = -1 := by rw [h0]; exact hv
  refine ⟨fun k hk => ?_, fun k k1 k2 => ⟨fun _ => h k k1 k2, fun _ => rfl⟩, hb⟩
  rw [tld_eq (r := r) (p0 := b) hb (b + k) (by omega) (fun j j1 j2 => by have := h (j - b) (by omega) (by omega); rw [show b + (j - b) = j by omega] at this; exact this), h0]
  exact if_pos hk
theorem inM_at {v : Int32} {n k : Nat} (h : k < n) : inM v n k = if k % 31 = 0 then v else -1 := if_pos h
theorem sRl_in {v : Int32} {n r : Nat} (hv : ¬ v = -1) (h : 31 * r + 31 ≤ n) : sRl (fillv v 31) (fun _ => 0) (inM v n) (31 * r) := by
  refine sRl_new hv ?_ (fun k k1 k2 => ?_)
  · rw [inM_at (by omega), if_pos (by omega)]
  · rw [inM_at (by omega), if_neg (by omega)]
theorem mu0_n {k : Nat} (h : k ≠ 18) : mu0 k = fun _ => 0 := up2_n h
theorem muC_4 : muC 160 4 = inM 0 248 := by
  unfold muC muB muA
  rw [upA_n (by decide), upA_n (by decide), upA_n (by decide), upA_s]
theorem muC_5 : muC 160 5 = inM 1000 93 := by
  unfold muC muB
  rw [upA_n (by decide), upA_n (by decide), upA_s]
theorem muC_6 : muC 160 6 = inM 1500 93 := by
  unfold muC muB
  rw [upA_n (by decide), upA_s]
theorem muC_7 : muC 160 7 = fillv (-1) 160 := by
  unfold muC
  rw [upA_s]
theorem muC_n {k : Nat} (h : k ≠ 4 ∧ k ≠ 5 ∧ k ≠ 6 ∧ k ≠ 7 ∧ k ≠ 18) : muC 160 k = fun _ => 0 := by
  unfold muC muB muA
  rw [upA_n h.2.2.2.1, upA_n h.2.2.1, upA_n h.2.1, upA_n h.1, mu0_n h.2.2.2.2]
theorem muC_18 : muC 160 18 0 = 20000 := by
  unfold muC muB muA mu0
  rw [upA_n (by decide), upA_n (by decide), upA_n (by decide), upA_n (by decide), up2_s, va_up_s]
theorem nI_zero : nI 0 = 0 := rfl
theorem n1_0 : ¬ (0 : Int32) = -1 := by decide
theorem n1_1000 : ¬ (1000 : Int32) = -1 := by decide
theorem n1_1500 : ¬ (1500 : Int32) = -1 := by decide
theorem kap0_odd {r : Nat} (h : ¬ r % 2 = 0) : kap0 2 r = fillv 1500 31 := if_neg h
theorem kap0_evn {r : Nat} (h : r % 2 = 0) : kap0 2 r = fillv 1000 31 := if_pos h
theorem Ic_kap0 : Ic 0 0 0 0 kap0 := ⟨by decide, by decide, by decide, by decide, fun w hw => absurd hw (Nat.not_lt_zero _), fun w hw => absurd hw (Nat.not_lt_zero _), fun w hw => absurd hw (Nat.not_lt_zero _), fun w hw => absurd hw (Nat.not_lt_zero _), fun w hw => absurd hw (Nat.not_lt_zero _), fun w hw => absurd hw (Nat.not_lt_zero _)⟩
theorem Im_muC : Im (muC 160) 0 0 0 0 := by
  refine ⟨by rw [muC_n (by decide)]; rfl, by decide, by rw [muC_n (by decide)]; rfl, by decide, by rw [muC_n (by decide)]; rfl, by decide, by rw [muC_n (by decide)]; rfl, by decide, fun w hw => ?_, fun i hi => ?_, fun r hr => ?_, fun w hw => absurd hw (Nat.not_lt_zero _), fun w hw => absurd hw (Nat.not_lt_zero _)⟩
  · rw [muC_4, inM_at (by omega), if_pos (by omega)]
    exact n1_0
  · rw [muC_4, inM_at hi]
    by_cases q : i % 31 = 0
    · rw [if_pos q]
      exact Or.inr ⟨0, by decide, rfl⟩
    · rw [if_neg q]
      exact Or.inl rfl
  · rw [muC_5, inM_at (by omega), if_pos (by omega)]
    exact n1_1000
theorem sim_init : Sim (muC 160) kap0 0 0 0 0 := by
  refine ⟨Im_muC, Ic_kap0, fun w hw => absurd hw (Nat.not_lt_zero _), fun w _ hw => ?_, ⟨fun r hr => ?_, fun i => ?_, fun r k hr hk => ?_⟩, ⟨fun i hi => absurd hi (Nat.not_lt_zero _), ?_, ?_, ?_⟩, ⟨fun e he => ?_, fun i hi => absurd hi (Nat.not_lt_zero _), fun i _ hi => ?_⟩⟩
  · refine ⟨fun s hs => ?_, ?_, ?_, fun k p hk hp => ?_, ?_⟩
    · rw [muC_7]
      exact if_pos (by omega)
    · rw [muC_n (by decide)]
    · rw [muC_n (by decide)]
    · rw [muC_n (by decide)]
    · rw [muC_4]
      exact sRl_in n1_0 (by omega)
  · rw [kap0_e, kap0_o, muC_5, muC_6]
    exact ⟨sRl_in n1_1000 (by omega), sRl_in n1_1500 (by omega)⟩
  · rw [muC_5, muC_6]
    by_cases q : i < 93
    · rw [inM_at q, inM_at q]
      by_cases z : i % 31 = 0
      · rw [if_pos z, if_pos z]
        exact ⟨fun h => absurd h n1_1000, fun h => absurd h n1_1500⟩
      · rw [if_neg z, if_neg z]
    · have e1 : inM 1000 93 i = 0 := if_neg q
      have e2 : inM 1500 93 i = 0 := if_neg q
      rw [e1, e2]
  · by_cases z : r % 2 = 0
    · have e : kap0 2 r k = 1000 := by rw [kap0_evn z]; exact if_pos hk
      rw [e]
      exact by decide +kernel
    · have e : kap0 2 r k = 1500 := by rw [kap0_odd z]; exact if_pos hk
      rw [e]
      exact by decide +kernel
  · rw [muC_18]
    rfl
  · rw [muC_18]
    exact by decide +kernel
  · rw [muC_18]
    exact by decide +kernel
  · rw [muC_n (by decide), muC_n (by decide)]
    exact ⟨rfl, rfl⟩
  · rw [muC_n (by decide)]
